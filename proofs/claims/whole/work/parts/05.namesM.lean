theorem cd_mem {q : Cond} (i : Nat) (h : lw_tbl[i]? = some q) (hg : goodWord q = true) : q ∈ cd_ws := List.mem_filter.mpr ⟨List.mem_of_getElem? h, hg⟩
theorem cd_ci0 : cd_CI 0 cd_R0 cd_T0 5 cd_t0 := ⟨rfl, cd_in0, cd_ty0, cd_nm0⟩
theorem cd_ci1 : cd_CI 1 cd_R1 cd_T1 9 cd_t1 := ⟨rfl, cd_in1, cd_ty1, cd_nm1⟩
theorem cd_ci2 : cd_CI 2 cd_R2 cd_T2 3 cd_t2 := ⟨rfl, cd_in2, cd_ty2, cd_nm2⟩
theorem cd_ci3 : cd_CI 3 cd_R3 cd_T3 4 cd_t3 := ⟨rfl, cd_in3, cd_ty3, cd_nm3⟩
theorem cd_ci4 : cd_CI 4 cd_R4 cd_T4 9 cd_t4 := ⟨rfl, cd_in4, cd_ty4, cd_nm4⟩
theorem cd_ci5 : cd_CI 5 cd_R5 cd_T5 4 cd_t5 := ⟨rfl, cd_in5, cd_ty5, cd_nm5⟩
theorem cd_ci6 : cd_CI 6 cd_R6 cd_T6 10 cd_t6 := ⟨rfl, cd_in6, cd_ty6, cd_nm6⟩
theorem cd_ci7 : cd_CI 7 cd_R7 cd_T7 33 cd_t7 := ⟨rfl, cd_in7, cd_ty7, cd_nm7⟩
abbrev b_M_init : ByteArray := prog_9_method_1_code
abbrev m_M_init : cd_MT := (⟨"CatDoorsModel", "<init>", "()V"⟩, b_M_init, 1, none)
set_option maxRecDepth 100000 in
theorem mc_M_init : Cond.code m_M_init.1 m_M_init.2.1 m_M_init.2.2.1 m_M_init.2.2.2 ∈ cd_ws := cd_mem 828 rfl rfl
theorem mf_M_init : cd_MI m_M_init 0 := ⟨⟨mc_M_init, cd_mem 61 (by decide +kernel) rfl, by decide +kernel, by decide⟩, rfl, cd_mem 827 (by decide +kernel) rfl, rfl⟩
abbrev b_M_in : ByteArray := prog_9_method_2_code
abbrev m_M_in : cd_MT := (⟨"CatDoorsModel", "in", "(III)Z"⟩, b_M_in, 3, some .boolean)
set_option maxRecDepth 100000 in
theorem mc_M_in : Cond.code m_M_in.1 m_M_in.2.1 m_M_in.2.2.1 m_M_in.2.2.2 ∈ cd_ws := cd_mem 938 rfl rfl
theorem mf_M_in : cd_MS m_M_in 3 := ⟨⟨mc_M_in, cd_mem 61 (by decide +kernel) rfl, by decide +kernel, by decide⟩, cd_mem 937 (by decide +kernel) rfl⟩
abbrev b_M_within : ByteArray := prog_9_method_3_code
abbrev m_M_within : cd_MT := (⟨"CatDoorsModel", "within", "(III)I"⟩, b_M_within, 3, some .int)
set_option maxRecDepth 100000 in
theorem mc_M_within : Cond.code m_M_within.1 m_M_within.2.1 m_M_within.2.2.1 m_M_within.2.2.2 ∈ cd_ws := cd_mem 981 rfl rfl
theorem mf_M_within : cd_MS m_M_within 3 := ⟨⟨mc_M_within, cd_mem 61 (by decide +kernel) rfl, by decide +kernel, by decide⟩, cd_mem 980 (by decide +kernel) rfl⟩
abbrev b_M_copyAll : ByteArray := prog_9_method_4_code
abbrev m_M_copyAll : cd_MT := (⟨"CatDoorsModel", "copyAll", "([I[I)V"⟩, b_M_copyAll, 3, none)
set_option maxRecDepth 100000 in
theorem mc_M_copyAll : Cond.code m_M_copyAll.1 m_M_copyAll.2.1 m_M_copyAll.2.2.1 m_M_copyAll.2.2.2 ∈ cd_ws := cd_mem 1269 rfl rfl
theorem mf_M_copyAll : cd_MS m_M_copyAll 2 := ⟨⟨mc_M_copyAll, cd_mem 61 (by decide +kernel) rfl, by decide +kernel, by decide⟩, cd_mem 1268 (by decide +kernel) rfl⟩
abbrev b_M_isAsking : ByteArray := prog_9_method_5_code
abbrev m_M_isAsking : cd_MT := (⟨"CatDoorsModel", "isAsking", "(I)Z"⟩, b_M_isAsking, 2, some .boolean)
set_option maxRecDepth 100000 in
theorem mc_M_isAsking : Cond.code m_M_isAsking.1 m_M_isAsking.2.1 m_M_isAsking.2.2.1 m_M_isAsking.2.2.2 ∈ cd_ws := cd_mem 959 rfl rfl
theorem mf_M_isAsking : cd_MV m_M_isAsking 1 := ⟨⟨mc_M_isAsking, cd_mem 61 (by decide +kernel) rfl, by decide +kernel, by decide⟩, cd_mem 958 (by decide +kernel) rfl, cd_mem 18 (by decide +kernel) rfl⟩
abbrev b_M_of : ByteArray := prog_9_method_6_code
abbrev m_M_of : cd_MT := (⟨"CatDoorsModel", "of", "(II)I"⟩, b_M_of, 3, some .int)
set_option maxRecDepth 100000 in
theorem mc_M_of : Cond.code m_M_of.1 m_M_of.2.1 m_M_of.2.2.1 m_M_of.2.2.2 ∈ cd_ws := cd_mem 963 rfl rfl
theorem mf_M_of : cd_MV m_M_of 2 := ⟨⟨mc_M_of, cd_mem 61 (by decide +kernel) rfl, by decide +kernel, by decide⟩, cd_mem 962 (by decide +kernel) rfl, cd_mem 19 (by decide +kernel) rfl⟩
abbrev b_M_put : ByteArray := prog_9_method_7_code
abbrev m_M_put : cd_MT := (⟨"CatDoorsModel", "put", "(III)V"⟩, b_M_put, 4, none)
set_option maxRecDepth 100000 in
theorem mc_M_put : Cond.code m_M_put.1 m_M_put.2.1 m_M_put.2.2.1 m_M_put.2.2.2 ∈ cd_ws := cd_mem 951 rfl rfl
theorem mf_M_put : cd_MV m_M_put 3 := ⟨⟨mc_M_put, cd_mem 61 (by decide +kernel) rfl, by decide +kernel, by decide⟩, cd_mem 950 (by decide +kernel) rfl, cd_mem 17 (by decide +kernel) rfl⟩
abbrev b_M_becomes : ByteArray := prog_9_method_8_code
abbrev m_M_becomes : cd_MT := (⟨"CatDoorsModel", "becomes", "(II)I"⟩, b_M_becomes, 4, some .int)
set_option maxRecDepth 100000 in
theorem mc_M_becomes : Cond.code m_M_becomes.1 m_M_becomes.2.1 m_M_becomes.2.2.1 m_M_becomes.2.2.2 ∈ cd_ws := cd_mem 1017 rfl rfl
theorem mf_M_becomes : cd_MV m_M_becomes 2 := ⟨⟨mc_M_becomes, cd_mem 61 (by decide +kernel) rfl, by decide +kernel, by decide⟩, cd_mem 1016 (by decide +kernel) rfl, cd_mem 28 (by decide +kernel) rfl⟩
abbrev b_M_comes : ByteArray := prog_9_method_9_code
abbrev m_M_comes : cd_MT := (⟨"CatDoorsModel", "comes", "(IIII)I"⟩, b_M_comes, 6, some .int)
set_option maxRecDepth 100000 in
theorem mc_M_comes : Cond.code m_M_comes.1 m_M_comes.2.1 m_M_comes.2.2.1 m_M_comes.2.2.2 ∈ cd_ws := cd_mem 947 rfl rfl
theorem mf_M_comes : cd_MV m_M_comes 4 := ⟨⟨mc_M_comes, cd_mem 61 (by decide +kernel) rfl, by decide +kernel, by decide⟩, cd_mem 946 (by decide +kernel) rfl, cd_mem 16 (by decide +kernel) rfl⟩
abbrev b_M_isOf : ByteArray := prog_9_method_10_code
abbrev m_M_isOf : cd_MT := (⟨"CatDoorsModel", "isOf", "(II)Z"⟩, b_M_isOf, 2, some .boolean)
set_option maxRecDepth 100000 in
theorem mc_M_isOf : Cond.code m_M_isOf.1 m_M_isOf.2.1 m_M_isOf.2.2.1 m_M_isOf.2.2.2 ∈ cd_ws := cd_mem 941 rfl rfl
theorem mf_M_isOf : cd_MS m_M_isOf 2 := ⟨⟨mc_M_isOf, cd_mem 61 (by decide +kernel) rfl, by decide +kernel, by decide⟩, cd_mem 940 (by decide +kernel) rfl⟩
abbrev b_M_asking : ByteArray := prog_9_method_11_code
abbrev m_M_asking : cd_MT := (⟨"CatDoorsModel", "asking", "(IIII)I"⟩, b_M_asking, 5, some .int)
set_option maxRecDepth 100000 in
theorem mc_M_asking : Cond.code m_M_asking.1 m_M_asking.2.1 m_M_asking.2.2.1 m_M_asking.2.2.2 ∈ cd_ws := cd_mem 935 rfl rfl
theorem mf_M_asking : cd_MV m_M_asking 4 := ⟨⟨mc_M_asking, cd_mem 61 (by decide +kernel) rfl, by decide +kernel, by decide⟩, cd_mem 933 (by decide +kernel) rfl, cd_mem 934 (by decide +kernel) rfl⟩
abbrev b_M_pressesOf : ByteArray := prog_9_method_12_code
abbrev m_M_pressesOf : cd_MT := (⟨"CatDoorsModel", "pressesOf", "(I)I"⟩, b_M_pressesOf, 5, some .int)
set_option maxRecDepth 100000 in
theorem mc_M_pressesOf : Cond.code m_M_pressesOf.1 m_M_pressesOf.2.1 m_M_pressesOf.2.2.1 m_M_pressesOf.2.2.2 ∈ cd_ws := cd_mem 967 rfl rfl
theorem mf_M_pressesOf : cd_MV m_M_pressesOf 1 := ⟨⟨mc_M_pressesOf, cd_mem 61 (by decide +kernel) rfl, by decide +kernel, by decide⟩, cd_mem 966 (by decide +kernel) rfl, cd_mem 20 (by decide +kernel) rfl⟩
abbrev b_M_learnsOf : ByteArray := prog_9_method_13_code
abbrev m_M_learnsOf : cd_MT := (⟨"CatDoorsModel", "learnsOf", "(I)I"⟩, b_M_learnsOf, 2, some .int)
set_option maxRecDepth 100000 in
theorem mc_M_learnsOf : Cond.code m_M_learnsOf.1 m_M_learnsOf.2.1 m_M_learnsOf.2.2.1 m_M_learnsOf.2.2.2 ∈ cd_ws := cd_mem 985 rfl rfl
theorem mf_M_learnsOf : cd_MV m_M_learnsOf 1 := ⟨⟨mc_M_learnsOf, cd_mem 61 (by decide +kernel) rfl, by decide +kernel, by decide⟩, cd_mem 984 (by decide +kernel) rfl, cd_mem 23 (by decide +kernel) rfl⟩
abbrev b_M_forgetsOf : ByteArray := prog_9_method_14_code
abbrev m_M_forgetsOf : cd_MT := (⟨"CatDoorsModel", "forgetsOf", "(I)I"⟩, b_M_forgetsOf, 2, some .int)
set_option maxRecDepth 100000 in
theorem mc_M_forgetsOf : Cond.code m_M_forgetsOf.1 m_M_forgetsOf.2.1 m_M_forgetsOf.2.2.1 m_M_forgetsOf.2.2.2 ∈ cd_ws := cd_mem 989 rfl rfl
theorem mf_M_forgetsOf : cd_MV m_M_forgetsOf 1 := ⟨⟨mc_M_forgetsOf, cd_mem 61 (by decide +kernel) rfl, by decide +kernel, by decide⟩, cd_mem 988 (by decide +kernel) rfl, cd_mem 24 (by decide +kernel) rfl⟩
abbrev b_M_scratchesOf : ByteArray := prog_9_method_15_code
abbrev m_M_scratchesOf : cd_MT := (⟨"CatDoorsModel", "scratchesOf", "(I)I"⟩, b_M_scratchesOf, 2, some .int)
set_option maxRecDepth 100000 in
theorem mc_M_scratchesOf : Cond.code m_M_scratchesOf.1 m_M_scratchesOf.2.1 m_M_scratchesOf.2.2.1 m_M_scratchesOf.2.2.2 ∈ cd_ws := cd_mem 993 rfl rfl
theorem mf_M_scratchesOf : cd_MV m_M_scratchesOf 1 := ⟨⟨mc_M_scratchesOf, cd_mem 61 (by decide +kernel) rfl, by decide +kernel, by decide⟩, cd_mem 992 (by decide +kernel) rfl, cd_mem 25 (by decide +kernel) rfl⟩
abbrev b_M_meantBy : ByteArray := prog_9_method_16_code
abbrev m_M_meantBy : cd_MT := (⟨"CatDoorsModel", "meantBy", "(I)I"⟩, b_M_meantBy, 3, some .int)
set_option maxRecDepth 100000 in
theorem mc_M_meantBy : Cond.code m_M_meantBy.1 m_M_meantBy.2.1 m_M_meantBy.2.2.1 m_M_meantBy.2.2.2 ∈ cd_ws := cd_mem 997 rfl rfl
theorem mf_M_meantBy : cd_MV m_M_meantBy 1 := ⟨⟨mc_M_meantBy, cd_mem 61 (by decide +kernel) rfl, by decide +kernel, by decide⟩, cd_mem 996 (by decide +kernel) rfl, cd_mem 26 (by decide +kernel) rfl⟩
abbrev b_M_worthOf : ByteArray := prog_9_method_17_code
abbrev m_M_worthOf : cd_MT := (⟨"CatDoorsModel", "worthOf", "(I)I"⟩, b_M_worthOf, 3, some .int)
set_option maxRecDepth 100000 in
theorem mc_M_worthOf : Cond.code m_M_worthOf.1 m_M_worthOf.2.1 m_M_worthOf.2.2.1 m_M_worthOf.2.2.2 ∈ cd_ws := cd_mem 1001 rfl rfl
theorem mf_M_worthOf : cd_MV m_M_worthOf 1 := ⟨⟨mc_M_worthOf, cd_mem 61 (by decide +kernel) rfl, by decide +kernel, by decide⟩, cd_mem 1000 (by decide +kernel) rfl, cd_mem 27 (by decide +kernel) rfl⟩
abbrev b_M_told : ByteArray := prog_9_method_18_code
abbrev m_M_told : cd_MT := (⟨"CatDoorsModel", "told", "(II)I"⟩, b_M_told, 3, some .int)
set_option maxRecDepth 100000 in
theorem mc_M_told : Cond.code m_M_told.1 m_M_told.2.1 m_M_told.2.2.1 m_M_told.2.2.2 ∈ cd_ws := cd_mem 955 rfl rfl
theorem mf_M_told : cd_MV m_M_told 2 := ⟨⟨mc_M_told, cd_mem 61 (by decide +kernel) rfl, by decide +kernel, by decide⟩, cd_mem 953 (by decide +kernel) rfl, cd_mem 954 (by decide +kernel) rfl⟩
abbrev b_M_isUnder : ByteArray := prog_9_method_19_code
abbrev m_M_isUnder : cd_MT := (⟨"CatDoorsModel", "isUnder", "(II)Z"⟩, b_M_isUnder, 2, some .boolean)
set_option maxRecDepth 100000 in
theorem mc_M_isUnder : Cond.code m_M_isUnder.1 m_M_isUnder.2.1 m_M_isUnder.2.2.1 m_M_isUnder.2.2.2 ∈ cd_ws := cd_mem 1008 rfl rfl
theorem mf_M_isUnder : cd_MS m_M_isUnder 2 := ⟨⟨mc_M_isUnder, cd_mem 61 (by decide +kernel) rfl, by decide +kernel, by decide⟩, cd_mem 1007 (by decide +kernel) rfl⟩
abbrev b_M_as : ByteArray := prog_9_method_20_code
abbrev m_M_as : cd_MT := (⟨"CatDoorsModel", "as", "(II)I"⟩, b_M_as, 3, some .int)
set_option maxRecDepth 100000 in
theorem mc_M_as : Cond.code m_M_as.1 m_M_as.2.1 m_M_as.2.2.1 m_M_as.2.2.2 ∈ cd_ws := cd_mem 1005 rfl rfl
theorem mf_M_as : cd_MV m_M_as 2 := ⟨⟨mc_M_as, cd_mem 61 (by decide +kernel) rfl, by decide +kernel, by decide⟩, cd_mem 1003 (by decide +kernel) rfl, cd_mem 1004 (by decide +kernel) rfl⟩
abbrev b_M_turns : ByteArray := prog_9_method_21_code
abbrev m_M_turns : cd_MT := (⟨"CatDoorsModel", "turns", "(II)I"⟩, b_M_turns, 3, some .int)
set_option maxRecDepth 100000 in
theorem mc_M_turns : Cond.code m_M_turns.1 m_M_turns.2.1 m_M_turns.2.2.1 m_M_turns.2.2.2 ∈ cd_ws := cd_mem 1013 rfl rfl
theorem mf_M_turns : cd_MV m_M_turns 2 := ⟨⟨mc_M_turns, cd_mem 61 (by decide +kernel) rfl, by decide +kernel, by decide⟩, cd_mem 1011 (by decide +kernel) rfl, cd_mem 1012 (by decide +kernel) rfl⟩
abbrev b_M_set : ByteArray := prog_9_method_22_code
abbrev m_M_set : cd_MT := (⟨"CatDoorsModel", "set", "(III)I"⟩, b_M_set, 4, some .int)
set_option maxRecDepth 100000 in
theorem mc_M_set : Cond.code m_M_set.1 m_M_set.2.1 m_M_set.2.2.1 m_M_set.2.2.2 ∈ cd_ws := cd_mem 1021 rfl rfl
theorem mf_M_set : cd_MV m_M_set 3 := ⟨⟨mc_M_set, cd_mem 61 (by decide +kernel) rfl, by decide +kernel, by decide⟩, cd_mem 1019 (by decide +kernel) rfl, cd_mem 1020 (by decide +kernel) rfl⟩
abbrev b_M_rule : ByteArray := prog_9_method_23_code
abbrev m_M_rule : cd_MT := (⟨"CatDoorsModel", "rule", "(II)I"⟩, b_M_rule, 4, some .int)
set_option maxRecDepth 100000 in
theorem mc_M_rule : Cond.code m_M_rule.1 m_M_rule.2.1 m_M_rule.2.2.1 m_M_rule.2.2.2 ∈ cd_ws := cd_mem 1025 rfl rfl
theorem mf_M_rule : cd_MV m_M_rule 2 := ⟨⟨mc_M_rule, cd_mem 61 (by decide +kernel) rfl, by decide +kernel, by decide⟩, cd_mem 1023 (by decide +kernel) rfl, cd_mem 1024 (by decide +kernel) rfl⟩
abbrev b_M_draw : ByteArray := prog_9_method_24_code
abbrev m_M_draw : cd_MT := (⟨"CatDoorsModel", "draw", "()I"⟩, b_M_draw, 1, some .int)
set_option maxRecDepth 100000 in
theorem mc_M_draw : Cond.code m_M_draw.1 m_M_draw.2.1 m_M_draw.2.2.1 m_M_draw.2.2.2 ∈ cd_ws := cd_mem 1045 rfl rfl
theorem mf_M_draw : cd_MV m_M_draw 0 := ⟨⟨mc_M_draw, cd_mem 61 (by decide +kernel) rfl, by decide +kernel, by decide⟩, cd_mem 1044 (by decide +kernel) rfl, cd_mem 32 (by decide +kernel) rfl⟩
abbrev b_M_goes : ByteArray := prog_9_method_25_code
abbrev m_M_goes : cd_MT := (⟨"CatDoorsModel", "goes", "()I"⟩, b_M_goes, 1, some .int)
set_option maxRecDepth 100000 in
theorem mc_M_goes : Cond.code m_M_goes.1 m_M_goes.2.1 m_M_goes.2.2.1 m_M_goes.2.2.2 ∈ cd_ws := cd_mem 1050 rfl rfl
theorem mf_M_goes : cd_MV m_M_goes 0 := ⟨⟨mc_M_goes, cd_mem 61 (by decide +kernel) rfl, by decide +kernel, by decide⟩, cd_mem 1049 (by decide +kernel) rfl, cd_mem 33 (by decide +kernel) rfl⟩
abbrev b_M_goesAsMeant : ByteArray := prog_9_method_26_code
abbrev m_M_goesAsMeant : cd_MT := (⟨"CatDoorsModel", "goesAsMeant", "(I)I"⟩, b_M_goesAsMeant, 2, some .int)
set_option maxRecDepth 100000 in
theorem mc_M_goesAsMeant : Cond.code m_M_goesAsMeant.1 m_M_goesAsMeant.2.1 m_M_goesAsMeant.2.2.1 m_M_goesAsMeant.2.2.2 ∈ cd_ws := cd_mem 1041 rfl rfl
theorem mf_M_goesAsMeant : cd_MV m_M_goesAsMeant 1 := ⟨⟨mc_M_goesAsMeant, cd_mem 61 (by decide +kernel) rfl, by decide +kernel, by decide⟩, cd_mem 1040 (by decide +kernel) rfl, cd_mem 31 (by decide +kernel) rfl⟩
abbrev b_M_learns : ByteArray := prog_9_method_27_code
abbrev m_M_learns : cd_MT := (⟨"CatDoorsModel", "learns", "(I)V"⟩, b_M_learns, 2, none)
set_option maxRecDepth 100000 in
theorem mc_M_learns : Cond.code m_M_learns.1 m_M_learns.2.1 m_M_learns.2.2.1 m_M_learns.2.2.2 ∈ cd_ws := cd_mem 1037 rfl rfl
theorem mf_M_learns : cd_MV m_M_learns 1 := ⟨⟨mc_M_learns, cd_mem 61 (by decide +kernel) rfl, by decide +kernel, by decide⟩, cd_mem 1036 (by decide +kernel) rfl, cd_mem 30 (by decide +kernel) rfl⟩
abbrev b_M_rises : ByteArray := prog_9_method_28_code
abbrev m_M_rises : cd_MT := (⟨"CatDoorsModel", "rises", "(I)I"⟩, b_M_rises, 2, some .int)
set_option maxRecDepth 100000 in
theorem mc_M_rises : Cond.code m_M_rises.1 m_M_rises.2.1 m_M_rises.2.2.1 m_M_rises.2.2.2 ∈ cd_ws := cd_mem 1033 rfl rfl
theorem mf_M_rises : cd_MV m_M_rises 1 := ⟨⟨mc_M_rises, cd_mem 61 (by decide +kernel) rfl, by decide +kernel, by decide⟩, cd_mem 1032 (by decide +kernel) rfl, cd_mem 29 (by decide +kernel) rfl⟩
abbrev b_M_opens : ByteArray := prog_9_method_29_code
abbrev m_M_opens : cd_MT := (⟨"CatDoorsModel", "opens", "(I)I"⟩, b_M_opens, 2, some .int)
set_option maxRecDepth 100000 in
theorem mc_M_opens : Cond.code m_M_opens.1 m_M_opens.2.1 m_M_opens.2.2.1 m_M_opens.2.2.2 ∈ cd_ws := cd_mem 1029 rfl rfl
theorem mf_M_opens : cd_MV m_M_opens 1 := ⟨⟨mc_M_opens, cd_mem 61 (by decide +kernel) rfl, by decide +kernel, by decide⟩, cd_mem 1027 (by decide +kernel) rfl, cd_mem 1028 (by decide +kernel) rfl⟩
abbrev b_M_deal : ByteArray := prog_9_method_30_code
abbrev m_M_deal : cd_MT := (⟨"CatDoorsModel", "deal", "(I)I"⟩, b_M_deal, 7, some .int)
set_option maxRecDepth 100000 in
theorem mc_M_deal : Cond.code m_M_deal.1 m_M_deal.2.1 m_M_deal.2.2.1 m_M_deal.2.2.2 ∈ cd_ws := cd_mem 1054 rfl rfl
theorem mf_M_deal : cd_MV m_M_deal 1 := ⟨⟨mc_M_deal, cd_mem 61 (by decide +kernel) rfl, by decide +kernel, by decide⟩, cd_mem 1052 (by decide +kernel) rfl, cd_mem 1053 (by decide +kernel) rfl⟩
abbrev b_M_seed : ByteArray := prog_9_method_31_code
abbrev m_M_seed : cd_MT := (⟨"CatDoorsModel", "seed", "(I)I"⟩, b_M_seed, 2, some .int)
set_option maxRecDepth 100000 in
theorem mc_M_seed : Cond.code m_M_seed.1 m_M_seed.2.1 m_M_seed.2.2.1 m_M_seed.2.2.2 ∈ cd_ws := cd_mem 1058 rfl rfl
theorem mf_M_seed : cd_MV m_M_seed 1 := ⟨⟨mc_M_seed, cd_mem 61 (by decide +kernel) rfl, by decide +kernel, by decide⟩, cd_mem 1056 (by decide +kernel) rfl, cd_mem 1057 (by decide +kernel) rfl⟩
abbrev b_M_asks : ByteArray := prog_9_method_32_code
abbrev m_M_asks : cd_MT := (⟨"CatDoorsModel", "asks", "(I)V"⟩, b_M_asks, 3, none)
set_option maxRecDepth 100000 in
theorem mc_M_asks : Cond.code m_M_asks.1 m_M_asks.2.1 m_M_asks.2.2.1 m_M_asks.2.2.2 ∈ cd_ws := cd_mem 1074 rfl rfl
theorem mf_M_asks : cd_MV m_M_asks 1 := ⟨⟨mc_M_asks, cd_mem 61 (by decide +kernel) rfl, by decide +kernel, by decide⟩, cd_mem 1073 (by decide +kernel) rfl, cd_mem 36 (by decide +kernel) rfl⟩
abbrev b_M_hour : ByteArray := prog_9_method_33_code
abbrev m_M_hour : cd_MT := (⟨"CatDoorsModel", "hour", "()V"⟩, b_M_hour, 2, none)
set_option maxRecDepth 100000 in
theorem mc_M_hour : Cond.code m_M_hour.1 m_M_hour.2.1 m_M_hour.2.2.1 m_M_hour.2.2.2 ∈ cd_ws := cd_mem 1070 rfl rfl
theorem mf_M_hour : cd_MV m_M_hour 0 := ⟨⟨mc_M_hour, cd_mem 61 (by decide +kernel) rfl, by decide +kernel, by decide⟩, cd_mem 1069 (by decide +kernel) rfl, cd_mem 35 (by decide +kernel) rfl⟩
abbrev b_M_goesOn : ByteArray := prog_9_method_34_code
abbrev m_M_goesOn : cd_MT := (⟨"CatDoorsModel", "goesOn", "(I)V"⟩, b_M_goesOn, 3, none)
set_option maxRecDepth 100000 in
theorem mc_M_goesOn : Cond.code m_M_goesOn.1 m_M_goesOn.2.1 m_M_goesOn.2.2.1 m_M_goesOn.2.2.2 ∈ cd_ws := cd_mem 1066 rfl rfl
theorem mf_M_goesOn : cd_MV m_M_goesOn 1 := ⟨⟨mc_M_goesOn, cd_mem 61 (by decide +kernel) rfl, by decide +kernel, by decide⟩, cd_mem 1065 (by decide +kernel) rfl, cd_mem 34 (by decide +kernel) rfl⟩
abbrev b_M_hours : ByteArray := prog_9_method_35_code
abbrev m_M_hours : cd_MT := (⟨"CatDoorsModel", "hours", "(I)I"⟩, b_M_hours, 3, some .int)
set_option maxRecDepth 100000 in
theorem mc_M_hours : Cond.code m_M_hours.1 m_M_hours.2.1 m_M_hours.2.2.1 m_M_hours.2.2.2 ∈ cd_ws := cd_mem 1062 rfl rfl
theorem mf_M_hours : cd_MV m_M_hours 1 := ⟨⟨mc_M_hours, cd_mem 61 (by decide +kernel) rfl, by decide +kernel, by decide⟩, cd_mem 1060 (by decide +kernel) rfl, cd_mem 1061 (by decide +kernel) rfl⟩
abbrev b_M_habits : ByteArray := prog_9_method_36_code
abbrev m_M_habits : cd_MT := (⟨"CatDoorsModel", "habits", "()I"⟩, b_M_habits, 3, some .int)
set_option maxRecDepth 100000 in
theorem mc_M_habits : Cond.code m_M_habits.1 m_M_habits.2.1 m_M_habits.2.2.1 m_M_habits.2.2.2 ∈ cd_ws := cd_mem 1082 rfl rfl
theorem mf_M_habits : cd_MV m_M_habits 0 := ⟨⟨mc_M_habits, cd_mem 61 (by decide +kernel) rfl, by decide +kernel, by decide⟩, cd_mem 1081 (by decide +kernel) rfl, cd_mem 37 (by decide +kernel) rfl⟩
abbrev b_M_nextOnes : ByteArray := prog_9_method_37_code
abbrev m_M_nextOnes : cd_MT := (⟨"CatDoorsModel", "nextOnes", "()I"⟩, b_M_nextOnes, 4, some .int)
set_option maxRecDepth 100000 in
theorem mc_M_nextOnes : Cond.code m_M_nextOnes.1 m_M_nextOnes.2.1 m_M_nextOnes.2.2.1 m_M_nextOnes.2.2.2 ∈ cd_ws := cd_mem 1086 rfl rfl
theorem mf_M_nextOnes : cd_MV m_M_nextOnes 0 := ⟨⟨mc_M_nextOnes, cd_mem 61 (by decide +kernel) rfl, by decide +kernel, by decide⟩, cd_mem 1085 (by decide +kernel) rfl, cd_mem 38 (by decide +kernel) rfl⟩
abbrev b_M_house : ByteArray := prog_9_method_38_code
abbrev m_M_house : cd_MT := (⟨"CatDoorsModel", "house", "(I)I"⟩, b_M_house, 2, some .int)
set_option maxRecDepth 100000 in
theorem mc_M_house : Cond.code m_M_house.1 m_M_house.2.1 m_M_house.2.2.1 m_M_house.2.2.2 ∈ cd_ws := cd_mem 1078 rfl rfl
theorem mf_M_house : cd_MV m_M_house 1 := ⟨⟨mc_M_house, cd_mem 61 (by decide +kernel) rfl, by decide +kernel, by decide⟩, cd_mem 1076 (by decide +kernel) rfl, cd_mem 1077 (by decide +kernel) rfl⟩
abbrev b_M_thinks : ByteArray := prog_9_method_39_code
abbrev m_M_thinks : cd_MT := (⟨"CatDoorsModel", "thinks", "()V"⟩, b_M_thinks, 2, none)
set_option maxRecDepth 100000 in
theorem mc_M_thinks : Cond.code m_M_thinks.1 m_M_thinks.2.1 m_M_thinks.2.2.1 m_M_thinks.2.2.2 ∈ cd_ws := cd_mem 1094 rfl rfl
theorem mf_M_thinks : cd_MV m_M_thinks 0 := ⟨⟨mc_M_thinks, cd_mem 61 (by decide +kernel) rfl, by decide +kernel, by decide⟩, cd_mem 1093 (by decide +kernel) rfl, cd_mem 39 (by decide +kernel) rfl⟩
abbrev b_M_putsBack : ByteArray := prog_9_method_40_code
abbrev m_M_putsBack : cd_MT := (⟨"CatDoorsModel", "putsBack", "()V"⟩, b_M_putsBack, 2, none)
set_option maxRecDepth 100000 in
theorem mc_M_putsBack : Cond.code m_M_putsBack.1 m_M_putsBack.2.1 m_M_putsBack.2.2.1 m_M_putsBack.2.2.2 ∈ cd_ws := cd_mem 1098 rfl rfl
theorem mf_M_putsBack : cd_MV m_M_putsBack 0 := ⟨⟨mc_M_putsBack, cd_mem 61 (by decide +kernel) rfl, by decide +kernel, by decide⟩, cd_mem 1097 (by decide +kernel) rfl, cd_mem 40 (by decide +kernel) rfl⟩
abbrev b_M_behind : ByteArray := prog_9_method_41_code
abbrev m_M_behind : cd_MT := (⟨"CatDoorsModel", "behind", "(II)I"⟩, b_M_behind, 4, some .int)
set_option maxRecDepth 100000 in
theorem mc_M_behind : Cond.code m_M_behind.1 m_M_behind.2.1 m_M_behind.2.2.1 m_M_behind.2.2.2 ∈ cd_ws := cd_mem 1090 rfl rfl
theorem mf_M_behind : cd_MV m_M_behind 2 := ⟨⟨mc_M_behind, cd_mem 61 (by decide +kernel) rfl, by decide +kernel, by decide⟩, cd_mem 1088 (by decide +kernel) rfl, cd_mem 1089 (by decide +kernel) rfl⟩
abbrev b_M_quiet : ByteArray := prog_9_method_42_code
abbrev m_M_quiet : cd_MT := (⟨"CatDoorsModel", "quiet", "()I"⟩, b_M_quiet, 2, some .int)
set_option maxRecDepth 100000 in
theorem mc_M_quiet : Cond.code m_M_quiet.1 m_M_quiet.2.1 m_M_quiet.2.2.1 m_M_quiet.2.2.2 ∈ cd_ws := cd_mem 1102 rfl rfl
theorem mf_M_quiet : cd_MV m_M_quiet 0 := ⟨⟨mc_M_quiet, cd_mem 61 (by decide +kernel) rfl, by decide +kernel, by decide⟩, cd_mem 1100 (by decide +kernel) rfl, cd_mem 1101 (by decide +kernel) rfl⟩
abbrev b_M_habitsBehind : ByteArray := prog_9_method_43_code
abbrev m_M_habitsBehind : cd_MT := (⟨"CatDoorsModel", "habitsBehind", "(I)I"⟩, b_M_habitsBehind, 3, some .int)
set_option maxRecDepth 100000 in
theorem mc_M_habitsBehind : Cond.code m_M_habitsBehind.1 m_M_habitsBehind.2.1 m_M_habitsBehind.2.2.1 m_M_habitsBehind.2.2.2 ∈ cd_ws := cd_mem 1111 rfl rfl
theorem mf_M_habitsBehind : cd_MV m_M_habitsBehind 1 := ⟨⟨mc_M_habitsBehind, cd_mem 61 (by decide +kernel) rfl, by decide +kernel, by decide⟩, cd_mem 1110 (by decide +kernel) rfl, cd_mem 41 (by decide +kernel) rfl⟩
abbrev b_M_risingsBehind : ByteArray := prog_9_method_44_code
abbrev m_M_risingsBehind : cd_MT := (⟨"CatDoorsModel", "risingsBehind", "(I)I"⟩, b_M_risingsBehind, 3, some .int)
set_option maxRecDepth 100000 in
theorem mc_M_risingsBehind : Cond.code m_M_risingsBehind.1 m_M_risingsBehind.2.1 m_M_risingsBehind.2.2.1 m_M_risingsBehind.2.2.2 ∈ cd_ws := cd_mem 1123 rfl rfl
theorem mf_M_risingsBehind : cd_MV m_M_risingsBehind 1 := ⟨⟨mc_M_risingsBehind, cd_mem 61 (by decide +kernel) rfl, by decide +kernel, by decide⟩, cd_mem 1122 (by decide +kernel) rfl, cd_mem 42 (by decide +kernel) rfl⟩
abbrev b_M_firm : ByteArray := prog_9_method_45_code
abbrev m_M_firm : cd_MT := (⟨"CatDoorsModel", "firm", "(II)I"⟩, b_M_firm, 7, some .int)
set_option maxRecDepth 100000 in
theorem mc_M_firm : Cond.code m_M_firm.1 m_M_firm.2.1 m_M_firm.2.2.1 m_M_firm.2.2.2 ∈ cd_ws := cd_mem 1107 rfl rfl
theorem mf_M_firm : cd_MV m_M_firm 2 := ⟨⟨mc_M_firm, cd_mem 61 (by decide +kernel) rfl, by decide +kernel, by decide⟩, cd_mem 1105 (by decide +kernel) rfl, cd_mem 1106 (by decide +kernel) rfl⟩
abbrev b_M_givenIn : ByteArray := prog_9_method_46_code
abbrev m_M_givenIn : cd_MT := (⟨"CatDoorsModel", "givenIn", "(II)I"⟩, b_M_givenIn, 4, some .int)
set_option maxRecDepth 100000 in
theorem mc_M_givenIn : Cond.code m_M_givenIn.1 m_M_givenIn.2.1 m_M_givenIn.2.2.1 m_M_givenIn.2.2.2 ∈ cd_ws := cd_mem 1115 rfl rfl
theorem mf_M_givenIn : cd_MV m_M_givenIn 2 := ⟨⟨mc_M_givenIn, cd_mem 61 (by decide +kernel) rfl, by decide +kernel, by decide⟩, cd_mem 1113 (by decide +kernel) rfl, cd_mem 1114 (by decide +kernel) rfl⟩
abbrev b_M_heard : ByteArray := prog_9_method_47_code
abbrev m_M_heard : cd_MT := (⟨"CatDoorsModel", "heard", "(II)I"⟩, b_M_heard, 7, some .int)
set_option maxRecDepth 100000 in
theorem mc_M_heard : Cond.code m_M_heard.1 m_M_heard.2.1 m_M_heard.2.2.1 m_M_heard.2.2.2 ∈ cd_ws := cd_mem 1119 rfl rfl
theorem mf_M_heard : cd_MV m_M_heard 2 := ⟨⟨mc_M_heard, cd_mem 61 (by decide +kernel) rfl, by decide +kernel, by decide⟩, cd_mem 1117 (by decide +kernel) rfl, cd_mem 1118 (by decide +kernel) rfl⟩
abbrev b_M_lamp : ByteArray := prog_9_method_48_code
abbrev m_M_lamp : cd_MT := (⟨"CatDoorsModel", "lamp", "(I)I"⟩, b_M_lamp, 4, some .int)
set_option maxRecDepth 100000 in
theorem mc_M_lamp : Cond.code m_M_lamp.1 m_M_lamp.2.1 m_M_lamp.2.2.1 m_M_lamp.2.2.2 ∈ cd_ws := cd_mem 1127 rfl rfl
theorem mf_M_lamp : cd_MV m_M_lamp 1 := ⟨⟨mc_M_lamp, cd_mem 61 (by decide +kernel) rfl, by decide +kernel, by decide⟩, cd_mem 1125 (by decide +kernel) rfl, cd_mem 1126 (by decide +kernel) rfl⟩
abbrev b_M_saved : ByteArray := prog_9_method_49_code
abbrev m_M_saved : cd_MT := (⟨"CatDoorsModel", "saved", "(I)I"⟩, b_M_saved, 3, some .int)
set_option maxRecDepth 100000 in
theorem mc_M_saved : Cond.code m_M_saved.1 m_M_saved.2.1 m_M_saved.2.2.1 m_M_saved.2.2.2 ∈ cd_ws := cd_mem 1131 rfl rfl
theorem mf_M_saved : cd_MV m_M_saved 1 := ⟨⟨mc_M_saved, cd_mem 61 (by decide +kernel) rfl, by decide +kernel, by decide⟩, cd_mem 1129 (by decide +kernel) rfl, cd_mem 1130 (by decide +kernel) rfl⟩
abbrev b_M_offBy : ByteArray := prog_9_method_50_code
abbrev m_M_offBy : cd_MT := (⟨"CatDoorsModel", "offBy", "(II)J"⟩, b_M_offBy, 9, some .long)
set_option maxRecDepth 100000 in
theorem mc_M_offBy : Cond.code m_M_offBy.1 m_M_offBy.2.1 m_M_offBy.2.2.1 m_M_offBy.2.2.2 ∈ cd_ws := cd_mem 1143 rfl rfl
theorem mf_M_offBy : cd_MV m_M_offBy 2 := ⟨⟨mc_M_offBy, cd_mem 61 (by decide +kernel) rfl, by decide +kernel, by decide⟩, cd_mem 1142 (by decide +kernel) rfl, cd_mem 43 (by decide +kernel) rfl⟩
abbrev b_M_taught : ByteArray := prog_9_method_51_code
abbrev m_M_taught : cd_MT := (⟨"CatDoorsModel", "taught", "(II)I"⟩, b_M_taught, 9, some .int)
set_option maxRecDepth 100000 in
theorem mc_M_taught : Cond.code m_M_taught.1 m_M_taught.2.1 m_M_taught.2.2.1 m_M_taught.2.2.2 ∈ cd_ws := cd_mem 1135 rfl rfl
theorem mf_M_taught : cd_MV m_M_taught 2 := ⟨⟨mc_M_taught, cd_mem 61 (by decide +kernel) rfl, by decide +kernel, by decide⟩, cd_mem 1133 (by decide +kernel) rfl, cd_mem 1134 (by decide +kernel) rfl⟩
abbrev b_M_fee : ByteArray := prog_9_method_52_code
abbrev m_M_fee : cd_MT := (⟨"CatDoorsModel", "fee", "()I"⟩, b_M_fee, 2, some .int)
set_option maxRecDepth 100000 in
theorem mc_M_fee : Cond.code m_M_fee.1 m_M_fee.2.1 m_M_fee.2.2.1 m_M_fee.2.2.2 ∈ cd_ws := cd_mem 1147 rfl rfl
theorem mf_M_fee : cd_MV m_M_fee 0 := ⟨⟨mc_M_fee, cd_mem 61 (by decide +kernel) rfl, by decide +kernel, by decide⟩, cd_mem 1145 (by decide +kernel) rfl, cd_mem 1146 (by decide +kernel) rfl⟩
abbrev b_M_fine : ByteArray := prog_9_method_53_code
abbrev m_M_fine : cd_MT := (⟨"CatDoorsModel", "fine", "(I)I"⟩, b_M_fine, 3, some .int)
set_option maxRecDepth 100000 in
theorem mc_M_fine : Cond.code m_M_fine.1 m_M_fine.2.1 m_M_fine.2.2.1 m_M_fine.2.2.2 ∈ cd_ws := cd_mem 1151 rfl rfl
theorem mf_M_fine : cd_MV m_M_fine 1 := ⟨⟨mc_M_fine, cd_mem 61 (by decide +kernel) rfl, by decide +kernel, by decide⟩, cd_mem 1149 (by decide +kernel) rfl, cd_mem 1150 (by decide +kernel) rfl⟩
abbrev b_M_feed : ByteArray := prog_9_method_54_code
abbrev m_M_feed : cd_MT := (⟨"CatDoorsModel", "feed", "(III)I"⟩, b_M_feed, 6, some .int)
set_option maxRecDepth 100000 in
theorem mc_M_feed : Cond.code m_M_feed.1 m_M_feed.2.1 m_M_feed.2.2.1 m_M_feed.2.2.2 ∈ cd_ws := cd_mem 1155 rfl rfl
theorem mf_M_feed : cd_MV m_M_feed 3 := ⟨⟨mc_M_feed, cd_mem 61 (by decide +kernel) rfl, by decide +kernel, by decide⟩, cd_mem 1153 (by decide +kernel) rfl, cd_mem 1154 (by decide +kernel) rfl⟩
abbrev b_M_trim : ByteArray := prog_9_method_55_code
abbrev m_M_trim : cd_MT := (⟨"CatDoorsModel", "trim", "(I)I"⟩, b_M_trim, 2, some .int)
set_option maxRecDepth 100000 in
theorem mc_M_trim : Cond.code m_M_trim.1 m_M_trim.2.1 m_M_trim.2.2.1 m_M_trim.2.2.2 ∈ cd_ws := cd_mem 1159 rfl rfl
theorem mf_M_trim : cd_MV m_M_trim 1 := ⟨⟨mc_M_trim, cd_mem 61 (by decide +kernel) rfl, by decide +kernel, by decide⟩, cd_mem 1157 (by decide +kernel) rfl, cd_mem 1158 (by decide +kernel) rfl⟩
abbrev b_M_isLetter : ByteArray := prog_9_method_56_code
abbrev m_M_isLetter : cd_MT := (⟨"CatDoorsModel", "isLetter", "(I)Z"⟩, b_M_isLetter, 2, some .boolean)
set_option maxRecDepth 100000 in
theorem mc_M_isLetter : Cond.code m_M_isLetter.1 m_M_isLetter.2.1 m_M_isLetter.2.2.1 m_M_isLetter.2.2.2 ∈ cd_ws := cd_mem 1171 rfl rfl
theorem mf_M_isLetter : cd_MV m_M_isLetter 1 := ⟨⟨mc_M_isLetter, cd_mem 61 (by decide +kernel) rfl, by decide +kernel, by decide⟩, cd_mem 1170 (by decide +kernel) rfl, cd_mem 45 (by decide +kernel) rfl⟩
abbrev b_M_isFigure : ByteArray := prog_9_method_57_code
abbrev m_M_isFigure : cd_MT := (⟨"CatDoorsModel", "isFigure", "(I)Z"⟩, b_M_isFigure, 2, some .boolean)
set_option maxRecDepth 100000 in
theorem mc_M_isFigure : Cond.code m_M_isFigure.1 m_M_isFigure.2.1 m_M_isFigure.2.2.1 m_M_isFigure.2.2.2 ∈ cd_ws := cd_mem 1175 rfl rfl
theorem mf_M_isFigure : cd_MV m_M_isFigure 1 := ⟨⟨mc_M_isFigure, cd_mem 61 (by decide +kernel) rfl, by decide +kernel, by decide⟩, cd_mem 1174 (by decide +kernel) rfl, cd_mem 46 (by decide +kernel) rfl⟩
abbrev b_M_go : ByteArray := prog_9_method_58_code
abbrev m_M_go : cd_MT := (⟨"CatDoorsModel", "go", "()V"⟩, b_M_go, 2, none)
set_option maxRecDepth 100000 in
theorem mc_M_go : Cond.code m_M_go.1 m_M_go.2.1 m_M_go.2.2.1 m_M_go.2.2.2 ∈ cd_ws := cd_mem 1167 rfl rfl
theorem mf_M_go : cd_MV m_M_go 0 := ⟨⟨mc_M_go, cd_mem 61 (by decide +kernel) rfl, by decide +kernel, by decide⟩, cd_mem 1166 (by decide +kernel) rfl, cd_mem 44 (by decide +kernel) rfl⟩
abbrev b_M_takesKey : ByteArray := prog_9_method_59_code
abbrev m_M_takesKey : cd_MT := (⟨"CatDoorsModel", "takesKey", "()Z"⟩, b_M_takesKey, 5, some .boolean)
set_option maxRecDepth 100000 in
theorem mc_M_takesKey : Cond.code m_M_takesKey.1 m_M_takesKey.2.1 m_M_takesKey.2.2.1 m_M_takesKey.2.2.2 ∈ cd_ws := cd_mem 1179 rfl rfl
theorem mf_M_takesKey : cd_MV m_M_takesKey 0 := ⟨⟨mc_M_takesKey, cd_mem 61 (by decide +kernel) rfl, by decide +kernel, by decide⟩, cd_mem 1178 (by decide +kernel) rfl, cd_mem 47 (by decide +kernel) rfl⟩
abbrev b_M_nameOf : ByteArray := prog_9_method_60_code
abbrev m_M_nameOf : cd_MT := (⟨"CatDoorsModel", "nameOf", "(I)I"⟩, b_M_nameOf, 2, some .int)
set_option maxRecDepth 100000 in
theorem mc_M_nameOf : Cond.code m_M_nameOf.1 m_M_nameOf.2.1 m_M_nameOf.2.2.1 m_M_nameOf.2.2.2 ∈ cd_ws := cd_mem 1191 rfl rfl
theorem mf_M_nameOf : cd_MV m_M_nameOf 1 := ⟨⟨mc_M_nameOf, cd_mem 61 (by decide +kernel) rfl, by decide +kernel, by decide⟩, cd_mem 1190 (by decide +kernel) rfl, cd_mem 50 (by decide +kernel) rfl⟩
abbrev b_M_rank : ByteArray := prog_9_method_61_code
abbrev m_M_rank : cd_MT := (⟨"CatDoorsModel", "rank", "(I)I"⟩, b_M_rank, 1, some .int)
set_option maxRecDepth 100000 in
theorem mc_M_rank : Cond.code m_M_rank.1 m_M_rank.2.1 m_M_rank.2.2.1 m_M_rank.2.2.2 ∈ cd_ws := cd_mem 1198 rfl rfl
theorem mf_M_rank : cd_MS m_M_rank 1 := ⟨⟨mc_M_rank, cd_mem 61 (by decide +kernel) rfl, by decide +kernel, by decide⟩, cd_mem 1197 (by decide +kernel) rfl⟩
abbrev b_M_settle : ByteArray := prog_9_method_62_code
abbrev m_M_settle : cd_MT := (⟨"CatDoorsModel", "settle", "(I)V"⟩, b_M_settle, 2, none)
set_option maxRecDepth 100000 in
theorem mc_M_settle : Cond.code m_M_settle.1 m_M_settle.2.1 m_M_settle.2.2.1 m_M_settle.2.2.2 ∈ cd_ws := cd_mem 1195 rfl rfl
theorem mf_M_settle : cd_MV m_M_settle 1 := ⟨⟨mc_M_settle, cd_mem 61 (by decide +kernel) rfl, by decide +kernel, by decide⟩, cd_mem 1194 (by decide +kernel) rfl, cd_mem 51 (by decide +kernel) rfl⟩
abbrev b_M_signHere : ByteArray := prog_9_method_63_code
abbrev m_M_signHere : cd_MT := (⟨"CatDoorsModel", "signHere", "()I"⟩, b_M_signHere, 1, some .int)
set_option maxRecDepth 100000 in
theorem mc_M_signHere : Cond.code m_M_signHere.1 m_M_signHere.2.1 m_M_signHere.2.2.1 m_M_signHere.2.2.2 ∈ cd_ws := cd_mem 1206 rfl rfl
theorem mf_M_signHere : cd_MV m_M_signHere 0 := ⟨⟨mc_M_signHere, cd_mem 61 (by decide +kernel) rfl, by decide +kernel, by decide⟩, cd_mem 1205 (by decide +kernel) rfl, cd_mem 53 (by decide +kernel) rfl⟩
abbrev b_M_takesPart : ByteArray := prog_9_method_64_code
abbrev m_M_takesPart : cd_MT := (⟨"CatDoorsModel", "takesPart", "()Z"⟩, b_M_takesPart, 2, some .boolean)
set_option maxRecDepth 100000 in
theorem mc_M_takesPart : Cond.code m_M_takesPart.1 m_M_takesPart.2.1 m_M_takesPart.2.2.1 m_M_takesPart.2.2.2 ∈ cd_ws := cd_mem 1187 rfl rfl
theorem mf_M_takesPart : cd_MV m_M_takesPart 0 := ⟨⟨mc_M_takesPart, cd_mem 61 (by decide +kernel) rfl, by decide +kernel, by decide⟩, cd_mem 1186 (by decide +kernel) rfl, cd_mem 49 (by decide +kernel) rfl⟩
abbrev b_M_takesE : ByteArray := prog_9_method_65_code
abbrev m_M_takesE : cd_MT := (⟨"CatDoorsModel", "takesE", "()Z"⟩, b_M_takesE, 5, some .boolean)
set_option maxRecDepth 100000 in
theorem mc_M_takesE : Cond.code m_M_takesE.1 m_M_takesE.2.1 m_M_takesE.2.2.1 m_M_takesE.2.2.2 ∈ cd_ws := cd_mem 1183 rfl rfl
theorem mf_M_takesE : cd_MV m_M_takesE 0 := ⟨⟨mc_M_takesE, cd_mem 61 (by decide +kernel) rfl, by decide +kernel, by decide⟩, cd_mem 1182 (by decide +kernel) rfl, cd_mem 48 (by decide +kernel) rfl⟩
abbrev b_M_notsOpen : ByteArray := prog_9_method_66_code
abbrev m_M_notsOpen : cd_MT := (⟨"CatDoorsModel", "notsOpen", "()I"⟩, b_M_notsOpen, 3, some .int)
set_option maxRecDepth 100000 in
theorem mc_M_notsOpen : Cond.code m_M_notsOpen.1 m_M_notsOpen.2.1 m_M_notsOpen.2.2.1 m_M_notsOpen.2.2.2 ∈ cd_ws := cd_mem 1202 rfl rfl
theorem mf_M_notsOpen : cd_MV m_M_notsOpen 0 := ⟨⟨mc_M_notsOpen, cd_mem 61 (by decide +kernel) rfl, by decide +kernel, by decide⟩, cd_mem 1201 (by decide +kernel) rfl, cd_mem 52 (by decide +kernel) rfl⟩
abbrev b_M_text : ByteArray := prog_9_method_67_code
abbrev m_M_text : cd_MT := (⟨"CatDoorsModel", "text", "()I"⟩, b_M_text, 4, some .int)
set_option maxRecDepth 100000 in
theorem mc_M_text : Cond.code m_M_text.1 m_M_text.2.1 m_M_text.2.2.1 m_M_text.2.2.2 ∈ cd_ws := cd_mem 1163 rfl rfl
theorem mf_M_text : cd_MV m_M_text 0 := ⟨⟨mc_M_text, cd_mem 61 (by decide +kernel) rfl, by decide +kernel, by decide⟩, cd_mem 1161 (by decide +kernel) rfl, cd_mem 1162 (by decide +kernel) rfl⟩
abbrev b_M_textTold : ByteArray := prog_9_method_68_code
abbrev m_M_textTold : cd_MT := (⟨"CatDoorsModel", "textTold", "(II)I"⟩, b_M_textTold, 3, some .int)
set_option maxRecDepth 100000 in
theorem mc_M_textTold : Cond.code m_M_textTold.1 m_M_textTold.2.1 m_M_textTold.2.2.1 m_M_textTold.2.2.2 ∈ cd_ws := cd_mem 1210 rfl rfl
theorem mf_M_textTold : cd_MV m_M_textTold 2 := ⟨⟨mc_M_textTold, cd_mem 61 (by decide +kernel) rfl, by decide +kernel, by decide⟩, cd_mem 1208 (by decide +kernel) rfl, cd_mem 1209 (by decide +kernel) rfl⟩
abbrev b_M_counts : ByteArray := prog_9_method_69_code
abbrev m_M_counts : cd_MT := (⟨"CatDoorsModel", "counts", "(I)I"⟩, b_M_counts, 3, some .int)
set_option maxRecDepth 100000 in
theorem mc_M_counts : Cond.code m_M_counts.1 m_M_counts.2.1 m_M_counts.2.2.1 m_M_counts.2.2.2 ∈ cd_ws := cd_mem 971 rfl rfl
theorem mf_M_counts : cd_MV m_M_counts 1 := ⟨⟨mc_M_counts, cd_mem 61 (by decide +kernel) rfl, by decide +kernel, by decide⟩, cd_mem 970 (by decide +kernel) rfl, cd_mem 21 (by decide +kernel) rfl⟩
abbrev b_M_why : ByteArray := prog_9_method_70_code
abbrev m_M_why : cd_MT := (⟨"CatDoorsModel", "why", "(I)I"⟩, b_M_why, 3, some .int)
set_option maxRecDepth 100000 in
theorem mc_M_why : Cond.code m_M_why.1 m_M_why.2.1 m_M_why.2.2.1 m_M_why.2.2.2 ∈ cd_ws := cd_mem 1214 rfl rfl
theorem mf_M_why : cd_MV m_M_why 1 := ⟨⟨mc_M_why, cd_mem 61 (by decide +kernel) rfl, by decide +kernel, by decide⟩, cd_mem 1212 (by decide +kernel) rfl, cd_mem 1213 (by decide +kernel) rfl⟩
abbrev b_M_two : ByteArray := prog_9_method_71_code
abbrev m_M_two : cd_MT := (⟨"CatDoorsModel", "two", "(III)I"⟩, b_M_two, 3, some .int)
set_option maxRecDepth 100000 in
theorem mc_M_two : Cond.code m_M_two.1 m_M_two.2.1 m_M_two.2.2.1 m_M_two.2.2.2 ∈ cd_ws := cd_mem 978 rfl rfl
theorem mf_M_two : cd_MS m_M_two 3 := ⟨⟨mc_M_two, cd_mem 61 (by decide +kernel) rfl, by decide +kernel, by decide⟩, cd_mem 977 (by decide +kernel) rfl⟩
abbrev b_M_worksOut : ByteArray := prog_9_method_72_code
abbrev m_M_worksOut : cd_MT := (⟨"CatDoorsModel", "worksOut", "(I)I"⟩, b_M_worksOut, 6, some .int)
set_option maxRecDepth 100000 in
theorem mc_M_worksOut : Cond.code m_M_worksOut.1 m_M_worksOut.2.1 m_M_worksOut.2.2.1 m_M_worksOut.2.2.2 ∈ cd_ws := cd_mem 975 rfl rfl
theorem mf_M_worksOut : cd_MV m_M_worksOut 1 := ⟨⟨mc_M_worksOut, cd_mem 61 (by decide +kernel) rfl, by decide +kernel, by decide⟩, cd_mem 974 (by decide +kernel) rfl, cd_mem 22 (by decide +kernel) rfl⟩
abbrev b_M_isSheet : ByteArray := prog_9_method_73_code
abbrev m_M_isSheet : cd_MT := (⟨"CatDoorsModel", "isSheet", "(I)Z"⟩, b_M_isSheet, 1, some .boolean)
set_option maxRecDepth 100000 in
theorem mc_M_isSheet : Cond.code m_M_isSheet.1 m_M_isSheet.2.1 m_M_isSheet.2.2.1 m_M_isSheet.2.2.2 ∈ cd_ws := cd_mem 1138 rfl rfl
theorem mf_M_isSheet : cd_MS m_M_isSheet 1 := ⟨⟨mc_M_isSheet, cd_mem 61 (by decide +kernel) rfl, by decide +kernel, by decide⟩, cd_mem 1137 (by decide +kernel) rfl⟩
abbrev b_M_isSlot : ByteArray := prog_9_method_74_code
abbrev m_M_isSlot : cd_MT := (⟨"CatDoorsModel", "isSlot", "(I)Z"⟩, b_M_isSlot, 1, some .boolean)
set_option maxRecDepth 100000 in
theorem mc_M_isSlot : Cond.code m_M_isSlot.1 m_M_isSlot.2.1 m_M_isSlot.2.2.1 m_M_isSlot.2.2.2 ∈ cd_ws := cd_mem 1245 rfl rfl
theorem mf_M_isSlot : cd_MS m_M_isSlot 1 := ⟨⟨mc_M_isSlot, cd_mem 61 (by decide +kernel) rfl, by decide +kernel, by decide⟩, cd_mem 1244 (by decide +kernel) rfl⟩
abbrev b_M_sheet : ByteArray := prog_9_method_75_code
abbrev m_M_sheet : cd_MT := (⟨"CatDoorsModel", "sheet", "(III)I"⟩, b_M_sheet, 5, some .int)
set_option maxRecDepth 100000 in
theorem mc_M_sheet : Cond.code m_M_sheet.1 m_M_sheet.2.1 m_M_sheet.2.2.1 m_M_sheet.2.2.2 ∈ cd_ws := cd_mem 1218 rfl rfl
theorem mf_M_sheet : cd_MV m_M_sheet 3 := ⟨⟨mc_M_sheet, cd_mem 61 (by decide +kernel) rfl, by decide +kernel, by decide⟩, cd_mem 1216 (by decide +kernel) rfl, cd_mem 1217 (by decide +kernel) rfl⟩
abbrev b_M_mark : ByteArray := prog_9_method_76_code
abbrev m_M_mark : cd_MT := (⟨"CatDoorsModel", "mark", "(III)I"⟩, b_M_mark, 4, some .int)
set_option maxRecDepth 100000 in
theorem mc_M_mark : Cond.code m_M_mark.1 m_M_mark.2.1 m_M_mark.2.2.1 m_M_mark.2.2.2 ∈ cd_ws := cd_mem 1223 rfl rfl
theorem mf_M_mark : cd_MV m_M_mark 3 := ⟨⟨mc_M_mark, cd_mem 61 (by decide +kernel) rfl, by decide +kernel, by decide⟩, cd_mem 1221 (by decide +kernel) rfl, cd_mem 1222 (by decide +kernel) rfl⟩
abbrev b_M_pour : ByteArray := prog_9_method_77_code
abbrev m_M_pour : cd_MT := (⟨"CatDoorsModel", "pour", "(I)I"⟩, b_M_pour, 6, some .int)
set_option maxRecDepth 100000 in
theorem mc_M_pour : Cond.code m_M_pour.1 m_M_pour.2.1 m_M_pour.2.2.1 m_M_pour.2.2.2 ∈ cd_ws := cd_mem 1230 rfl rfl
theorem mf_M_pour : cd_MV m_M_pour 1 := ⟨⟨mc_M_pour, cd_mem 61 (by decide +kernel) rfl, by decide +kernel, by decide⟩, cd_mem 1228 (by decide +kernel) rfl, cd_mem 1229 (by decide +kernel) rfl⟩
abbrev b_M_reads : ByteArray := prog_9_method_78_code
abbrev m_M_reads : cd_MT := (⟨"CatDoorsModel", "reads", "(I)I"⟩, b_M_reads, 4, some .int)
set_option maxRecDepth 100000 in
theorem mc_M_reads : Cond.code m_M_reads.1 m_M_reads.2.1 m_M_reads.2.2.1 m_M_reads.2.2.2 ∈ cd_ws := cd_mem 1234 rfl rfl
theorem mf_M_reads : cd_MV m_M_reads 1 := ⟨⟨mc_M_reads, cd_mem 61 (by decide +kernel) rfl, by decide +kernel, by decide⟩, cd_mem 1232 (by decide +kernel) rfl, cd_mem 1233 (by decide +kernel) rfl⟩
abbrev b_M_copy : ByteArray := prog_9_method_79_code
abbrev m_M_copy : cd_MT := (⟨"CatDoorsModel", "copy", "(IIIII)I"⟩, b_M_copy, 7, some .int)
set_option maxRecDepth 100000 in
theorem mc_M_copy : Cond.code m_M_copy.1 m_M_copy.2.1 m_M_copy.2.2.1 m_M_copy.2.2.2 ∈ cd_ws := cd_mem 1238 rfl rfl
theorem mf_M_copy : cd_MV m_M_copy 5 := ⟨⟨mc_M_copy, cd_mem 61 (by decide +kernel) rfl, by decide +kernel, by decide⟩, cd_mem 1236 (by decide +kernel) rfl, cd_mem 1237 (by decide +kernel) rfl⟩
abbrev b_M_lay : ByteArray := prog_9_method_80_code
abbrev m_M_lay : cd_MT := (⟨"CatDoorsModel", "lay", "(III)I"⟩, b_M_lay, 6, some .int)
set_option maxRecDepth 100000 in
theorem mc_M_lay : Cond.code m_M_lay.1 m_M_lay.2.1 m_M_lay.2.2.1 m_M_lay.2.2.2 ∈ cd_ws := cd_mem 1242 rfl rfl
theorem mf_M_lay : cd_MV m_M_lay 3 := ⟨⟨mc_M_lay, cd_mem 61 (by decide +kernel) rfl, by decide +kernel, by decide⟩, cd_mem 1240 (by decide +kernel) rfl, cd_mem 1241 (by decide +kernel) rfl⟩
abbrev b_M_ask : ByteArray := prog_9_method_81_code
abbrev m_M_ask : cd_MT := (⟨"CatDoorsModel", "ask", "(II)I"⟩, b_M_ask, 3, some .int)
set_option maxRecDepth 100000 in
theorem mc_M_ask : Cond.code m_M_ask.1 m_M_ask.2.1 m_M_ask.2.2.1 m_M_ask.2.2.2 ∈ cd_ws := cd_mem 1249 rfl rfl
theorem mf_M_ask : cd_MV m_M_ask 2 := ⟨⟨mc_M_ask, cd_mem 61 (by decide +kernel) rfl, by decide +kernel, by decide⟩, cd_mem 1247 (by decide +kernel) rfl, cd_mem 1248 (by decide +kernel) rfl⟩
abbrev b_M_item : ByteArray := prog_9_method_82_code
abbrev m_M_item : cd_MT := (⟨"CatDoorsModel", "item", "(II)I"⟩, b_M_item, 4, some .int)
set_option maxRecDepth 100000 in
theorem mc_M_item : Cond.code m_M_item.1 m_M_item.2.1 m_M_item.2.2.1 m_M_item.2.2.2 ∈ cd_ws := cd_mem 1253 rfl rfl
theorem mf_M_item : cd_MV m_M_item 2 := ⟨⟨mc_M_item, cd_mem 61 (by decide +kernel) rfl, by decide +kernel, by decide⟩, cd_mem 1251 (by decide +kernel) rfl, cd_mem 1252 (by decide +kernel) rfl⟩
abbrev b_M_rest : ByteArray := prog_9_method_83_code
abbrev m_M_rest : cd_MT := (⟨"CatDoorsModel", "rest", "(II)I"⟩, b_M_rest, 3, some .int)
set_option maxRecDepth 100000 in
theorem mc_M_rest : Cond.code m_M_rest.1 m_M_rest.2.1 m_M_rest.2.2.1 m_M_rest.2.2.2 ∈ cd_ws := cd_mem 1257 rfl rfl
theorem mf_M_rest : cd_MV m_M_rest 2 := ⟨⟨mc_M_rest, cd_mem 61 (by decide +kernel) rfl, by decide +kernel, by decide⟩, cd_mem 1255 (by decide +kernel) rfl, cd_mem 1256 (by decide +kernel) rfl⟩
abbrev b_M_tell : ByteArray := prog_9_method_84_code
abbrev m_M_tell : cd_MT := (⟨"CatDoorsModel", "tell", "(I)I"⟩, b_M_tell, 2, some .int)
set_option maxRecDepth 100000 in
theorem mc_M_tell : Cond.code m_M_tell.1 m_M_tell.2.1 m_M_tell.2.2.1 m_M_tell.2.2.2 ∈ cd_ws := cd_mem 1262 rfl rfl
theorem mf_M_tell : cd_MV m_M_tell 1 := ⟨⟨mc_M_tell, cd_mem 61 (by decide +kernel) rfl, by decide +kernel, by decide⟩, cd_mem 1260 (by decide +kernel) rfl, cd_mem 1261 (by decide +kernel) rfl⟩
abbrev b_M_check : ByteArray := prog_9_method_85_code
abbrev m_M_check : cd_MT := (⟨"CatDoorsModel", "check", "(I)I"⟩, b_M_check, 6, some .int)
set_option maxRecDepth 100000 in
theorem mc_M_check : Cond.code m_M_check.1 m_M_check.2.1 m_M_check.2.2.1 m_M_check.2.2.2 ∈ cd_ws := cd_mem 1266 rfl rfl
theorem mf_M_check : cd_MV m_M_check 1 := ⟨⟨mc_M_check, cd_mem 61 (by decide +kernel) rfl, by decide +kernel, by decide⟩, cd_mem 1264 (by decide +kernel) rfl, cd_mem 1265 (by decide +kernel) rfl⟩
abbrev b_M_keep : ByteArray := prog_9_method_86_code
abbrev m_M_keep : cd_MT := (⟨"CatDoorsModel", "keep", "()I"⟩, b_M_keep, 1, some .int)
set_option maxRecDepth 100000 in
theorem mc_M_keep : Cond.code m_M_keep.1 m_M_keep.2.1 m_M_keep.2.2.1 m_M_keep.2.2.2 ∈ cd_ws := cd_mem 1273 rfl rfl
theorem mf_M_keep : cd_MV m_M_keep 0 := ⟨⟨mc_M_keep, cd_mem 61 (by decide +kernel) rfl, by decide +kernel, by decide⟩, cd_mem 1271 (by decide +kernel) rfl, cd_mem 1272 (by decide +kernel) rfl⟩
abbrev b_M_back : ByteArray := prog_9_method_87_code
abbrev m_M_back : cd_MT := (⟨"CatDoorsModel", "back", "()I"⟩, b_M_back, 1, some .int)
set_option maxRecDepth 100000 in
theorem mc_M_back : Cond.code m_M_back.1 m_M_back.2.1 m_M_back.2.2.1 m_M_back.2.2.2 ∈ cd_ws := cd_mem 1277 rfl rfl
theorem mf_M_back : cd_MV m_M_back 0 := ⟨⟨mc_M_back, cd_mem 61 (by decide +kernel) rfl, by decide +kernel, by decide⟩, cd_mem 1275 (by decide +kernel) rfl, cd_mem 1276 (by decide +kernel) rfl⟩
abbrev b_M_count : ByteArray := prog_9_method_88_code
abbrev m_M_count : cd_MT := (⟨"CatDoorsModel", "count", "(I)I"⟩, b_M_count, 2, some .int)
set_option maxRecDepth 100000 in
theorem mc_M_count : Cond.code m_M_count.1 m_M_count.2.1 m_M_count.2.2.1 m_M_count.2.2.2 ∈ cd_ws := cd_mem 1281 rfl rfl
theorem mf_M_count : cd_MV m_M_count 1 := ⟨⟨mc_M_count, cd_mem 61 (by decide +kernel) rfl, by decide +kernel, by decide⟩, cd_mem 1279 (by decide +kernel) rfl, cd_mem 1280 (by decide +kernel) rfl⟩
theorem lk_M_1 : Cond.methodLink "CatDoorsModel" 1 ⟨"java/lang/Object", "<init>", "()V"⟩ ∈ cd_ws := cd_mem 829 (by decide +kernel) rfl
theorem lk_M_75 : Cond.methodLink "CatDoorsModel" 75 ⟨"CatDoorsModel", "in", "(III)Z"⟩ ∈ cd_ws := cd_mem 936 (by decide +kernel) rfl
theorem lk_M_79 : Cond.methodLink "CatDoorsModel" 79 ⟨"CatDoorsModel", "put", "(III)V"⟩ ∈ cd_ws := cd_mem 948 (by decide +kernel) rfl
theorem lk_M_83 : Cond.methodLink "CatDoorsModel" 83 ⟨"CatDoorsModel", "isOf", "(II)Z"⟩ ∈ cd_ws := cd_mem 939 (by decide +kernel) rfl
theorem lk_M_89 : Cond.methodLink "CatDoorsModel" 89 ⟨"CatDoorsModel", "comes", "(IIII)I"⟩ ∈ cd_ws := cd_mem 944 (by decide +kernel) rfl
theorem lk_M_93 : Cond.methodLink "CatDoorsModel" 93 ⟨"CatDoorsModel", "counts", "(I)I"⟩ ∈ cd_ws := cd_mem 968 (by decide +kernel) rfl
theorem lk_M_97 : Cond.methodLink "CatDoorsModel" 97 ⟨"CatDoorsModel", "of", "(II)I"⟩ ∈ cd_ws := cd_mem 960 (by decide +kernel) rfl
theorem lk_M_101 : Cond.methodLink "CatDoorsModel" 101 ⟨"CatDoorsModel", "worksOut", "(I)I"⟩ ∈ cd_ws := cd_mem 972 (by decide +kernel) rfl
theorem lk_M_104 : Cond.methodLink "CatDoorsModel" 104 ⟨"CatDoorsModel", "within", "(III)I"⟩ ∈ cd_ws := cd_mem 979 (by decide +kernel) rfl
theorem lk_M_108 : Cond.methodLink "CatDoorsModel" 108 ⟨"CatDoorsModel", "isAsking", "(I)Z"⟩ ∈ cd_ws := cd_mem 956 (by decide +kernel) rfl
theorem lk_M_112 : Cond.methodLink "CatDoorsModel" 112 ⟨"CatDoorsModel", "pressesOf", "(I)I"⟩ ∈ cd_ws := cd_mem 964 (by decide +kernel) rfl
theorem lk_M_115 : Cond.methodLink "CatDoorsModel" 115 ⟨"CatDoorsModel", "learnsOf", "(I)I"⟩ ∈ cd_ws := cd_mem 982 (by decide +kernel) rfl
theorem lk_M_118 : Cond.methodLink "CatDoorsModel" 118 ⟨"CatDoorsModel", "forgetsOf", "(I)I"⟩ ∈ cd_ws := cd_mem 986 (by decide +kernel) rfl
theorem lk_M_121 : Cond.methodLink "CatDoorsModel" 121 ⟨"CatDoorsModel", "scratchesOf", "(I)I"⟩ ∈ cd_ws := cd_mem 990 (by decide +kernel) rfl
theorem lk_M_124 : Cond.methodLink "CatDoorsModel" 124 ⟨"CatDoorsModel", "meantBy", "(I)I"⟩ ∈ cd_ws := cd_mem 994 (by decide +kernel) rfl
theorem lk_M_127 : Cond.methodLink "CatDoorsModel" 127 ⟨"CatDoorsModel", "worthOf", "(I)I"⟩ ∈ cd_ws := cd_mem 998 (by decide +kernel) rfl
theorem lk_M_130 : Cond.methodLink "CatDoorsModel" 130 ⟨"CatDoorsModel", "isUnder", "(II)Z"⟩ ∈ cd_ws := cd_mem 1006 (by decide +kernel) rfl
theorem lk_M_134 : Cond.methodLink "CatDoorsModel" 134 ⟨"CatDoorsModel", "becomes", "(II)I"⟩ ∈ cd_ws := cd_mem 1014 (by decide +kernel) rfl
theorem lk_M_138 : Cond.methodLink "CatDoorsModel" 138 ⟨"CatDoorsModel", "draw", "()I"⟩ ∈ cd_ws := cd_mem 1042 (by decide +kernel) rfl
theorem lk_M_142 : Cond.methodLink "CatDoorsModel" 142 ⟨"CatDoorsModel", "goes", "()I"⟩ ∈ cd_ws := cd_mem 1047 (by decide +kernel) rfl
theorem lk_M_145 : Cond.methodLink "CatDoorsModel" 145 ⟨"CatDoorsModel", "learns", "(I)V"⟩ ∈ cd_ws := cd_mem 1034 (by decide +kernel) rfl
theorem lk_M_149 : Cond.methodLink "CatDoorsModel" 149 ⟨"CatDoorsModel", "goesAsMeant", "(I)I"⟩ ∈ cd_ws := cd_mem 1038 (by decide +kernel) rfl
theorem lk_M_152 : Cond.methodLink "CatDoorsModel" 152 ⟨"CatDoorsModel", "rises", "(I)I"⟩ ∈ cd_ws := cd_mem 1030 (by decide +kernel) rfl
theorem lk_M_155 : Cond.methodLink "CatDoorsModel" 155 ⟨"CatDoorsModel", "asks", "(I)V"⟩ ∈ cd_ws := cd_mem 1071 (by decide +kernel) rfl
theorem lk_M_158 : Cond.methodLink "CatDoorsModel" 158 ⟨"CatDoorsModel", "hour", "()V"⟩ ∈ cd_ws := cd_mem 1067 (by decide +kernel) rfl
theorem lk_M_161 : Cond.methodLink "CatDoorsModel" 161 ⟨"CatDoorsModel", "goesOn", "(I)V"⟩ ∈ cd_ws := cd_mem 1063 (by decide +kernel) rfl
theorem lk_M_164 : Cond.methodLink "CatDoorsModel" 164 ⟨"CatDoorsModel", "habits", "()I"⟩ ∈ cd_ws := cd_mem 1079 (by decide +kernel) rfl
theorem lk_M_167 : Cond.methodLink "CatDoorsModel" 167 ⟨"CatDoorsModel", "nextOnes", "()I"⟩ ∈ cd_ws := cd_mem 1083 (by decide +kernel) rfl
theorem lk_M_170 : Cond.methodLink "CatDoorsModel" 170 ⟨"CatDoorsModel", "thinks", "()V"⟩ ∈ cd_ws := cd_mem 1091 (by decide +kernel) rfl
theorem lk_M_173 : Cond.methodLink "CatDoorsModel" 173 ⟨"CatDoorsModel", "putsBack", "()V"⟩ ∈ cd_ws := cd_mem 1095 (by decide +kernel) rfl
theorem lk_M_177 : Cond.methodLink "CatDoorsModel" 177 ⟨"CatDoorsModel", "habitsBehind", "(I)I"⟩ ∈ cd_ws := cd_mem 1108 (by decide +kernel) rfl
theorem lk_M_180 : Cond.methodLink "CatDoorsModel" 180 ⟨"CatDoorsModel", "risingsBehind", "(I)I"⟩ ∈ cd_ws := cd_mem 1120 (by decide +kernel) rfl
theorem lk_M_183 : Cond.methodLink "CatDoorsModel" 183 ⟨"CatDoorsModel", "isSheet", "(I)Z"⟩ ∈ cd_ws := cd_mem 1136 (by decide +kernel) rfl
theorem lk_M_187 : Cond.methodLink "CatDoorsModel" 187 ⟨"CatDoorsModel", "offBy", "(II)J"⟩ ∈ cd_ws := cd_mem 1140 (by decide +kernel) rfl
theorem lk_M_207 : Cond.methodLink "CatDoorsModel" 207 ⟨"CatDoorsModel", "isLetter", "(I)Z"⟩ ∈ cd_ws := cd_mem 1168 (by decide +kernel) rfl
theorem lk_M_213 : Cond.methodLink "CatDoorsModel" 213 ⟨"CatDoorsModel", "isFigure", "(I)Z"⟩ ∈ cd_ws := cd_mem 1172 (by decide +kernel) rfl
theorem lk_M_219 : Cond.methodLink "CatDoorsModel" 219 ⟨"CatDoorsModel", "go", "()V"⟩ ∈ cd_ws := cd_mem 1164 (by decide +kernel) rfl
theorem lk_M_225 : Cond.methodLink "CatDoorsModel" 225 ⟨"CatDoorsModel", "rank", "(I)I"⟩ ∈ cd_ws := cd_mem 1196 (by decide +kernel) rfl
theorem lk_M_231 : Cond.methodLink "CatDoorsModel" 231 ⟨"CatDoorsModel", "nameOf", "(I)I"⟩ ∈ cd_ws := cd_mem 1188 (by decide +kernel) rfl
theorem lk_M_237 : Cond.methodLink "CatDoorsModel" 237 ⟨"CatDoorsModel", "settle", "(I)V"⟩ ∈ cd_ws := cd_mem 1192 (by decide +kernel) rfl
theorem lk_M_240 : Cond.methodLink "CatDoorsModel" 240 ⟨"CatDoorsModel", "takesPart", "()Z"⟩ ∈ cd_ws := cd_mem 1184 (by decide +kernel) rfl
theorem lk_M_244 : Cond.methodLink "CatDoorsModel" 244 ⟨"CatDoorsModel", "notsOpen", "()I"⟩ ∈ cd_ws := cd_mem 1199 (by decide +kernel) rfl
theorem lk_M_247 : Cond.methodLink "CatDoorsModel" 247 ⟨"CatDoorsModel", "signHere", "()I"⟩ ∈ cd_ws := cd_mem 1203 (by decide +kernel) rfl
theorem lk_M_250 : Cond.methodLink "CatDoorsModel" 250 ⟨"CatDoorsModel", "takesKey", "()Z"⟩ ∈ cd_ws := cd_mem 1176 (by decide +kernel) rfl
theorem lk_M_253 : Cond.methodLink "CatDoorsModel" 253 ⟨"CatDoorsModel", "takesE", "()Z"⟩ ∈ cd_ws := cd_mem 1180 (by decide +kernel) rfl
theorem lk_M_256 : Cond.methodLink "CatDoorsModel" 256 ⟨"CatDoorsModel", "two", "(III)I"⟩ ∈ cd_ws := cd_mem 976 (by decide +kernel) rfl
theorem lk_M_263 : Cond.methodLink "CatDoorsModel" 263 ⟨"CatDoorsModel", "isSlot", "(I)Z"⟩ ∈ cd_ws := cd_mem 1243 (by decide +kernel) rfl
theorem lk_M_274 : Cond.methodLink "CatDoorsModel" 274 ⟨"CatDoorsModel", "copyAll", "([I[I)V"⟩ ∈ cd_ws := cd_mem 1267 (by decide +kernel) rfl
theorem f_M_9 : cd_F "CatDoorsModel" 9 7 0 (.array .int) true := ⟨_, _, _, _, cd_ci7, by decide, cd_mem 830 (by decide +kernel) rfl, rfl, rfl, rfl⟩
theorem f_M_13 : cd_F "CatDoorsModel" 13 7 1 (.array .int) true := ⟨_, _, _, _, cd_ci7, by decide, cd_mem 831 (by decide +kernel) rfl, rfl, rfl, rfl⟩
theorem f_M_16 : cd_F "CatDoorsModel" 16 7 2 (.array .int) true := ⟨_, _, _, _, cd_ci7, by decide, cd_mem 832 (by decide +kernel) rfl, rfl, rfl, rfl⟩
theorem f_M_19 : cd_F "CatDoorsModel" 19 7 4 (.array .int) true := ⟨_, _, _, _, cd_ci7, by decide, cd_mem 834 (by decide +kernel) rfl, rfl, rfl, rfl⟩
theorem f_M_22 : cd_F "CatDoorsModel" 22 7 5 (.array .int) true := ⟨_, _, _, _, cd_ci7, by decide, cd_mem 835 (by decide +kernel) rfl, rfl, rfl, rfl⟩
theorem f_M_25 : cd_F "CatDoorsModel" 25 7 13 (.array .char) true := ⟨_, _, _, _, cd_ci7, by decide, cd_mem 843 (by decide +kernel) rfl, rfl, rfl, rfl⟩
theorem f_M_29 : cd_F "CatDoorsModel" 29 7 14 (.array .int) true := ⟨_, _, _, _, cd_ci7, by decide, cd_mem 844 (by decide +kernel) rfl, rfl, rfl, rfl⟩
theorem f_M_32 : cd_F "CatDoorsModel" 32 7 15 (.array .int) true := ⟨_, _, _, _, cd_ci7, by decide, cd_mem 845 (by decide +kernel) rfl, rfl, rfl, rfl⟩
theorem f_M_35 : cd_F "CatDoorsModel" 35 7 18 (.array .int) true := ⟨_, _, _, _, cd_ci7, by decide, cd_mem 848 (by decide +kernel) rfl, rfl, rfl, rfl⟩
theorem f_M_38 : cd_F "CatDoorsModel" 38 7 20 (.array .boolean) true := ⟨_, _, _, _, cd_ci7, by decide, cd_mem 850 (by decide +kernel) rfl, rfl, rfl, rfl⟩
theorem f_M_42 : cd_F "CatDoorsModel" 42 7 21 (.array .int) true := ⟨_, _, _, _, cd_ci7, by decide, cd_mem 851 (by decide +kernel) rfl, rfl, rfl, rfl⟩
theorem f_M_45 : cd_F "CatDoorsModel" 45 7 22 (.array .int) true := ⟨_, _, _, _, cd_ci7, by decide, cd_mem 852 (by decide +kernel) rfl, rfl, rfl, rfl⟩
theorem f_M_48 : cd_F "CatDoorsModel" 48 7 23 (.array .int) true := ⟨_, _, _, _, cd_ci7, by decide, cd_mem 853 (by decide +kernel) rfl, rfl, rfl, rfl⟩
theorem f_M_51 : cd_F "CatDoorsModel" 51 7 24 (.array .int) true := ⟨_, _, _, _, cd_ci7, by decide, cd_mem 854 (by decide +kernel) rfl, rfl, rfl, rfl⟩
theorem f_M_54 : cd_F "CatDoorsModel" 54 7 25 (.array .int) true := ⟨_, _, _, _, cd_ci7, by decide, cd_mem 855 (by decide +kernel) rfl, rfl, rfl, rfl⟩
theorem f_M_57 : cd_F "CatDoorsModel" 57 7 26 (.array .int) true := ⟨_, _, _, _, cd_ci7, by decide, cd_mem 856 (by decide +kernel) rfl, rfl, rfl, rfl⟩
theorem f_M_60 : cd_F "CatDoorsModel" 60 7 27 (.array .int) true := ⟨_, _, _, _, cd_ci7, by decide, cd_mem 857 (by decide +kernel) rfl, rfl, rfl, rfl⟩
theorem f_M_63 : cd_F "CatDoorsModel" 63 7 28 (.array .int) true := ⟨_, _, _, _, cd_ci7, by decide, cd_mem 858 (by decide +kernel) rfl, rfl, rfl, rfl⟩
theorem f_M_66 : cd_F "CatDoorsModel" 66 7 29 (.array .int) true := ⟨_, _, _, _, cd_ci7, by decide, cd_mem 859 (by decide +kernel) rfl, rfl, rfl, rfl⟩
theorem f_M_69 : cd_F "CatDoorsModel" 69 7 30 (.array .int) true := ⟨_, _, _, _, cd_ci7, by decide, cd_mem 860 (by decide +kernel) rfl, rfl, rfl, rfl⟩
theorem f_M_72 : cd_F "CatDoorsModel" 72 7 31 (.array .int) true := ⟨_, _, _, _, cd_ci7, by decide, cd_mem 861 (by decide +kernel) rfl, rfl, rfl, rfl⟩
theorem f_M_191 : cd_F "CatDoorsModel" 191 7 6 .int false := ⟨_, _, _, _, cd_ci7, by decide, cd_mem 836 (by decide +kernel) rfl, rfl, rfl, rfl⟩
theorem f_M_195 : cd_F "CatDoorsModel" 195 7 7 .int false := ⟨_, _, _, _, cd_ci7, by decide, cd_mem 837 (by decide +kernel) rfl, rfl, rfl, rfl⟩
theorem f_M_198 : cd_F "CatDoorsModel" 198 7 8 .int false := ⟨_, _, _, _, cd_ci7, by decide, cd_mem 838 (by decide +kernel) rfl, rfl, rfl, rfl⟩
theorem f_M_201 : cd_F "CatDoorsModel" 201 7 11 .int false := ⟨_, _, _, _, cd_ci7, by decide, cd_mem 841 (by decide +kernel) rfl, rfl, rfl, rfl⟩
theorem f_M_204 : cd_F "CatDoorsModel" 204 7 9 .int false := ⟨_, _, _, _, cd_ci7, by decide, cd_mem 839 (by decide +kernel) rfl, rfl, rfl, rfl⟩
theorem f_M_210 : cd_F "CatDoorsModel" 210 7 10 .int false := ⟨_, _, _, _, cd_ci7, by decide, cd_mem 840 (by decide +kernel) rfl, rfl, rfl, rfl⟩
theorem f_M_216 : cd_F "CatDoorsModel" 216 7 12 .int false := ⟨_, _, _, _, cd_ci7, by decide, cd_mem 842 (by decide +kernel) rfl, rfl, rfl, rfl⟩
theorem f_M_222 : cd_F "CatDoorsModel" 222 7 19 .int false := ⟨_, _, _, _, cd_ci7, by decide, cd_mem 849 (by decide +kernel) rfl, rfl, rfl, rfl⟩
theorem f_M_228 : cd_F "CatDoorsModel" 228 7 16 .int false := ⟨_, _, _, _, cd_ci7, by decide, cd_mem 846 (by decide +kernel) rfl, rfl, rfl, rfl⟩
theorem f_M_234 : cd_F "CatDoorsModel" 234 7 17 .int false := ⟨_, _, _, _, cd_ci7, by decide, cd_mem 847 (by decide +kernel) rfl, rfl, rfl, rfl⟩
theorem f_M_267 : cd_F "CatDoorsModel" 267 7 32 .int false := ⟨_, _, _, _, cd_ci7, by decide, cd_mem 862 (by decide +kernel) rfl, rfl, rfl, rfl⟩
theorem f_M_270 : cd_F "CatDoorsModel" 270 7 3 .boolean false := ⟨_, _, _, _, cd_ci7, by decide, cd_mem 833 (by decide +kernel) rfl, rfl, rfl, rfl⟩
theorem k_M_87 : Cond.constant "CatDoorsModel" 87 (-1000000001) ∈ cd_ws := cd_mem 942 (by decide +kernel) rfl
theorem k_M_88 : Cond.constant "CatDoorsModel" 88 (-1000000003) ∈ cd_ws := cd_mem 943 (by decide +kernel) rfl
theorem k_M_133 : Cond.constant "CatDoorsModel" 133 (-1000000012) ∈ cd_ws := cd_mem 1009 (by decide +kernel) rfl
theorem k_M_137 : Cond.constant "CatDoorsModel" 137 (1103515245) ∈ cd_ws := cd_mem 1046 (by decide +kernel) rfl
theorem k_M_176 : Cond.constant "CatDoorsModel" 176 (-1000000005) ∈ cd_ws := cd_mem 1103 (by decide +kernel) rfl
theorem k_M_186 : Cond.constant "CatDoorsModel" 186 (-1000000011) ∈ cd_ws := cd_mem 1139 (by decide +kernel) rfl
theorem k_M_259 : Cond.constant "CatDoorsModel" 259 (-1000000014) ∈ cd_ws := cd_mem 1219 (by decide +kernel) rfl
theorem k_M_260 : Cond.constant "CatDoorsModel" 260 (-1000000013) ∈ cd_ws := cd_mem 1224 (by decide +kernel) rfl
theorem k_M_261 : Cond.constant "CatDoorsModel" 261 (-99999) ∈ cd_ws := cd_mem 1225 (by decide +kernel) rfl
theorem k_M_262 : Cond.constant "CatDoorsModel" 262 (99999) ∈ cd_ws := cd_mem 1226 (by decide +kernel) rfl
theorem k_M_266 : Cond.constant "CatDoorsModel" 266 (-1000000002) ∈ cd_ws := cd_mem 1258 (by decide +kernel) rfl
