abbrev b_A_init : ByteArray := prog_2_method_1_code
abbrev m_A_init : cd_MT := (⟨"CatDoors$Asking", "<init>", "()V"⟩, b_A_init, 1, none)
set_option maxRecDepth 100000 in
theorem mc_A_init : Cond.code m_A_init.1 m_A_init.2.1 m_A_init.2.2.1 m_A_init.2.2.2 ∈ cd_ws := cd_mem 92 rfl rfl
theorem mf_A_init : cd_MI m_A_init 0 := ⟨⟨mc_A_init, cd_mem 57 (by decide +kernel) rfl, by decide +kernel, by decide⟩, rfl, cd_mem 91 (by decide +kernel) rfl, rfl⟩
abbrev b_A_takes : ByteArray := prog_2_method_2_code
abbrev m_A_takes : cd_MT := (⟨"CatDoors$Asking", "takes", "(LCatDoors$Asking;)V"⟩, b_A_takes, 2, none)
set_option maxRecDepth 100000 in
theorem mc_A_takes : Cond.code m_A_takes.1 m_A_takes.2.1 m_A_takes.2.2.1 m_A_takes.2.2.2 ∈ cd_ws := cd_mem 458 rfl rfl
theorem mf_A_takes : cd_MV m_A_takes 1 := ⟨⟨mc_A_takes, cd_mem 57 (by decide +kernel) rfl, by decide +kernel, by decide⟩, cd_mem 456 (by decide +kernel) rfl, cd_mem 457 (by decide +kernel) rfl⟩
abbrev b_A_isOf : ByteArray := prog_2_method_3_code
abbrev m_A_isOf : cd_MT := (⟨"CatDoors$Asking", "isOf", "(I)Z"⟩, b_A_isOf, 4, some .boolean)
set_option maxRecDepth 100000 in
theorem mc_A_isOf : Cond.code m_A_isOf.1 m_A_isOf.2.1 m_A_isOf.2.2.1 m_A_isOf.2.2.2 ∈ cd_ws := cd_mem 349 rfl rfl
theorem mf_A_isOf : cd_MV m_A_isOf 1 := ⟨⟨mc_A_isOf, cd_mem 57 (by decide +kernel) rfl, by decide +kernel, by decide⟩, cd_mem 347 (by decide +kernel) rfl, cd_mem 348 (by decide +kernel) rfl⟩
abbrev b_A_presses : ByteArray := prog_2_method_4_code
abbrev m_A_presses : cd_MT := (⟨"CatDoors$Asking", "presses", "(LCatDoors$House;)I"⟩, b_A_presses, 4, some .int)
set_option maxRecDepth 100000 in
theorem mc_A_presses : Cond.code m_A_presses.1 m_A_presses.2.1 m_A_presses.2.2.1 m_A_presses.2.2.2 ∈ cd_ws := cd_mem 299 rfl rfl
theorem mf_A_presses : cd_MV m_A_presses 1 := ⟨⟨mc_A_presses, cd_mem 57 (by decide +kernel) rfl, by decide +kernel, by decide⟩, cd_mem 297 (by decide +kernel) rfl, cd_mem 298 (by decide +kernel) rfl⟩
abbrev b_A_meansIt : ByteArray := prog_2_method_5_code
abbrev m_A_meansIt : cd_MT := (⟨"CatDoors$Asking", "meansIt", "(LCatDoors$House;)I"⟩, b_A_meansIt, 3, some .int)
set_option maxRecDepth 100000 in
theorem mc_A_meansIt : Cond.code m_A_meansIt.1 m_A_meansIt.2.1 m_A_meansIt.2.2.1 m_A_meansIt.2.2.2 ∈ cd_ws := cd_mem 337 rfl rfl
theorem mf_A_meansIt : cd_MV m_A_meansIt 1 := ⟨⟨mc_A_meansIt, cd_mem 57 (by decide +kernel) rfl, by decide +kernel, by decide⟩, cd_mem 335 (by decide +kernel) rfl, cd_mem 336 (by decide +kernel) rfl⟩
abbrev b_A_worth : ByteArray := prog_2_method_6_code
abbrev m_A_worth : cd_MT := (⟨"CatDoors$Asking", "worth", "()I"⟩, b_A_worth, 1, some .int)
set_option maxRecDepth 100000 in
theorem mc_A_worth : Cond.code m_A_worth.1 m_A_worth.2.1 m_A_worth.2.2.1 m_A_worth.2.2.2 ∈ cd_ws := cd_mem 341 rfl rfl
theorem mf_A_worth : cd_MV m_A_worth 0 := ⟨⟨mc_A_worth, cd_mem 57 (by decide +kernel) rfl, by decide +kernel, by decide⟩, cd_mem 339 (by decide +kernel) rfl, cd_mem 340 (by decide +kernel) rfl⟩
abbrev b_A_works : ByteArray := prog_2_method_7_code
abbrev m_A_works : cd_MT := (⟨"CatDoors$Asking", "works", "()V"⟩, b_A_works, 1, none)
set_option maxRecDepth 100000 in
theorem mc_A_works : Cond.code m_A_works.1 m_A_works.2.1 m_A_works.2.2.1 m_A_works.2.2.2 ∈ cd_ws := cd_mem 378 rfl rfl
theorem mf_A_works : cd_MV m_A_works 0 := ⟨⟨mc_A_works, cd_mem 57 (by decide +kernel) rfl, by decide +kernel, by decide⟩, cd_mem 376 (by decide +kernel) rfl, cd_mem 377 (by decide +kernel) rfl⟩
abbrev b_A_fails : ByteArray := prog_2_method_8_code
abbrev m_A_fails : cd_MT := (⟨"CatDoors$Asking", "fails", "()V"⟩, b_A_fails, 1, none)
set_option maxRecDepth 100000 in
theorem mc_A_fails : Cond.code m_A_fails.1 m_A_fails.2.1 m_A_fails.2.2.1 m_A_fails.2.2.2 ∈ cd_ws := cd_mem 430 rfl rfl
theorem mf_A_fails : cd_MV m_A_fails 0 := ⟨⟨mc_A_fails, cd_mem 57 (by decide +kernel) rfl, by decide +kernel, by decide⟩, cd_mem 428 (by decide +kernel) rfl, cd_mem 429 (by decide +kernel) rfl⟩
theorem lk_A_3 : Cond.methodLink "CatDoors$Asking" 3 ⟨"java/lang/Object", "<init>", "()V"⟩ ∈ cd_ws := cd_mem 93 (by decide +kernel) rfl
theorem lk_A_31 : Cond.methodLink "CatDoors$Asking" 31 ⟨"CatDoors$House", "plainPress", "(LCatDoors$Asking;)I"⟩ ∈ cd_ws := cd_mem 300 (by decide +kernel) rfl
theorem lk_A_40 : Cond.methodLink "CatDoors$Asking" 40 ⟨"java/lang/Math", "max", "(II)I"⟩ ∈ cd_ws := cd_mem 327 (by decide +kernel) rfl
theorem lk_A_49 : Cond.methodLink "CatDoors$Asking" 49 ⟨"java/lang/Math", "min", "(II)I"⟩ ∈ cd_ws := cd_mem 380 (by decide +kernel) rfl
theorem f_A_9 : cd_F "CatDoors$Asking" 9 0 0 .int false := ⟨_, _, _, _, cd_ci0, by decide, cd_mem 94 (by decide +kernel) rfl, rfl, rfl, rfl⟩
theorem f_A_15 : cd_F "CatDoors$Asking" 15 0 1 .int false := ⟨_, _, _, _, cd_ci0, by decide, cd_mem 97 (by decide +kernel) rfl, rfl, rfl, rfl⟩
theorem f_A_18 : cd_F "CatDoors$Asking" 18 0 2 .int false := ⟨_, _, _, _, cd_ci0, by decide, cd_mem 100 (by decide +kernel) rfl, rfl, rfl, rfl⟩
theorem f_A_21 : cd_F "CatDoors$Asking" 21 0 3 .int false := ⟨_, _, _, _, cd_ci0, by decide, cd_mem 103 (by decide +kernel) rfl, rfl, rfl, rfl⟩
theorem f_A_24 : cd_F "CatDoors$Asking" 24 0 4 .int false := ⟨_, _, _, _, cd_ci0, by decide, cd_mem 106 (by decide +kernel) rfl, rfl, rfl, rfl⟩
theorem f_A_37 : cd_F "CatDoors$Asking" 37 1 0 (.array .int) true := ⟨_, _, _, _, cd_ci1, by decide, cd_mem 122 (by decide +kernel) rfl, rfl, rfl, rfl⟩
abbrev b_H_init : ByteArray := prog_3_method_1_code
abbrev m_H_init : cd_MT := (⟨"CatDoors$House", "<init>", "()V"⟩, b_H_init, 2, none)
set_option maxRecDepth 100000 in
theorem mc_H_init : Cond.code m_H_init.1 m_H_init.2.1 m_H_init.2.2.1 m_H_init.2.2.2 ∈ cd_ws := cd_mem 82 rfl rfl
theorem mf_H_init : cd_MI m_H_init 0 := ⟨⟨mc_H_init, cd_mem 56 (by decide +kernel) rfl, by decide +kernel, by decide⟩, rfl, cd_mem 81 (by decide +kernel) rfl, rfl⟩
abbrev b_H_takes : ByteArray := prog_3_method_2_code
abbrev m_H_takes : cd_MT := (⟨"CatDoors$House", "takes", "(LCatDoors$House;)V"⟩, b_H_takes, 3, none)
set_option maxRecDepth 100000 in
theorem mc_H_takes : Cond.code m_H_takes.1 m_H_takes.2.1 m_H_takes.2.2.1 m_H_takes.2.2.2 ∈ cd_ws := cd_mem 451 rfl rfl
theorem mf_H_takes : cd_MV m_H_takes 1 := ⟨⟨mc_H_takes, cd_mem 56 (by decide +kernel) rfl, by decide +kernel, by decide⟩, cd_mem 449 (by decide +kernel) rfl, cd_mem 450 (by decide +kernel) rfl⟩
abbrev b_H_adds : ByteArray := prog_3_method_3_code
abbrev m_H_adds : cd_MT := (⟨"CatDoors$House", "adds", "(IIII)I"⟩, b_H_adds, 6, some .int)
set_option maxRecDepth 100000 in
theorem mc_H_adds : Cond.code m_H_adds.1 m_H_adds.2.1 m_H_adds.2.2.1 m_H_adds.2.2.2 ∈ cd_ws := cd_mem 287 rfl rfl
theorem mf_H_adds : cd_MV m_H_adds 4 := ⟨⟨mc_H_adds, cd_mem 56 (by decide +kernel) rfl, by decide +kernel, by decide⟩, cd_mem 285 (by decide +kernel) rfl, cd_mem 286 (by decide +kernel) rfl⟩
abbrev b_H_addsText : ByteArray := prog_3_method_4_code
abbrev m_H_addsText : cd_MT := (⟨"CatDoors$House", "addsText", "(LCatDoors$Text;)I"⟩, b_H_addsText, 2, some .int)
set_option maxRecDepth 100000 in
theorem mc_H_addsText : Cond.code m_H_addsText.1 m_H_addsText.2.1 m_H_addsText.2.2.1 m_H_addsText.2.2.2 ∈ cd_ws := cd_mem 731 rfl rfl
theorem mf_H_addsText : cd_MV m_H_addsText 1 := ⟨⟨mc_H_addsText, cd_mem 56 (by decide +kernel) rfl, by decide +kernel, by decide⟩, cd_mem 729 (by decide +kernel) rfl, cd_mem 730 (by decide +kernel) rfl⟩
abbrev b_H_lawOf : ByteArray := prog_3_method_5_code
abbrev m_H_lawOf : cd_MT := (⟨"CatDoors$House", "lawOf", "(I)LCatDoors$Text;"⟩, b_H_lawOf, 3, some (.object "CatDoors$Text"))
set_option maxRecDepth 100000 in
theorem mc_H_lawOf : Cond.code m_H_lawOf.1 m_H_lawOf.2.1 m_H_lawOf.2.2.1 m_H_lawOf.2.2.2 ∈ cd_ws := cd_mem 307 rfl rfl
theorem mf_H_lawOf : cd_MV m_H_lawOf 1 := ⟨⟨mc_H_lawOf, cd_mem 56 (by decide +kernel) rfl, by decide +kernel, by decide⟩, cd_mem 305 (by decide +kernel) rfl, cd_mem 306 (by decide +kernel) rfl⟩
abbrev b_H_plainPress : ByteArray := prog_3_method_6_code
abbrev m_H_plainPress : cd_MT := (⟨"CatDoors$House", "plainPress", "(LCatDoors$Asking;)I"⟩, b_H_plainPress, 4, some .int)
set_option maxRecDepth 100000 in
theorem mc_H_plainPress : Cond.code m_H_plainPress.1 m_H_plainPress.2.1 m_H_plainPress.2.2.1 m_H_plainPress.2.2.2 ∈ cd_ws := cd_mem 303 rfl rfl
theorem mf_H_plainPress : cd_MV m_H_plainPress 1 := ⟨⟨mc_H_plainPress, cd_mem 56 (by decide +kernel) rfl, by decide +kernel, by decide⟩, cd_mem 301 (by decide +kernel) rfl, cd_mem 302 (by decide +kernel) rfl⟩
abbrev b_H_draw : ByteArray := prog_3_method_7_code
abbrev m_H_draw : cd_MT := (⟨"CatDoors$House", "draw", "()I"⟩, b_H_draw, 1, some .int)
set_option maxRecDepth 100000 in
theorem mc_H_draw : Cond.code m_H_draw.1 m_H_draw.2.1 m_H_draw.2.2.1 m_H_draw.2.2.2 ∈ cd_ws := cd_mem 393 rfl rfl
theorem mf_H_draw : cd_MV m_H_draw 0 := ⟨⟨mc_H_draw, cd_mem 56 (by decide +kernel) rfl, by decide +kernel, by decide⟩, cd_mem 391 (by decide +kernel) rfl, cd_mem 392 (by decide +kernel) rfl⟩
abbrev b_H_drawsBelow : ByteArray := prog_3_method_8_code
abbrev m_H_drawsBelow : cd_MT := (⟨"CatDoors$House", "drawsBelow", "(I)Z"⟩, b_H_drawsBelow, 2, some .boolean)
set_option maxRecDepth 100000 in
theorem mc_H_drawsBelow : Cond.code m_H_drawsBelow.1 m_H_drawsBelow.2.1 m_H_drawsBelow.2.2.1 m_H_drawsBelow.2.2.2 ∈ cd_ws := cd_mem 389 rfl rfl
theorem mf_H_drawsBelow : cd_MV m_H_drawsBelow 1 := ⟨⟨mc_H_drawsBelow, cd_mem 56 (by decide +kernel) rfl, by decide +kernel, by decide⟩, cd_mem 387 (by decide +kernel) rfl, cd_mem 388 (by decide +kernel) rfl⟩
abbrev b_H_passHours : ByteArray := prog_3_method_9_code
abbrev m_H_passHours : cd_MT := (⟨"CatDoors$House", "passHours", "(I)V"⟩, b_H_passHours, 4, none)
set_option maxRecDepth 100000 in
theorem mc_H_passHours : Cond.code m_H_passHours.1 m_H_passHours.2.1 m_H_passHours.2.2.1 m_H_passHours.2.2.2 ∈ cd_ws := cd_mem 411 rfl rfl
theorem mf_H_passHours : cd_MV m_H_passHours 1 := ⟨⟨mc_H_passHours, cd_mem 56 (by decide +kernel) rfl, by decide +kernel, by decide⟩, cd_mem 409 (by decide +kernel) rfl, cd_mem 410 (by decide +kernel) rfl⟩
abbrev b_H_drawsWeather : ByteArray := prog_3_method_10_code
abbrev m_H_drawsWeather : cd_MT := (⟨"CatDoors$House", "drawsWeather", "()V"⟩, b_H_drawsWeather, 1, none)
set_option maxRecDepth 100000 in
theorem mc_H_drawsWeather : Cond.code m_H_drawsWeather.1 m_H_drawsWeather.2.1 m_H_drawsWeather.2.2.1 m_H_drawsWeather.2.2.2 ∈ cd_ws := cd_mem 415 rfl rfl
theorem mf_H_drawsWeather : cd_MV m_H_drawsWeather 0 := ⟨⟨mc_H_drawsWeather, cd_mem 56 (by decide +kernel) rfl, by decide +kernel, by decide⟩, cd_mem 413 (by decide +kernel) rfl, cd_mem 414 (by decide +kernel) rfl⟩
abbrev b_H_asksNow : ByteArray := prog_3_method_11_code
abbrev m_H_asksNow : cd_MT := (⟨"CatDoors$House", "asksNow", "(LCatDoors$Asking;)Z"⟩, b_H_asksNow, 2, some .boolean)
set_option maxRecDepth 100000 in
theorem mc_H_asksNow : Cond.code m_H_asksNow.1 m_H_asksNow.2.1 m_H_asksNow.2.2.1 m_H_asksNow.2.2.2 ∈ cd_ws := cd_mem 419 rfl rfl
theorem mf_H_asksNow : cd_MV m_H_asksNow 1 := ⟨⟨mc_H_asksNow, cd_mem 56 (by decide +kernel) rfl, by decide +kernel, by decide⟩, cd_mem 417 (by decide +kernel) rfl, cd_mem 418 (by decide +kernel) rfl⟩
abbrev b_H_hears : ByteArray := prog_3_method_12_code
abbrev m_H_hears : cd_MT := (⟨"CatDoors$House", "hears", "(LCatDoors$Asking;)V"⟩, b_H_hears, 2, none)
set_option maxRecDepth 100000 in
theorem mc_H_hears : Cond.code m_H_hears.1 m_H_hears.2.1 m_H_hears.2.2.1 m_H_hears.2.2.2 ∈ cd_ws := cd_mem 423 rfl rfl
theorem mf_H_hears : cd_MV m_H_hears 1 := ⟨⟨mc_H_hears, cd_mem 56 (by decide +kernel) rfl, by decide +kernel, by decide⟩, cd_mem 421 (by decide +kernel) rfl, cd_mem 422 (by decide +kernel) rfl⟩
abbrev b_H_getsUp : ByteArray := prog_3_method_13_code
abbrev m_H_getsUp : cd_MT := (⟨"CatDoors$House", "getsUp", "(LCatDoors$Asking;)Z"⟩, b_H_getsUp, 2, some .boolean)
set_option maxRecDepth 100000 in
theorem mc_H_getsUp : Cond.code m_H_getsUp.1 m_H_getsUp.2.1 m_H_getsUp.2.2.1 m_H_getsUp.2.2.2 ∈ cd_ws := cd_mem 374 rfl rfl
theorem mf_H_getsUp : cd_MV m_H_getsUp 1 := ⟨⟨mc_H_getsUp, cd_mem 56 (by decide +kernel) rfl, by decide +kernel, by decide⟩, cd_mem 372 (by decide +kernel) rfl, cd_mem 373 (by decide +kernel) rfl⟩
abbrev b_H_goesIfMeant : ByteArray := prog_3_method_14_code
abbrev m_H_goesIfMeant : cd_MT := (⟨"CatDoors$House", "goesIfMeant", "(LCatDoors$Asking;)Z"⟩, b_H_goesIfMeant, 2, some .boolean)
set_option maxRecDepth 100000 in
theorem mc_H_goesIfMeant : Cond.code m_H_goesIfMeant.1 m_H_goesIfMeant.2.1 m_H_goesIfMeant.2.2.1 m_H_goesIfMeant.2.2.2 ∈ cd_ws := cd_mem 384 rfl rfl
theorem mf_H_goesIfMeant : cd_MV m_H_goesIfMeant 1 := ⟨⟨mc_H_goesIfMeant, cd_mem 56 (by decide +kernel) rfl, by decide +kernel, by decide⟩, cd_mem 382 (by decide +kernel) rfl, cd_mem 383 (by decide +kernel) rfl⟩
abbrev b_H_habitSum : ByteArray := prog_3_method_15_code
abbrev m_H_habitSum : cd_MT := (⟨"CatDoors$House", "habitSum", "()I"⟩, b_H_habitSum, 3, some .int)
set_option maxRecDepth 100000 in
theorem mc_H_habitSum : Cond.code m_H_habitSum.1 m_H_habitSum.2.1 m_H_habitSum.2.2.1 m_H_habitSum.2.2.2 ∈ cd_ws := cd_mem 439 rfl rfl
theorem mf_H_habitSum : cd_MV m_H_habitSum 0 := ⟨⟨mc_H_habitSum, cd_mem 56 (by decide +kernel) rfl, by decide +kernel, by decide⟩, cd_mem 437 (by decide +kernel) rfl, cd_mem 438 (by decide +kernel) rfl⟩
abbrev b_H_comingNext : ByteArray := prog_3_method_16_code
abbrev m_H_comingNext : cd_MT := (⟨"CatDoors$House", "comingNext", "()I"⟩, b_H_comingNext, 5, some .int)
set_option maxRecDepth 100000 in
theorem mc_H_comingNext : Cond.code m_H_comingNext.1 m_H_comingNext.2.1 m_H_comingNext.2.2.1 m_H_comingNext.2.2.2 ∈ cd_ws := cd_mem 443 rfl rfl
theorem mf_H_comingNext : cd_MV m_H_comingNext 0 := ⟨⟨mc_H_comingNext, cd_mem 56 (by decide +kernel) rfl, by decide +kernel, by decide⟩, cd_mem 441 (by decide +kernel) rfl, cd_mem 442 (by decide +kernel) rfl⟩
theorem lk_H_3 : Cond.methodLink "CatDoors$House" 3 ⟨"java/lang/Object", "<init>", "()V"⟩ ∈ cd_ws := cd_mem 83 (by decide +kernel) rfl
theorem lk_H_48 : Cond.methodLink "CatDoors$House" 48 ⟨"java/lang/System", "arraycopy", "(Ljava/lang/Object;ILjava/lang/Object;II)V"⟩ ∈ cd_ws := cd_mem 452 (by decide +kernel) rfl
theorem lk_H_54 : Cond.methodLink "CatDoors$House" 54 ⟨"CatDoors$Asking", "takes", "(LCatDoors$Asking;)V"⟩ ∈ cd_ws := cd_mem 455 (by decide +kernel) rfl
theorem lk_H_74 : Cond.methodLink "CatDoors$House" 74 ⟨"CatDoors$House", "lawOf", "(I)LCatDoors$Text;"⟩ ∈ cd_ws := cd_mem 304 (by decide +kernel) rfl
theorem lk_H_78 : Cond.methodLink "CatDoors$House" 78 ⟨"CatDoors$Text", "gives", "(III)I"⟩ ∈ cd_ws := cd_mem 308 (by decide +kernel) rfl
theorem lk_H_87 : Cond.methodLink "CatDoors$House" 87 ⟨"CatDoors$House", "draw", "()I"⟩ ∈ cd_ws := cd_mem 390 (by decide +kernel) rfl
theorem lk_H_91 : Cond.methodLink "CatDoors$House" 91 ⟨"CatDoors$House", "drawsWeather", "()V"⟩ ∈ cd_ws := cd_mem 412 (by decide +kernel) rfl
theorem lk_H_94 : Cond.methodLink "CatDoors$House" 94 ⟨"CatDoors$House", "asksNow", "(LCatDoors$Asking;)Z"⟩ ∈ cd_ws := cd_mem 416 (by decide +kernel) rfl
theorem lk_H_98 : Cond.methodLink "CatDoors$House" 98 ⟨"CatDoors$House", "hears", "(LCatDoors$Asking;)V"⟩ ∈ cd_ws := cd_mem 420 (by decide +kernel) rfl
theorem lk_H_101 : Cond.methodLink "CatDoors$House" 101 ⟨"CatDoors$House", "drawsBelow", "(I)Z"⟩ ∈ cd_ws := cd_mem 386 (by decide +kernel) rfl
theorem lk_H_105 : Cond.methodLink "CatDoors$House" 105 ⟨"CatDoors$House", "goesIfMeant", "(LCatDoors$Asking;)Z"⟩ ∈ cd_ws := cd_mem 381 (by decide +kernel) rfl
theorem lk_H_108 : Cond.methodLink "CatDoors$House" 108 ⟨"CatDoors$Asking", "presses", "(LCatDoors$House;)I"⟩ ∈ cd_ws := cd_mem 424 (by decide +kernel) rfl
theorem lk_H_112 : Cond.methodLink "CatDoors$House" 112 ⟨"CatDoors$House", "getsUp", "(LCatDoors$Asking;)Z"⟩ ∈ cd_ws := cd_mem 425 (by decide +kernel) rfl
theorem lk_H_118 : Cond.methodLink "CatDoors$House" 118 ⟨"CatDoors$Asking", "fails", "()V"⟩ ∈ cd_ws := cd_mem 427 (by decide +kernel) rfl
theorem lk_H_121 : Cond.methodLink "CatDoors$House" 121 ⟨"CatDoors$Asking", "works", "()V"⟩ ∈ cd_ws := cd_mem 375 (by decide +kernel) rfl
theorem lk_H_124 : Cond.methodLink "CatDoors$House" 124 ⟨"CatDoors$Asking", "meansIt", "(LCatDoors$House;)I"⟩ ∈ cd_ws := cd_mem 385 (by decide +kernel) rfl
theorem f_H_9 : cd_F "CatDoors$House" 9 1 0 (.array .int) true := ⟨_, _, _, _, cd_ci1, by decide, cd_mem 121 (by decide +kernel) rfl, rfl, rfl, rfl⟩
theorem f_H_15 : cd_F "CatDoors$House" 15 1 1 (.array .int) true := ⟨_, _, _, _, cd_ci1, by decide, cd_mem 124 (by decide +kernel) rfl, rfl, rfl, rfl⟩
theorem f_H_20 : cd_F "CatDoors$House" 20 1 2 (.array ((.object "CatDoors$Asking"))) true := ⟨_, _, _, _, cd_ci1, by decide, cd_mem 126 (by decide +kernel) rfl, rfl, rfl, rfl⟩
theorem f_H_24 : cd_F "CatDoors$House" 24 1 3 .int false := ⟨_, _, _, _, cd_ci1, by decide, cd_mem 128 (by decide +kernel) rfl, rfl, rfl, rfl⟩
theorem f_H_28 : cd_F "CatDoors$House" 28 1 4 .int false := ⟨_, _, _, _, cd_ci1, by decide, cd_mem 130 (by decide +kernel) rfl, rfl, rfl, rfl⟩
theorem f_H_31 : cd_F "CatDoors$House" 31 1 5 .int false := ⟨_, _, _, _, cd_ci1, by decide, cd_mem 132 (by decide +kernel) rfl, rfl, rfl, rfl⟩
theorem f_H_36 : cd_F "CatDoors$House" 36 1 6 (.array ((.object "CatDoors$Text"))) true := ⟨_, _, _, _, cd_ci1, by decide, cd_mem 134 (by decide +kernel) rfl, rfl, rfl, rfl⟩
theorem f_H_40 : cd_F "CatDoors$House" 40 1 7 .int false := ⟨_, _, _, _, cd_ci1, by decide, cd_mem 136 (by decide +kernel) rfl, rfl, rfl, rfl⟩
theorem f_H_44 : cd_F "CatDoors$House" 44 1 8 (.array .int) true := ⟨_, _, _, _, cd_ci1, by decide, cd_mem 138 (by decide +kernel) rfl, rfl, rfl, rfl⟩
theorem f_H_58 : cd_F "CatDoors$House" 58 0 0 .int false := ⟨_, _, _, _, cd_ci0, by decide, cd_mem 95 (by decide +kernel) rfl, rfl, rfl, rfl⟩
theorem f_H_61 : cd_F "CatDoors$House" 61 0 1 .int false := ⟨_, _, _, _, cd_ci0, by decide, cd_mem 98 (by decide +kernel) rfl, rfl, rfl, rfl⟩
theorem f_H_62 : cd_F "CatDoors$House" 62 0 2 .int false := ⟨_, _, _, _, cd_ci0, by decide, cd_mem 101 (by decide +kernel) rfl, rfl, rfl, rfl⟩
theorem f_H_65 : cd_F "CatDoors$House" 65 0 3 .int false := ⟨_, _, _, _, cd_ci0, by decide, cd_mem 104 (by decide +kernel) rfl, rfl, rfl, rfl⟩
theorem f_H_68 : cd_F "CatDoors$House" 68 0 4 .int false := ⟨_, _, _, _, cd_ci0, by decide, cd_mem 107 (by decide +kernel) rfl, rfl, rfl, rfl⟩
theorem f_H_71 : cd_F "CatDoors$House" 71 5 0 .int true := ⟨_, _, _, _, cd_ci5, by decide, cd_mem 713 (by decide +kernel) rfl, rfl, rfl, rfl⟩
theorem k_H_43 : Cond.constant "CatDoors$House" 43 (-1000000005) ∈ cd_ws := cd_mem 88 (by decide +kernel) rfl
theorem k_H_86 : Cond.constant "CatDoors$House" 86 (1103515245) ∈ cd_ws := cd_mem 394 (by decide +kernel) rfl
abbrev b_S_init : ByteArray := prog_4_method_1_code
abbrev m_S_init : cd_MT := (⟨"CatDoors$Sheet", "<init>", "()V"⟩, b_S_init, 1, none)
set_option maxRecDepth 100000 in
theorem mc_S_init : Cond.code m_S_init.1 m_S_init.2.1 m_S_init.2.2.1 m_S_init.2.2.2 ∈ cd_ws := cd_mem 203 rfl rfl
theorem mf_S_init : cd_MI m_S_init 0 := ⟨⟨mc_S_init, cd_mem 59 (by decide +kernel) rfl, by decide +kernel, by decide⟩, rfl, cd_mem 202 (by decide +kernel) rfl, rfl⟩
abbrev b_S_becomes : ByteArray := prog_4_method_2_code
abbrev m_S_becomes : cd_MT := (⟨"CatDoors$Sheet", "becomes", "(II)V"⟩, b_S_becomes, 4, none)
set_option maxRecDepth 100000 in
theorem mc_S_becomes : Cond.code m_S_becomes.1 m_S_becomes.2.1 m_S_becomes.2.2.1 m_S_becomes.2.2.2 ∈ cd_ws := cd_mem 747 rfl rfl
theorem mf_S_becomes : cd_MV m_S_becomes 2 := ⟨⟨mc_S_becomes, cd_mem 59 (by decide +kernel) rfl, by decide +kernel, by decide⟩, cd_mem 745 (by decide +kernel) rfl, cd_mem 746 (by decide +kernel) rfl⟩
abbrev b_S_takes : ByteArray := prog_4_method_3_code
abbrev m_S_takes : cd_MT := (⟨"CatDoors$Sheet", "takes", "(LCatDoors$Sheet;)V"⟩, b_S_takes, 2, none)
set_option maxRecDepth 100000 in
theorem mc_S_takes : Cond.code m_S_takes.1 m_S_takes.2.1 m_S_takes.2.2.1 m_S_takes.2.2.2 ∈ cd_ws := cd_mem 783 rfl rfl
theorem mf_S_takes : cd_MV m_S_takes 1 := ⟨⟨mc_S_takes, cd_mem 59 (by decide +kernel) rfl, by decide +kernel, by decide⟩, cd_mem 781 (by decide +kernel) rfl, cd_mem 782 (by decide +kernel) rfl⟩
abbrev b_S_isMissing : ByteArray := prog_4_method_4_code
abbrev m_S_isMissing : cd_MT := (⟨"CatDoors$Sheet", "isMissing", "()Z"⟩, b_S_isMissing, 1, some .boolean)
set_option maxRecDepth 100000 in
theorem mc_S_isMissing : Cond.code m_S_isMissing.1 m_S_isMissing.2.1 m_S_isMissing.2.2.1 m_S_isMissing.2.2.2 ∈ cd_ws := cd_mem 496 rfl rfl
theorem mf_S_isMissing : cd_MV m_S_isMissing 0 := ⟨⟨mc_S_isMissing, cd_mem 59 (by decide +kernel) rfl, by decide +kernel, by decide⟩, cd_mem 494 (by decide +kernel) rfl, cd_mem 495 (by decide +kernel) rfl⟩
abbrev b_S_hasPlace : ByteArray := prog_4_method_5_code
abbrev m_S_hasPlace : cd_MT := (⟨"CatDoors$Sheet", "hasPlace", "(I)Z"⟩, b_S_hasPlace, 2, some .boolean)
set_option maxRecDepth 100000 in
theorem mc_S_hasPlace : Cond.code m_S_hasPlace.1 m_S_hasPlace.2.1 m_S_hasPlace.2.2.1 m_S_hasPlace.2.2.2 ∈ cd_ws := cd_mem 509 rfl rfl
theorem mf_S_hasPlace : cd_MV m_S_hasPlace 1 := ⟨⟨mc_S_hasPlace, cd_mem 59 (by decide +kernel) rfl, by decide +kernel, by decide⟩, cd_mem 507 (by decide +kernel) rfl, cd_mem 508 (by decide +kernel) rfl⟩
abbrev b_S_hasPlaces : ByteArray := prog_4_method_6_code
abbrev m_S_hasPlaces : cd_MT := (⟨"CatDoors$Sheet", "hasPlaces", "(II)Z"⟩, b_S_hasPlaces, 3, some .boolean)
set_option maxRecDepth 100000 in
theorem mc_S_hasPlaces : Cond.code m_S_hasPlaces.1 m_S_hasPlaces.2.1 m_S_hasPlaces.2.2.1 m_S_hasPlaces.2.2.2 ∈ cd_ws := cd_mem 773 rfl rfl
theorem mf_S_hasPlaces : cd_MV m_S_hasPlaces 2 := ⟨⟨mc_S_hasPlaces, cd_mem 59 (by decide +kernel) rfl, by decide +kernel, by decide⟩, cd_mem 771 (by decide +kernel) rfl, cd_mem 772 (by decide +kernel) rfl⟩
abbrev b_S_isNumber : ByteArray := prog_4_method_7_code
abbrev m_S_isNumber : cd_MT := (⟨"CatDoors$Sheet", "isNumber", "(I)Z"⟩, b_S_isNumber, 2, some .boolean)
set_option maxRecDepth 100000 in
theorem mc_S_isNumber : Cond.code m_S_isNumber.1 m_S_isNumber.2.1 m_S_isNumber.2.2.1 m_S_isNumber.2.2.2 ∈ cd_ws := cd_mem 505 rfl rfl
theorem mf_S_isNumber : cd_MV m_S_isNumber 1 := ⟨⟨mc_S_isNumber, cd_mem 59 (by decide +kernel) rfl, by decide +kernel, by decide⟩, cd_mem 503 (by decide +kernel) rfl, cd_mem 504 (by decide +kernel) rfl⟩
theorem lk_S_3 : Cond.methodLink "CatDoors$Sheet" 3 ⟨"java/lang/Object", "<init>", "()V"⟩ ∈ cd_ws := cd_mem 204 (by decide +kernel) rfl
theorem lk_S_22 : Cond.methodLink "CatDoors$Sheet" 22 ⟨"java/lang/System", "arraycopy", "(Ljava/lang/Object;ILjava/lang/Object;II)V"⟩ ∈ cd_ws := cd_mem 784 (by decide +kernel) rfl
theorem lk_S_28 : Cond.methodLink "CatDoors$Sheet" 28 ⟨"CatDoors$Sheet", "hasPlace", "(I)Z"⟩ ∈ cd_ws := cd_mem 506 (by decide +kernel) rfl
theorem f_S_9 : cd_F "CatDoors$Sheet" 9 2 0 .int false := ⟨_, _, _, _, cd_ci2, by decide, cd_mem 205 (by decide +kernel) rfl, rfl, rfl, rfl⟩
theorem f_S_15 : cd_F "CatDoors$Sheet" 15 2 1 .int false := ⟨_, _, _, _, cd_ci2, by decide, cd_mem 207 (by decide +kernel) rfl, rfl, rfl, rfl⟩
theorem f_S_18 : cd_F "CatDoors$Sheet" 18 2 2 (.array .int) true := ⟨_, _, _, _, cd_ci2, by decide, cd_mem 209 (by decide +kernel) rfl, rfl, rfl, rfl⟩
theorem k_S_32 : Cond.constant "CatDoors$Sheet" 32 (-1000000005) ∈ cd_ws := cd_mem 510 (by decide +kernel) rfl
abbrev b_L_init : ByteArray := prog_5_method_1_code
abbrev m_L_init : cd_MT := (⟨"CatDoors$Slot", "<init>", "()V"⟩, b_L_init, 1, none)
set_option maxRecDepth 100000 in
theorem mc_L_init : Cond.code m_L_init.1 m_L_init.2.1 m_L_init.2.2.1 m_L_init.2.2.2 ∈ cd_ws := cd_mem 221 rfl rfl
theorem mf_L_init : cd_MI m_L_init 0 := ⟨⟨mc_L_init, cd_mem 60 (by decide +kernel) rfl, by decide +kernel, by decide⟩, rfl, cd_mem 220 (by decide +kernel) rfl, rfl⟩
abbrev b_L_refuses : ByteArray := prog_5_method_2_code
abbrev m_L_refuses : cd_MT := (⟨"CatDoors$Slot", "refuses", "(I)I"⟩, b_L_refuses, 2, some .int)
set_option maxRecDepth 100000 in
theorem mc_L_refuses : Cond.code m_L_refuses.1 m_L_refuses.2.1 m_L_refuses.2.2.1 m_L_refuses.2.2.2 ∈ cd_ws := cd_mem 792 rfl rfl
theorem mf_L_refuses : cd_MV m_L_refuses 1 := ⟨⟨mc_L_refuses, cd_mem 60 (by decide +kernel) rfl, by decide +kernel, by decide⟩, cd_mem 790 (by decide +kernel) rfl, cd_mem 791 (by decide +kernel) rfl⟩
theorem lk_L_3 : Cond.methodLink "CatDoors$Slot" 3 ⟨"java/lang/Object", "<init>", "()V"⟩ ∈ cd_ws := cd_mem 222 (by decide +kernel) rfl
theorem f_L_9 : cd_F "CatDoors$Slot" 9 3 0 .int false := ⟨_, _, _, _, cd_ci3, by decide, cd_mem 227 (by decide +kernel) rfl, rfl, rfl, rfl⟩
theorem f_L_15 : cd_F "CatDoors$Slot" 15 3 1 .int false := ⟨_, _, _, _, cd_ci3, by decide, cd_mem 229 (by decide +kernel) rfl, rfl, rfl, rfl⟩
theorem f_L_21 : cd_F "CatDoors$Slot" 21 3 2 (.object "CatDoors$Asking") true := ⟨_, _, _, _, cd_ci3, by decide, cd_mem 231 (by decide +kernel) rfl, rfl, rfl, rfl⟩
theorem f_L_28 : cd_F "CatDoors$Slot" 28 3 3 (.object "CatDoors$Sheet") true := ⟨_, _, _, _, cd_ci3, by decide, cd_mem 233 (by decide +kernel) rfl, rfl, rfl, rfl⟩
theorem k_L_32 : Cond.constant "CatDoors$Slot" 32 (-1000000011) ∈ cd_ws := cd_mem 793 (by decide +kernel) rfl
theorem k_L_33 : Cond.constant "CatDoors$Slot" 33 (-1000000012) ∈ cd_ws := cd_mem 794 (by decide +kernel) rfl
abbrev b_T_init : ByteArray := prog_6_method_1_code
abbrev m_T_init : cd_MT := (⟨"CatDoors$Tape", "<init>", "()V"⟩, b_T_init, 1, none)
set_option maxRecDepth 100000 in
theorem mc_T_init : Cond.code m_T_init.1 m_T_init.2.1 m_T_init.2.2.1 m_T_init.2.2.2 ∈ cd_ws := cd_mem 163 rfl rfl
theorem mf_T_init : cd_MI m_T_init 0 := ⟨⟨mc_T_init, cd_mem 58 (by decide +kernel) rfl, by decide +kernel, by decide⟩, rfl, cd_mem 162 (by decide +kernel) rfl, rfl⟩
abbrev b_T_addsBytes : ByteArray := prog_6_method_2_code
abbrev m_T_addsBytes : cd_MT := (⟨"CatDoors$Tape", "addsBytes", "(I)V"⟩, b_T_addsBytes, 3, none)
set_option maxRecDepth 100000 in
theorem mc_T_addsBytes : Cond.code m_T_addsBytes.1 m_T_addsBytes.2.1 m_T_addsBytes.2.2.1 m_T_addsBytes.2.2.2 ∈ cd_ws := cd_mem 535 rfl rfl
theorem mf_T_addsBytes : cd_MV m_T_addsBytes 1 := ⟨⟨mc_T_addsBytes, cd_mem 58 (by decide +kernel) rfl, by decide +kernel, by decide⟩, cd_mem 533 (by decide +kernel) rfl, cd_mem 534 (by decide +kernel) rfl⟩
abbrev b_T_readsText : ByteArray := prog_6_method_3_code
abbrev m_T_readsText : cd_MT := (⟨"CatDoors$Tape", "readsText", "()LCatDoors$Text;"⟩, b_T_readsText, 2, some (.object "CatDoors$Text"))
set_option maxRecDepth 100000 in
theorem mc_T_readsText : Cond.code m_T_readsText.1 m_T_readsText.2.1 m_T_readsText.2.2.1 m_T_readsText.2.2.2 ∈ cd_ws := cd_mem 547 rfl rfl
theorem mf_T_readsText : cd_MV m_T_readsText 0 := ⟨⟨mc_T_readsText, cd_mem 58 (by decide +kernel) rfl, by decide +kernel, by decide⟩, cd_mem 545 (by decide +kernel) rfl, cd_mem 546 (by decide +kernel) rfl⟩
abbrev b_T_readsKey : ByteArray := prog_6_method_4_code
abbrev m_T_readsKey : cd_MT := (⟨"CatDoors$Tape", "readsKey", "()Z"⟩, b_T_readsKey, 1, some .boolean)
set_option maxRecDepth 100000 in
theorem mc_T_readsKey : Cond.code m_T_readsKey.1 m_T_readsKey.2.1 m_T_readsKey.2.2.1 m_T_readsKey.2.2.2 ∈ cd_ws := cd_mem 559 rfl rfl
theorem mf_T_readsKey : cd_MV m_T_readsKey 0 := ⟨⟨mc_T_readsKey, cd_mem 58 (by decide +kernel) rfl, by decide +kernel, by decide⟩, cd_mem 558 (by decide +kernel) rfl, cd_mem 6 (by decide +kernel) rfl⟩
abbrev b_T_readsLevel : ByteArray := prog_6_method_5_code
abbrev m_T_readsLevel : cd_MT := (⟨"CatDoors$Tape", "readsLevel", "(III)Z"⟩, b_T_readsLevel, 7, some .boolean)
set_option maxRecDepth 100000 in
theorem mc_T_readsLevel : Cond.code m_T_readsLevel.1 m_T_readsLevel.2.1 m_T_readsLevel.2.2.1 m_T_readsLevel.2.2.2 ∈ cd_ws := cd_mem 618 rfl rfl
theorem mf_T_readsLevel : cd_MV m_T_readsLevel 3 := ⟨⟨mc_T_readsLevel, cd_mem 58 (by decide +kernel) rfl, by decide +kernel, by decide⟩, cd_mem 617 (by decide +kernel) rfl, cd_mem 8 (by decide +kernel) rfl⟩
abbrev b_T_readsPiece : ByteArray := prog_6_method_6_code
abbrev m_T_readsPiece : cd_MT := (⟨"CatDoors$Tape", "readsPiece", "(II)Z"⟩, b_T_readsPiece, 4, some .boolean)
set_option maxRecDepth 100000 in
theorem mc_T_readsPiece : Cond.code m_T_readsPiece.1 m_T_readsPiece.2.1 m_T_readsPiece.2.2.1 m_T_readsPiece.2.2.2 ∈ cd_ws := cd_mem 622 rfl rfl
theorem mf_T_readsPiece : cd_MV m_T_readsPiece 2 := ⟨⟨mc_T_readsPiece, cd_mem 58 (by decide +kernel) rfl, by decide +kernel, by decide⟩, cd_mem 621 (by decide +kernel) rfl, cd_mem 9 (by decide +kernel) rfl⟩
abbrev b_T_readsLeaf : ByteArray := prog_6_method_7_code
abbrev m_T_readsLeaf : cd_MT := (⟨"CatDoors$Tape", "readsLeaf", "()Z"⟩, b_T_readsLeaf, 2, some .boolean)
set_option maxRecDepth 100000 in
theorem mc_T_readsLeaf : Cond.code m_T_readsLeaf.1 m_T_readsLeaf.2.1 m_T_readsLeaf.2.2.1 m_T_readsLeaf.2.2.2 ∈ cd_ws := cd_mem 626 rfl rfl
theorem mf_T_readsLeaf : cd_MV m_T_readsLeaf 0 := ⟨⟨mc_T_readsLeaf, cd_mem 58 (by decide +kernel) rfl, by decide +kernel, by decide⟩, cd_mem 625 (by decide +kernel) rfl, cd_mem 10 (by decide +kernel) rfl⟩
abbrev b_T_number : ByteArray := prog_6_method_8_code
abbrev m_T_number : cd_MT := (⟨"CatDoors$Tape", "number", "()I"⟩, b_T_number, 3, some .int)
set_option maxRecDepth 100000 in
theorem mc_T_number : Cond.code m_T_number.1 m_T_number.2.1 m_T_number.2.2.1 m_T_number.2.2.2 ∈ cd_ws := cd_mem 630 rfl rfl
theorem mf_T_number : cd_MV m_T_number 0 := ⟨⟨mc_T_number, cd_mem 58 (by decide +kernel) rfl, by decide +kernel, by decide⟩, cd_mem 629 (by decide +kernel) rfl, cd_mem 11 (by decide +kernel) rfl⟩
abbrev b_T_name : ByteArray := prog_6_method_9_code
abbrev m_T_name : cd_MT := (⟨"CatDoors$Tape", "name", "()I"⟩, b_T_name, 3, some .int)
set_option maxRecDepth 100000 in
theorem mc_T_name : Cond.code m_T_name.1 m_T_name.2.1 m_T_name.2.2.1 m_T_name.2.2.2 ∈ cd_ws := cd_mem 634 rfl rfl
theorem mf_T_name : cd_MV m_T_name 0 := ⟨⟨mc_T_name, cd_mem 58 (by decide +kernel) rfl, by decide +kernel, by decide⟩, cd_mem 633 (by decide +kernel) rfl, cd_mem 12 (by decide +kernel) rfl⟩
abbrev b_T_puts : ByteArray := prog_6_method_10_code
abbrev m_T_puts : cd_MT := (⟨"CatDoors$Tape", "puts", "(I)V"⟩, b_T_puts, 2, none)
set_option maxRecDepth 100000 in
theorem mc_T_puts : Cond.code m_T_puts.1 m_T_puts.2.1 m_T_puts.2.2.1 m_T_puts.2.2.2 ∈ cd_ws := cd_mem 696 rfl rfl
theorem mf_T_puts : cd_MV m_T_puts 1 := ⟨⟨mc_T_puts, cd_mem 58 (by decide +kernel) rfl, by decide +kernel, by decide⟩, cd_mem 695 (by decide +kernel) rfl, cd_mem 13 (by decide +kernel) rfl⟩
abbrev b_T_isWord : ByteArray := prog_6_method_11_code
abbrev m_T_isWord : cd_MT := (⟨"CatDoors$Tape", "isWord", "(Ljava/lang/String;)Z"⟩, b_T_isWord, 3, some .boolean)
set_option maxRecDepth 100000 in
theorem mc_T_isWord : Cond.code m_T_isWord.1 m_T_isWord.2.1 m_T_isWord.2.2.1 m_T_isWord.2.2.2 ∈ cd_ws := cd_mem 564 rfl rfl
theorem mf_T_isWord : cd_MV m_T_isWord 1 := ⟨⟨mc_T_isWord, cd_mem 58 (by decide +kernel) rfl, by decide +kernel, by decide⟩, cd_mem 563 (by decide +kernel) rfl, cd_mem 7 (by decide +kernel) rfl⟩
abbrev b_T_isSign : ByteArray := prog_6_method_12_code
abbrev m_T_isSign : cd_MT := (⟨"CatDoors$Tape", "isSign", "(C)Z"⟩, b_T_isSign, 2, some .boolean)
set_option maxRecDepth 100000 in
theorem mc_T_isSign : Cond.code m_T_isSign.1 m_T_isSign.2.1 m_T_isSign.2.2.1 m_T_isSign.2.2.2 ∈ cd_ws := cd_mem 700 rfl rfl
theorem mf_T_isSign : cd_MV m_T_isSign 1 := ⟨⟨mc_T_isSign, cd_mem 58 (by decide +kernel) rfl, by decide +kernel, by decide⟩, cd_mem 699 (by decide +kernel) rfl, cd_mem 14 (by decide +kernel) rfl⟩
abbrev b_T_isSignOf : ByteArray := prog_6_method_13_code
abbrev m_T_isSignOf : cd_MT := (⟨"CatDoors$Tape", "isSignOf", "(I)Z"⟩, b_T_isSignOf, 2, some .boolean)
set_option maxRecDepth 100000 in
theorem mc_T_isSignOf : Cond.code m_T_isSignOf.1 m_T_isSignOf.2.1 m_T_isSignOf.2.2.1 m_T_isSignOf.2.2.2 ∈ cd_ws := cd_mem 704 rfl rfl
theorem mf_T_isSignOf : cd_MV m_T_isSignOf 1 := ⟨⟨mc_T_isSignOf, cd_mem 58 (by decide +kernel) rfl, by decide +kernel, by decide⟩, cd_mem 703 (by decide +kernel) rfl, cd_mem 15 (by decide +kernel) rfl⟩
abbrev b_T_advances : ByteArray := prog_6_method_14_code
abbrev m_T_advances : cd_MT := (⟨"CatDoors$Tape", "advances", "()V"⟩, b_T_advances, 3, none)
set_option maxRecDepth 100000 in
theorem mc_T_advances : Cond.code m_T_advances.1 m_T_advances.2.1 m_T_advances.2.2.1 m_T_advances.2.2.2 ∈ cd_ws := cd_mem 551 rfl rfl
theorem mf_T_advances : cd_MV m_T_advances 0 := ⟨⟨mc_T_advances, cd_mem 58 (by decide +kernel) rfl, by decide +kernel, by decide⟩, cd_mem 550 (by decide +kernel) rfl, cd_mem 4 (by decide +kernel) rfl⟩
abbrev b_T_sortAt : ByteArray := prog_6_method_15_code
abbrev m_T_sortAt : cd_MT := (⟨"CatDoors$Tape", "sortAt", "(I)I"⟩, b_T_sortAt, 3, some .int)
set_option maxRecDepth 100000 in
theorem mc_T_sortAt : Cond.code m_T_sortAt.1 m_T_sortAt.2.1 m_T_sortAt.2.2.1 m_T_sortAt.2.2.2 ∈ cd_ws := cd_mem 555 rfl rfl
theorem mf_T_sortAt : cd_MV m_T_sortAt 1 := ⟨⟨mc_T_sortAt, cd_mem 58 (by decide +kernel) rfl, by decide +kernel, by decide⟩, cd_mem 554 (by decide +kernel) rfl, cd_mem 5 (by decide +kernel) rfl⟩
theorem lk_T_3 : Cond.methodLink "CatDoors$Tape" 3 ⟨"java/lang/Object", "<init>", "()V"⟩ ∈ cd_ws := cd_mem 164 (by decide +kernel) rfl
theorem lk_T_41 : Cond.methodLink "CatDoors$Tape" 41 ⟨"CatDoors$Tape", "advances", "()V"⟩ ∈ cd_ws := cd_mem 548 (by decide +kernel) rfl
theorem lk_T_44 : Cond.methodLink "CatDoors$Tape" 44 ⟨"CatDoors$Tape", "readsKey", "()Z"⟩ ∈ cd_ws := cd_mem 556 (by decide +kernel) rfl
theorem lk_T_48 : Cond.methodLink "CatDoors$Tape" 48 ⟨"CatDoors$Tape", "readsLevel", "(III)Z"⟩ ∈ cd_ws := cd_mem 615 (by decide +kernel) rfl
theorem lk_T_52 : Cond.methodLink "CatDoors$Tape" 52 ⟨"java/lang/System", "arraycopy", "(Ljava/lang/Object;ILjava/lang/Object;II)V"⟩ ∈ cd_ws := cd_mem 705 (by decide +kernel) rfl
theorem lk_T_60 : Cond.methodLink "CatDoors$Tape" 60 ⟨"CatDoors$Text", "<init>", "(II[I)V"⟩ ∈ cd_ws := cd_mem 708 (by decide +kernel) rfl
theorem lk_T_65 : Cond.methodLink "CatDoors$Tape" 65 ⟨"CatDoors$Tape", "isWord", "(Ljava/lang/String;)Z"⟩ ∈ cd_ws := cd_mem 561 (by decide +kernel) rfl
theorem lk_T_73 : Cond.methodLink "CatDoors$Tape" 73 ⟨"CatDoors$Tape", "readsPiece", "(II)Z"⟩ ∈ cd_ws := cd_mem 619 (by decide +kernel) rfl
theorem lk_T_77 : Cond.methodLink "CatDoors$Tape" 77 ⟨"CatDoors$Tape", "isSignOf", "(I)Z"⟩ ∈ cd_ws := cd_mem 701 (by decide +kernel) rfl
theorem lk_T_81 : Cond.methodLink "CatDoors$Tape" 81 ⟨"CatDoors$Tape", "puts", "(I)V"⟩ ∈ cd_ws := cd_mem 693 (by decide +kernel) rfl
theorem lk_T_85 : Cond.methodLink "CatDoors$Tape" 85 ⟨"CatDoors$Tape", "readsLeaf", "()Z"⟩ ∈ cd_ws := cd_mem 623 (by decide +kernel) rfl
theorem lk_T_88 : Cond.methodLink "CatDoors$Tape" 88 ⟨"CatDoors$Tape", "isSign", "(C)Z"⟩ ∈ cd_ws := cd_mem 697 (by decide +kernel) rfl
theorem lk_T_92 : Cond.methodLink "CatDoors$Tape" 92 ⟨"CatDoors$Tape", "number", "()I"⟩ ∈ cd_ws := cd_mem 627 (by decide +kernel) rfl
theorem lk_T_96 : Cond.methodLink "CatDoors$Tape" 96 ⟨"CatDoors$Tape", "name", "()I"⟩ ∈ cd_ws := cd_mem 631 (by decide +kernel) rfl
theorem lk_T_105 : Cond.methodLink "CatDoors$Tape" 105 ⟨"java/lang/String", "indexOf", "(I)I"⟩ ∈ cd_ws := cd_mem 638 (by decide +kernel) rfl
theorem lk_T_111 : Cond.methodLink "CatDoors$Tape" 111 ⟨"java/lang/String", "length", "()I"⟩ ∈ cd_ws := cd_mem 565 (by decide +kernel) rfl
theorem lk_T_113 : Cond.methodLink "CatDoors$Tape" 113 ⟨"java/lang/String", "charAt", "(I)C"⟩ ∈ cd_ws := cd_mem 575 (by decide +kernel) rfl
theorem lk_T_117 : Cond.methodLink "CatDoors$Tape" 117 ⟨"CatDoors$Tape", "sortAt", "(I)I"⟩ ∈ cd_ws := cd_mem 552 (by decide +kernel) rfl
theorem f_T_9 : cd_F "CatDoors$Tape" 9 4 0 .int false := ⟨_, _, _, _, cd_ci4, by decide, cd_mem 165 (by decide +kernel) rfl, rfl, rfl, rfl⟩
theorem f_T_15 : cd_F "CatDoors$Tape" 15 4 1 .int false := ⟨_, _, _, _, cd_ci4, by decide, cd_mem 167 (by decide +kernel) rfl, rfl, rfl, rfl⟩
theorem f_T_18 : cd_F "CatDoors$Tape" 18 4 2 .int false := ⟨_, _, _, _, cd_ci4, by decide, cd_mem 169 (by decide +kernel) rfl, rfl, rfl, rfl⟩
theorem f_T_21 : cd_F "CatDoors$Tape" 21 4 3 .int false := ⟨_, _, _, _, cd_ci4, by decide, cd_mem 170 (by decide +kernel) rfl, rfl, rfl, rfl⟩
theorem f_T_24 : cd_F "CatDoors$Tape" 24 4 4 .int false := ⟨_, _, _, _, cd_ci4, by decide, cd_mem 171 (by decide +kernel) rfl, rfl, rfl, rfl⟩
theorem f_T_27 : cd_F "CatDoors$Tape" 27 4 5 .int false := ⟨_, _, _, _, cd_ci4, by decide, cd_mem 172 (by decide +kernel) rfl, rfl, rfl, rfl⟩
theorem f_T_30 : cd_F "CatDoors$Tape" 30 4 6 .int false := ⟨_, _, _, _, cd_ci4, by decide, cd_mem 173 (by decide +kernel) rfl, rfl, rfl, rfl⟩
theorem f_T_33 : cd_F "CatDoors$Tape" 33 4 7 (.array .byte) true := ⟨_, _, _, _, cd_ci4, by decide, cd_mem 174 (by decide +kernel) rfl, rfl, rfl, rfl⟩
theorem f_T_37 : cd_F "CatDoors$Tape" 37 4 8 (.array .int) true := ⟨_, _, _, _, cd_ci4, by decide, cd_mem 175 (by decide +kernel) rfl, rfl, rfl, rfl⟩
abbrev b_X_init : ByteArray := prog_7_method_1_code
abbrev m_X_init : cd_MT := (⟨"CatDoors$Text", "<init>", "(II[I)V"⟩, b_X_init, 4, none)
set_option maxRecDepth 100000 in
theorem mc_X_init : Cond.code m_X_init.1 m_X_init.2.1 m_X_init.2.2.1 m_X_init.2.2.2 ∈ cd_ws := cd_mem 710 rfl rfl
theorem mf_X_init : cd_MI m_X_init 3 := ⟨⟨mc_X_init, cd_mem 62 (by decide +kernel) rfl, by decide +kernel, by decide⟩, rfl, cd_mem 709 (by decide +kernel) rfl, rfl⟩
abbrev b_X_gives : ByteArray := prog_7_method_2_code
abbrev m_X_gives : cd_MT := (⟨"CatDoors$Text", "gives", "(III)I"⟩, b_X_gives, 7, some .int)
set_option maxRecDepth 100000 in
theorem mc_X_gives : Cond.code m_X_gives.1 m_X_gives.2.1 m_X_gives.2.2.1 m_X_gives.2.2.2 ∈ cd_ws := cd_mem 311 rfl rfl
theorem mf_X_gives : cd_MV m_X_gives 3 := ⟨⟨mc_X_gives, cd_mem 62 (by decide +kernel) rfl, by decide +kernel, by decide⟩, cd_mem 309 (by decide +kernel) rfl, cd_mem 310 (by decide +kernel) rfl⟩
abbrev b_X_leaf : ByteArray := prog_7_method_3_code
abbrev m_X_leaf : cd_MT := (⟨"CatDoors$Text", "leaf", "(IIII)I"⟩, b_X_leaf, 4, some .int)
set_option maxRecDepth 100000 in
theorem mc_X_leaf : Cond.code m_X_leaf.1 m_X_leaf.2.1 m_X_leaf.2.2.1 m_X_leaf.2.2.2 ∈ cd_ws := cd_mem 314 rfl rfl
theorem mf_X_leaf : cd_MS m_X_leaf 4 := ⟨⟨mc_X_leaf, cd_mem 62 (by decide +kernel) rfl, by decide +kernel, by decide⟩, cd_mem 313 (by decide +kernel) rfl⟩
abbrev b_X_joined : ByteArray := prog_7_method_4_code
abbrev m_X_joined : cd_MT := (⟨"CatDoors$Text", "joined", "(III)I"⟩, b_X_joined, 3, some .int)
set_option maxRecDepth 100000 in
theorem mc_X_joined : Cond.code m_X_joined.1 m_X_joined.2.1 m_X_joined.2.2.1 m_X_joined.2.2.2 ∈ cd_ws := cd_mem 317 rfl rfl
theorem mf_X_joined : cd_MS m_X_joined 3 := ⟨⟨mc_X_joined, cd_mem 62 (by decide +kernel) rfl, by decide +kernel, by decide⟩, cd_mem 316 (by decide +kernel) rfl⟩
theorem lk_X_3 : Cond.methodLink "CatDoors$Text" 3 ⟨"java/lang/Object", "<init>", "()V"⟩ ∈ cd_ws := cd_mem 711 (by decide +kernel) rfl
theorem lk_X_25 : Cond.methodLink "CatDoors$Text" 25 ⟨"CatDoors$Text", "leaf", "(IIII)I"⟩ ∈ cd_ws := cd_mem 312 (by decide +kernel) rfl
theorem lk_X_29 : Cond.methodLink "CatDoors$Text" 29 ⟨"CatDoors$Text", "joined", "(III)I"⟩ ∈ cd_ws := cd_mem 315 (by decide +kernel) rfl
theorem f_X_9 : cd_F "CatDoors$Text" 9 5 0 .int true := ⟨_, _, _, _, cd_ci5, by decide, cd_mem 712 (by decide +kernel) rfl, rfl, rfl, rfl⟩
theorem f_X_15 : cd_F "CatDoors$Text" 15 5 1 .int true := ⟨_, _, _, _, cd_ci5, by decide, cd_mem 715 (by decide +kernel) rfl, rfl, rfl, rfl⟩
theorem f_X_18 : cd_F "CatDoors$Text" 18 5 2 (.array .int) true := ⟨_, _, _, _, cd_ci5, by decide, cd_mem 717 (by decide +kernel) rfl, rfl, rfl, rfl⟩
theorem f_X_22 : cd_F "CatDoors$Text" 22 5 3 (.array .int) true := ⟨_, _, _, _, cd_ci5, by decide, cd_mem 718 (by decide +kernel) rfl, rfl, rfl, rfl⟩
abbrev b_C_init : ByteArray := prog_1_method_1_code
abbrev m_C_init : cd_MT := (⟨"CatDoors", "<init>", "()V"⟩, b_C_init, 2, none)
set_option maxRecDepth 100000 in
theorem mc_C_init : Cond.code m_C_init.1 m_C_init.2.1 m_C_init.2.2.1 m_C_init.2.2.2 ∈ cd_ws := cd_mem 74 rfl rfl
theorem mf_C_init : cd_MI m_C_init 0 := ⟨⟨mc_C_init, cd_mem 55 (by decide +kernel) rfl, by decide +kernel, by decide⟩, rfl, cd_mem 73 (by decide +kernel) rfl, rfl⟩
abbrev b_C_asking : ByteArray := prog_1_method_2_code
abbrev m_C_asking : cd_MT := (⟨"CatDoors", "asking", "(IIII)I"⟩, b_C_asking, 5, some .int)
set_option maxRecDepth 100000 in
theorem mc_C_asking : Cond.code m_C_asking.1 m_C_asking.2.1 m_C_asking.2.2.1 m_C_asking.2.2.2 ∈ cd_ws := cd_mem 278 rfl rfl
theorem mf_C_asking : cd_MV m_C_asking 4 := ⟨⟨mc_C_asking, cd_mem 55 (by decide +kernel) rfl, by decide +kernel, by decide⟩, cd_mem 276 (by decide +kernel) rfl, cd_mem 277 (by decide +kernel) rfl⟩
abbrev b_C_told : ByteArray := prog_1_method_3_code
abbrev m_C_told : cd_MT := (⟨"CatDoors", "told", "(II)I"⟩, b_C_told, 4, some .int)
set_option maxRecDepth 100000 in
theorem mc_C_told : Cond.code m_C_told.1 m_C_told.2.1 m_C_told.2.2.1 m_C_told.2.2.2 ∈ cd_ws := cd_mem 291 rfl rfl
theorem mf_C_told : cd_MV m_C_told 2 := ⟨⟨mc_C_told, cd_mem 55 (by decide +kernel) rfl, by decide +kernel, by decide⟩, cd_mem 289 (by decide +kernel) rfl, cd_mem 290 (by decide +kernel) rfl⟩
abbrev b_C_as : ByteArray := prog_1_method_4_code
abbrev m_C_as : cd_MT := (⟨"CatDoors", "as", "(II)I"⟩, b_C_as, 4, some .int)
set_option maxRecDepth 100000 in
theorem mc_C_as : Cond.code m_C_as.1 m_C_as.2.1 m_C_as.2.2.1 m_C_as.2.2.2 ∈ cd_ws := cd_mem 345 rfl rfl
theorem mf_C_as : cd_MV m_C_as 2 := ⟨⟨mc_C_as, cd_mem 55 (by decide +kernel) rfl, by decide +kernel, by decide⟩, cd_mem 343 (by decide +kernel) rfl, cd_mem 344 (by decide +kernel) rfl⟩
abbrev b_C_turns : ByteArray := prog_1_method_5_code
abbrev m_C_turns : cd_MT := (⟨"CatDoors", "turns", "(II)I"⟩, b_C_turns, 5, some .int)
set_option maxRecDepth 100000 in
theorem mc_C_turns : Cond.code m_C_turns.1 m_C_turns.2.1 m_C_turns.2.2.1 m_C_turns.2.2.2 ∈ cd_ws := cd_mem 356 rfl rfl
theorem mf_C_turns : cd_MV m_C_turns 2 := ⟨⟨mc_C_turns, cd_mem 55 (by decide +kernel) rfl, by decide +kernel, by decide⟩, cd_mem 354 (by decide +kernel) rfl, cd_mem 355 (by decide +kernel) rfl⟩
abbrev b_C_set : ByteArray := prog_1_method_6_code
abbrev m_C_set : cd_MT := (⟨"CatDoors", "set", "(III)I"⟩, b_C_set, 6, some .int)
set_option maxRecDepth 100000 in
theorem mc_C_set : Cond.code m_C_set.1 m_C_set.2.1 m_C_set.2.2.1 m_C_set.2.2.2 ∈ cd_ws := cd_mem 360 rfl rfl
theorem mf_C_set : cd_MV m_C_set 3 := ⟨⟨mc_C_set, cd_mem 55 (by decide +kernel) rfl, by decide +kernel, by decide⟩, cd_mem 358 (by decide +kernel) rfl, cd_mem 359 (by decide +kernel) rfl⟩
abbrev b_C_rule : ByteArray := prog_1_method_7_code
abbrev m_C_rule : cd_MT := (⟨"CatDoors", "rule", "(II)I"⟩, b_C_rule, 4, some .int)
set_option maxRecDepth 100000 in
theorem mc_C_rule : Cond.code m_C_rule.1 m_C_rule.2.1 m_C_rule.2.2.1 m_C_rule.2.2.2 ∈ cd_ws := cd_mem 364 rfl rfl
theorem mf_C_rule : cd_MV m_C_rule 2 := ⟨⟨mc_C_rule, cd_mem 55 (by decide +kernel) rfl, by decide +kernel, by decide⟩, cd_mem 362 (by decide +kernel) rfl, cd_mem 363 (by decide +kernel) rfl⟩
abbrev b_C_opens : ByteArray := prog_1_method_8_code
abbrev m_C_opens : cd_MT := (⟨"CatDoors", "opens", "(I)I"⟩, b_C_opens, 2, some .int)
set_option maxRecDepth 100000 in
theorem mc_C_opens : Cond.code m_C_opens.1 m_C_opens.2.1 m_C_opens.2.2.1 m_C_opens.2.2.2 ∈ cd_ws := cd_mem 370 rfl rfl
theorem mf_C_opens : cd_MV m_C_opens 1 := ⟨⟨mc_C_opens, cd_mem 55 (by decide +kernel) rfl, by decide +kernel, by decide⟩, cd_mem 368 (by decide +kernel) rfl, cd_mem 369 (by decide +kernel) rfl⟩
abbrev b_C_deal : ByteArray := prog_1_method_9_code
abbrev m_C_deal : cd_MT := (⟨"CatDoors", "deal", "(I)I"⟩, b_C_deal, 8, some .int)
set_option maxRecDepth 100000 in
theorem mc_C_deal : Cond.code m_C_deal.1 m_C_deal.2.1 m_C_deal.2.2.1 m_C_deal.2.2.2 ∈ cd_ws := cd_mem 398 rfl rfl
theorem mf_C_deal : cd_MV m_C_deal 1 := ⟨⟨mc_C_deal, cd_mem 55 (by decide +kernel) rfl, by decide +kernel, by decide⟩, cd_mem 396 (by decide +kernel) rfl, cd_mem 397 (by decide +kernel) rfl⟩
abbrev b_C_seed : ByteArray := prog_1_method_10_code
abbrev m_C_seed : cd_MT := (⟨"CatDoors", "seed", "(I)I"⟩, b_C_seed, 3, some .int)
set_option maxRecDepth 100000 in
theorem mc_C_seed : Cond.code m_C_seed.1 m_C_seed.2.1 m_C_seed.2.2.1 m_C_seed.2.2.2 ∈ cd_ws := cd_mem 403 rfl rfl
theorem mf_C_seed : cd_MV m_C_seed 1 := ⟨⟨mc_C_seed, cd_mem 55 (by decide +kernel) rfl, by decide +kernel, by decide⟩, cd_mem 401 (by decide +kernel) rfl, cd_mem 402 (by decide +kernel) rfl⟩
abbrev b_C_hours : ByteArray := prog_1_method_11_code
abbrev m_C_hours : cd_MT := (⟨"CatDoors", "hours", "(I)I"⟩, b_C_hours, 3, some .int)
set_option maxRecDepth 100000 in
theorem mc_C_hours : Cond.code m_C_hours.1 m_C_hours.2.1 m_C_hours.2.2.1 m_C_hours.2.2.2 ∈ cd_ws := cd_mem 407 rfl rfl
theorem mf_C_hours : cd_MV m_C_hours 1 := ⟨⟨mc_C_hours, cd_mem 55 (by decide +kernel) rfl, by decide +kernel, by decide⟩, cd_mem 405 (by decide +kernel) rfl, cd_mem 406 (by decide +kernel) rfl⟩
abbrev b_C_house : ByteArray := prog_1_method_12_code
abbrev m_C_house : cd_MT := (⟨"CatDoors", "house", "(I)I"⟩, b_C_house, 2, some .int)
set_option maxRecDepth 100000 in
theorem mc_C_house : Cond.code m_C_house.1 m_C_house.2.1 m_C_house.2.2.1 m_C_house.2.2.2 ∈ cd_ws := cd_mem 435 rfl rfl
theorem mf_C_house : cd_MV m_C_house 1 := ⟨⟨mc_C_house, cd_mem 55 (by decide +kernel) rfl, by decide +kernel, by decide⟩, cd_mem 433 (by decide +kernel) rfl, cd_mem 434 (by decide +kernel) rfl⟩
abbrev b_C_behind : ByteArray := prog_1_method_13_code
abbrev m_C_behind : cd_MT := (⟨"CatDoors", "behind", "(II)I"⟩, b_C_behind, 3, some .int)
set_option maxRecDepth 100000 in
theorem mc_C_behind : Cond.code m_C_behind.1 m_C_behind.2.1 m_C_behind.2.2.1 m_C_behind.2.2.2 ∈ cd_ws := cd_mem 447 rfl rfl
theorem mf_C_behind : cd_MV m_C_behind 2 := ⟨⟨mc_C_behind, cd_mem 55 (by decide +kernel) rfl, by decide +kernel, by decide⟩, cd_mem 445 (by decide +kernel) rfl, cd_mem 446 (by decide +kernel) rfl⟩
abbrev b_C_quiet : ByteArray := prog_1_method_14_code
abbrev m_C_quiet : cd_MT := (⟨"CatDoors", "quiet", "()I"⟩, b_C_quiet, 2, some .int)
set_option maxRecDepth 100000 in
theorem mc_C_quiet : Cond.code m_C_quiet.1 m_C_quiet.2.1 m_C_quiet.2.2.1 m_C_quiet.2.2.2 ∈ cd_ws := cd_mem 462 rfl rfl
theorem mf_C_quiet : cd_MV m_C_quiet 0 := ⟨⟨mc_C_quiet, cd_mem 55 (by decide +kernel) rfl, by decide +kernel, by decide⟩, cd_mem 460 (by decide +kernel) rfl, cd_mem 461 (by decide +kernel) rfl⟩
abbrev b_C_firm : ByteArray := prog_1_method_15_code
abbrev m_C_firm : cd_MT := (⟨"CatDoors", "firm", "(II)I"⟩, b_C_firm, 7, some .int)
set_option maxRecDepth 100000 in
theorem mc_C_firm : Cond.code m_C_firm.1 m_C_firm.2.1 m_C_firm.2.2.1 m_C_firm.2.2.2 ∈ cd_ws := cd_mem 467 rfl rfl
theorem mf_C_firm : cd_MV m_C_firm 2 := ⟨⟨mc_C_firm, cd_mem 55 (by decide +kernel) rfl, by decide +kernel, by decide⟩, cd_mem 465 (by decide +kernel) rfl, cd_mem 466 (by decide +kernel) rfl⟩
abbrev b_C_givenIn : ByteArray := prog_1_method_16_code
abbrev m_C_givenIn : cd_MT := (⟨"CatDoors", "givenIn", "(II)I"⟩, b_C_givenIn, 4, some .int)
set_option maxRecDepth 100000 in
theorem mc_C_givenIn : Cond.code m_C_givenIn.1 m_C_givenIn.2.1 m_C_givenIn.2.2.1 m_C_givenIn.2.2.2 ∈ cd_ws := cd_mem 471 rfl rfl
theorem mf_C_givenIn : cd_MV m_C_givenIn 2 := ⟨⟨mc_C_givenIn, cd_mem 55 (by decide +kernel) rfl, by decide +kernel, by decide⟩, cd_mem 469 (by decide +kernel) rfl, cd_mem 470 (by decide +kernel) rfl⟩
abbrev b_C_heard : ByteArray := prog_1_method_17_code
abbrev m_C_heard : cd_MT := (⟨"CatDoors", "heard", "(II)I"⟩, b_C_heard, 7, some .int)
set_option maxRecDepth 100000 in
theorem mc_C_heard : Cond.code m_C_heard.1 m_C_heard.2.1 m_C_heard.2.2.1 m_C_heard.2.2.2 ∈ cd_ws := cd_mem 476 rfl rfl
theorem mf_C_heard : cd_MV m_C_heard 2 := ⟨⟨mc_C_heard, cd_mem 55 (by decide +kernel) rfl, by decide +kernel, by decide⟩, cd_mem 474 (by decide +kernel) rfl, cd_mem 475 (by decide +kernel) rfl⟩
abbrev b_C_lamp : ByteArray := prog_1_method_18_code
abbrev m_C_lamp : cd_MT := (⟨"CatDoors", "lamp", "(I)I"⟩, b_C_lamp, 4, some .int)
set_option maxRecDepth 100000 in
theorem mc_C_lamp : Cond.code m_C_lamp.1 m_C_lamp.2.1 m_C_lamp.2.2.1 m_C_lamp.2.2.2 ∈ cd_ws := cd_mem 480 rfl rfl
theorem mf_C_lamp : cd_MV m_C_lamp 1 := ⟨⟨mc_C_lamp, cd_mem 55 (by decide +kernel) rfl, by decide +kernel, by decide⟩, cd_mem 478 (by decide +kernel) rfl, cd_mem 479 (by decide +kernel) rfl⟩
abbrev b_C_saved : ByteArray := prog_1_method_19_code
abbrev m_C_saved : cd_MT := (⟨"CatDoors", "saved", "(I)I"⟩, b_C_saved, 2, some .int)
set_option maxRecDepth 100000 in
theorem mc_C_saved : Cond.code m_C_saved.1 m_C_saved.2.1 m_C_saved.2.2.1 m_C_saved.2.2.2 ∈ cd_ws := cd_mem 484 rfl rfl
theorem mf_C_saved : cd_MV m_C_saved 1 := ⟨⟨mc_C_saved, cd_mem 55 (by decide +kernel) rfl, by decide +kernel, by decide⟩, cd_mem 482 (by decide +kernel) rfl, cd_mem 483 (by decide +kernel) rfl⟩
abbrev b_C_risingsWithFlap : ByteArray := prog_1_method_20_code
abbrev m_C_risingsWithFlap : cd_MT := (⟨"CatDoors", "risingsWithFlap", "(II)I"⟩, b_C_risingsWithFlap, 3, some .int)
set_option maxRecDepth 100000 in
theorem mc_C_risingsWithFlap : Cond.code m_C_risingsWithFlap.1 m_C_risingsWithFlap.2.1 m_C_risingsWithFlap.2.2.1 m_C_risingsWithFlap.2.2.2 ∈ cd_ws := cd_mem 488 rfl rfl
theorem mf_C_risingsWithFlap : cd_MV m_C_risingsWithFlap 2 := ⟨⟨mc_C_risingsWithFlap, cd_mem 55 (by decide +kernel) rfl, by decide +kernel, by decide⟩, cd_mem 487 (by decide +kernel) rfl, cd_mem 1 (by decide +kernel) rfl⟩
abbrev b_C_taught : ByteArray := prog_1_method_21_code
abbrev m_C_taught : cd_MT := (⟨"CatDoors", "taught", "(II)I"⟩, b_C_taught, 5, some .int)
set_option maxRecDepth 100000 in
theorem mc_C_taught : Cond.code m_C_taught.1 m_C_taught.2.1 m_C_taught.2.2.1 m_C_taught.2.2.2 ∈ cd_ws := cd_mem 492 rfl rfl
theorem mf_C_taught : cd_MV m_C_taught 2 := ⟨⟨mc_C_taught, cd_mem 55 (by decide +kernel) rfl, by decide +kernel, by decide⟩, cd_mem 490 (by decide +kernel) rfl, cd_mem 491 (by decide +kernel) rfl⟩
abbrev b_C_sumDifferences : ByteArray := prog_1_method_22_code
abbrev m_C_sumDifferences : cd_MT := (⟨"CatDoors", "sumDifferences", "(LCatDoors$Sheet;)V"⟩, b_C_sumDifferences, 3, none)
set_option maxRecDepth 100000 in
theorem mc_C_sumDifferences : Cond.code m_C_sumDifferences.1 m_C_sumDifferences.2.1 m_C_sumDifferences.2.2.1 m_C_sumDifferences.2.2.2 ∈ cd_ws := cd_mem 501 rfl rfl
theorem mf_C_sumDifferences : cd_MV m_C_sumDifferences 1 := ⟨⟨mc_C_sumDifferences, cd_mem 55 (by decide +kernel) rfl, by decide +kernel, by decide⟩, cd_mem 500 (by decide +kernel) rfl, cd_mem 2 (by decide +kernel) rfl⟩
abbrev b_C_addDifferences : ByteArray := prog_1_method_23_code
abbrev m_C_addDifferences : cd_MT := (⟨"CatDoors", "addDifferences", "(I)V"⟩, b_C_addDifferences, 3, none)
set_option maxRecDepth 100000 in
theorem mc_C_addDifferences : Cond.code m_C_addDifferences.1 m_C_addDifferences.2.1 m_C_addDifferences.2.2.1 m_C_addDifferences.2.2.2 ∈ cd_ws := cd_mem 514 rfl rfl
theorem mf_C_addDifferences : cd_MV m_C_addDifferences 1 := ⟨⟨mc_C_addDifferences, cd_mem 55 (by decide +kernel) rfl, by decide +kernel, by decide⟩, cd_mem 513 (by decide +kernel) rfl, cd_mem 3 (by decide +kernel) rfl⟩
abbrev b_C_fee : ByteArray := prog_1_method_24_code
abbrev m_C_fee : cd_MT := (⟨"CatDoors", "fee", "()I"⟩, b_C_fee, 2, some .int)
set_option maxRecDepth 100000 in
theorem mc_C_fee : Cond.code m_C_fee.1 m_C_fee.2.1 m_C_fee.2.2.1 m_C_fee.2.2.2 ∈ cd_ws := cd_mem 521 rfl rfl
theorem mf_C_fee : cd_MV m_C_fee 0 := ⟨⟨mc_C_fee, cd_mem 55 (by decide +kernel) rfl, by decide +kernel, by decide⟩, cd_mem 519 (by decide +kernel) rfl, cd_mem 520 (by decide +kernel) rfl⟩
abbrev b_C_fine : ByteArray := prog_1_method_25_code
abbrev m_C_fine : cd_MT := (⟨"CatDoors", "fine", "(I)I"⟩, b_C_fine, 4, some .int)
set_option maxRecDepth 100000 in
theorem mc_C_fine : Cond.code m_C_fine.1 m_C_fine.2.1 m_C_fine.2.2.1 m_C_fine.2.2.2 ∈ cd_ws := cd_mem 527 rfl rfl
theorem mf_C_fine : cd_MV m_C_fine 1 := ⟨⟨mc_C_fine, cd_mem 55 (by decide +kernel) rfl, by decide +kernel, by decide⟩, cd_mem 525 (by decide +kernel) rfl, cd_mem 526 (by decide +kernel) rfl⟩
abbrev b_C_feed : ByteArray := prog_1_method_26_code
abbrev m_C_feed : cd_MT := (⟨"CatDoors", "feed", "(III)I"⟩, b_C_feed, 4, some .int)
set_option maxRecDepth 100000 in
theorem mc_C_feed : Cond.code m_C_feed.1 m_C_feed.2.1 m_C_feed.2.2.1 m_C_feed.2.2.2 ∈ cd_ws := cd_mem 531 rfl rfl
theorem mf_C_feed : cd_MV m_C_feed 3 := ⟨⟨mc_C_feed, cd_mem 55 (by decide +kernel) rfl, by decide +kernel, by decide⟩, cd_mem 529 (by decide +kernel) rfl, cd_mem 530 (by decide +kernel) rfl⟩
abbrev b_C_trim : ByteArray := prog_1_method_27_code
abbrev m_C_trim : cd_MT := (⟨"CatDoors", "trim", "(I)I"⟩, b_C_trim, 2, some .int)
set_option maxRecDepth 100000 in
theorem mc_C_trim : Cond.code m_C_trim.1 m_C_trim.2.1 m_C_trim.2.2.1 m_C_trim.2.2.2 ∈ cd_ws := cd_mem 539 rfl rfl
theorem mf_C_trim : cd_MV m_C_trim 1 := ⟨⟨mc_C_trim, cd_mem 55 (by decide +kernel) rfl, by decide +kernel, by decide⟩, cd_mem 537 (by decide +kernel) rfl, cd_mem 538 (by decide +kernel) rfl⟩
abbrev b_C_text : ByteArray := prog_1_method_28_code
abbrev m_C_text : cd_MT := (⟨"CatDoors", "text", "()I"⟩, b_C_text, 2, some .int)
set_option maxRecDepth 100000 in
theorem mc_C_text : Cond.code m_C_text.1 m_C_text.2.1 m_C_text.2.2.1 m_C_text.2.2.2 ∈ cd_ws := cd_mem 543 rfl rfl
theorem mf_C_text : cd_MV m_C_text 0 := ⟨⟨mc_C_text, cd_mem 55 (by decide +kernel) rfl, by decide +kernel, by decide⟩, cd_mem 541 (by decide +kernel) rfl, cd_mem 542 (by decide +kernel) rfl⟩
abbrev b_C_textTold : ByteArray := prog_1_method_29_code
abbrev m_C_textTold : cd_MT := (⟨"CatDoors", "textTold", "(II)I"⟩, b_C_textTold, 4, some .int)
set_option maxRecDepth 100000 in
theorem mc_C_textTold : Cond.code m_C_textTold.1 m_C_textTold.2.1 m_C_textTold.2.2.1 m_C_textTold.2.2.2 ∈ cd_ws := cd_mem 735 rfl rfl
theorem mf_C_textTold : cd_MV m_C_textTold 2 := ⟨⟨mc_C_textTold, cd_mem 55 (by decide +kernel) rfl, by decide +kernel, by decide⟩, cd_mem 733 (by decide +kernel) rfl, cd_mem 734 (by decide +kernel) rfl⟩
abbrev b_C_why : ByteArray := prog_1_method_30_code
abbrev m_C_why : cd_MT := (⟨"CatDoors", "why", "(I)I"⟩, b_C_why, 2, some .int)
set_option maxRecDepth 100000 in
theorem mc_C_why : Cond.code m_C_why.1 m_C_why.2.1 m_C_why.2.2.1 m_C_why.2.2.2 ∈ cd_ws := cd_mem 739 rfl rfl
theorem mf_C_why : cd_MV m_C_why 1 := ⟨⟨mc_C_why, cd_mem 55 (by decide +kernel) rfl, by decide +kernel, by decide⟩, cd_mem 737 (by decide +kernel) rfl, cd_mem 738 (by decide +kernel) rfl⟩
abbrev b_C_sheet : ByteArray := prog_1_method_31_code
abbrev m_C_sheet : cd_MT := (⟨"CatDoors", "sheet", "(III)I"⟩, b_C_sheet, 4, some .int)
set_option maxRecDepth 100000 in
theorem mc_C_sheet : Cond.code m_C_sheet.1 m_C_sheet.2.1 m_C_sheet.2.2.1 m_C_sheet.2.2.2 ∈ cd_ws := cd_mem 743 rfl rfl
theorem mf_C_sheet : cd_MV m_C_sheet 3 := ⟨⟨mc_C_sheet, cd_mem 55 (by decide +kernel) rfl, by decide +kernel, by decide⟩, cd_mem 741 (by decide +kernel) rfl, cd_mem 742 (by decide +kernel) rfl⟩
abbrev b_C_mark : ByteArray := prog_1_method_32_code
abbrev m_C_mark : cd_MT := (⟨"CatDoors", "mark", "(III)I"⟩, b_C_mark, 5, some .int)
set_option maxRecDepth 100000 in
theorem mc_C_mark : Cond.code m_C_mark.1 m_C_mark.2.1 m_C_mark.2.2.1 m_C_mark.2.2.2 ∈ cd_ws := cd_mem 752 rfl rfl
theorem mf_C_mark : cd_MV m_C_mark 3 := ⟨⟨mc_C_mark, cd_mem 55 (by decide +kernel) rfl, by decide +kernel, by decide⟩, cd_mem 750 (by decide +kernel) rfl, cd_mem 751 (by decide +kernel) rfl⟩
abbrev b_C_pour : ByteArray := prog_1_method_33_code
abbrev m_C_pour : cd_MT := (⟨"CatDoors", "pour", "(I)I"⟩, b_C_pour, 7, some .int)
set_option maxRecDepth 100000 in
theorem mc_C_pour : Cond.code m_C_pour.1 m_C_pour.2.1 m_C_pour.2.2.1 m_C_pour.2.2.2 ∈ cd_ws := cd_mem 760 rfl rfl
theorem mf_C_pour : cd_MV m_C_pour 1 := ⟨⟨mc_C_pour, cd_mem 55 (by decide +kernel) rfl, by decide +kernel, by decide⟩, cd_mem 758 (by decide +kernel) rfl, cd_mem 759 (by decide +kernel) rfl⟩
abbrev b_C_reads : ByteArray := prog_1_method_34_code
abbrev m_C_reads : cd_MT := (⟨"CatDoors", "reads", "(I)I"⟩, b_C_reads, 5, some .int)
set_option maxRecDepth 100000 in
theorem mc_C_reads : Cond.code m_C_reads.1 m_C_reads.2.1 m_C_reads.2.2.1 m_C_reads.2.2.2 ∈ cd_ws := cd_mem 765 rfl rfl
theorem mf_C_reads : cd_MV m_C_reads 1 := ⟨⟨mc_C_reads, cd_mem 55 (by decide +kernel) rfl, by decide +kernel, by decide⟩, cd_mem 763 (by decide +kernel) rfl, cd_mem 764 (by decide +kernel) rfl⟩
abbrev b_C_copy : ByteArray := prog_1_method_35_code
abbrev m_C_copy : cd_MT := (⟨"CatDoors", "copy", "(IIIII)I"⟩, b_C_copy, 8, some .int)
set_option maxRecDepth 100000 in
theorem mc_C_copy : Cond.code m_C_copy.1 m_C_copy.2.1 m_C_copy.2.2.1 m_C_copy.2.2.2 ∈ cd_ws := cd_mem 769 rfl rfl
theorem mf_C_copy : cd_MV m_C_copy 5 := ⟨⟨mc_C_copy, cd_mem 55 (by decide +kernel) rfl, by decide +kernel, by decide⟩, cd_mem 767 (by decide +kernel) rfl, cd_mem 768 (by decide +kernel) rfl⟩
abbrev b_C_lay : ByteArray := prog_1_method_36_code
abbrev m_C_lay : cd_MT := (⟨"CatDoors", "lay", "(III)I"⟩, b_C_lay, 6, some .int)
set_option maxRecDepth 100000 in
theorem mc_C_lay : Cond.code m_C_lay.1 m_C_lay.2.1 m_C_lay.2.2.1 m_C_lay.2.2.2 ∈ cd_ws := cd_mem 778 rfl rfl
theorem mf_C_lay : cd_MV m_C_lay 3 := ⟨⟨mc_C_lay, cd_mem 55 (by decide +kernel) rfl, by decide +kernel, by decide⟩, cd_mem 776 (by decide +kernel) rfl, cd_mem 777 (by decide +kernel) rfl⟩
abbrev b_C_ask : ByteArray := prog_1_method_37_code
abbrev m_C_ask : cd_MT := (⟨"CatDoors", "ask", "(II)I"⟩, b_C_ask, 5, some .int)
set_option maxRecDepth 100000 in
theorem mc_C_ask : Cond.code m_C_ask.1 m_C_ask.2.1 m_C_ask.2.2.1 m_C_ask.2.2.2 ∈ cd_ws := cd_mem 788 rfl rfl
theorem mf_C_ask : cd_MV m_C_ask 2 := ⟨⟨mc_C_ask, cd_mem 55 (by decide +kernel) rfl, by decide +kernel, by decide⟩, cd_mem 786 (by decide +kernel) rfl, cd_mem 787 (by decide +kernel) rfl⟩
abbrev b_C_item : ByteArray := prog_1_method_38_code
abbrev m_C_item : cd_MT := (⟨"CatDoors", "item", "(II)I"⟩, b_C_item, 5, some .int)
set_option maxRecDepth 100000 in
theorem mc_C_item : Cond.code m_C_item.1 m_C_item.2.1 m_C_item.2.2.1 m_C_item.2.2.2 ∈ cd_ws := cd_mem 798 rfl rfl
theorem mf_C_item : cd_MV m_C_item 2 := ⟨⟨mc_C_item, cd_mem 55 (by decide +kernel) rfl, by decide +kernel, by decide⟩, cd_mem 796 (by decide +kernel) rfl, cd_mem 797 (by decide +kernel) rfl⟩
abbrev b_C_rest : ByteArray := prog_1_method_39_code
abbrev m_C_rest : cd_MT := (⟨"CatDoors", "rest", "(II)I"⟩, b_C_rest, 4, some .int)
set_option maxRecDepth 100000 in
theorem mc_C_rest : Cond.code m_C_rest.1 m_C_rest.2.1 m_C_rest.2.2.1 m_C_rest.2.2.2 ∈ cd_ws := cd_mem 802 rfl rfl
theorem mf_C_rest : cd_MV m_C_rest 2 := ⟨⟨mc_C_rest, cd_mem 55 (by decide +kernel) rfl, by decide +kernel, by decide⟩, cd_mem 800 (by decide +kernel) rfl, cd_mem 801 (by decide +kernel) rfl⟩
abbrev b_C_tell : ByteArray := prog_1_method_40_code
abbrev m_C_tell : cd_MT := (⟨"CatDoors", "tell", "(I)I"⟩, b_C_tell, 2, some .int)
set_option maxRecDepth 100000 in
theorem mc_C_tell : Cond.code m_C_tell.1 m_C_tell.2.1 m_C_tell.2.2.1 m_C_tell.2.2.2 ∈ cd_ws := cd_mem 807 rfl rfl
theorem mf_C_tell : cd_MV m_C_tell 1 := ⟨⟨mc_C_tell, cd_mem 55 (by decide +kernel) rfl, by decide +kernel, by decide⟩, cd_mem 805 (by decide +kernel) rfl, cd_mem 806 (by decide +kernel) rfl⟩
abbrev b_C_check : ByteArray := prog_1_method_41_code
abbrev m_C_check : cd_MT := (⟨"CatDoors", "check", "(I)I"⟩, b_C_check, 7, some .int)
set_option maxRecDepth 100000 in
theorem mc_C_check : Cond.code m_C_check.1 m_C_check.2.1 m_C_check.2.2.1 m_C_check.2.2.2 ∈ cd_ws := cd_mem 811 rfl rfl
theorem mf_C_check : cd_MV m_C_check 1 := ⟨⟨mc_C_check, cd_mem 55 (by decide +kernel) rfl, by decide +kernel, by decide⟩, cd_mem 809 (by decide +kernel) rfl, cd_mem 810 (by decide +kernel) rfl⟩
abbrev b_C_keep : ByteArray := prog_1_method_42_code
abbrev m_C_keep : cd_MT := (⟨"CatDoors", "keep", "()I"⟩, b_C_keep, 1, some .int)
set_option maxRecDepth 100000 in
theorem mc_C_keep : Cond.code m_C_keep.1 m_C_keep.2.1 m_C_keep.2.2.1 m_C_keep.2.2.2 ∈ cd_ws := cd_mem 815 rfl rfl
theorem mf_C_keep : cd_MV m_C_keep 0 := ⟨⟨mc_C_keep, cd_mem 55 (by decide +kernel) rfl, by decide +kernel, by decide⟩, cd_mem 813 (by decide +kernel) rfl, cd_mem 814 (by decide +kernel) rfl⟩
abbrev b_C_back : ByteArray := prog_1_method_43_code
abbrev m_C_back : cd_MT := (⟨"CatDoors", "back", "()I"⟩, b_C_back, 1, some .int)
set_option maxRecDepth 100000 in
theorem mc_C_back : Cond.code m_C_back.1 m_C_back.2.1 m_C_back.2.2.1 m_C_back.2.2.2 ∈ cd_ws := cd_mem 819 rfl rfl
theorem mf_C_back : cd_MV m_C_back 0 := ⟨⟨mc_C_back, cd_mem 55 (by decide +kernel) rfl, by decide +kernel, by decide⟩, cd_mem 817 (by decide +kernel) rfl, cd_mem 818 (by decide +kernel) rfl⟩
abbrev b_C_count : ByteArray := prog_1_method_44_code
abbrev m_C_count : cd_MT := (⟨"CatDoors", "count", "(I)I"⟩, b_C_count, 2, some .int)
set_option maxRecDepth 100000 in
theorem mc_C_count : Cond.code m_C_count.1 m_C_count.2.1 m_C_count.2.2.1 m_C_count.2.2.2 ∈ cd_ws := cd_mem 823 rfl rfl
theorem mf_C_count : cd_MV m_C_count 1 := ⟨⟨mc_C_count, cd_mem 55 (by decide +kernel) rfl, by decide +kernel, by decide⟩, cd_mem 821 (by decide +kernel) rfl, cd_mem 822 (by decide +kernel) rfl⟩
abbrev b_C_isAsking : ByteArray := prog_1_method_45_code
abbrev m_C_isAsking : cd_MT := (⟨"CatDoors", "isAsking", "(I)Z"⟩, b_C_isAsking, 2, some .boolean)
set_option maxRecDepth 100000 in
theorem mc_C_isAsking : Cond.code m_C_isAsking.1 m_C_isAsking.2.1 m_C_isAsking.2.2.1 m_C_isAsking.2.2.2 ∈ cd_ws := cd_mem 295 rfl rfl
theorem mf_C_isAsking : cd_MV m_C_isAsking 1 := ⟨⟨mc_C_isAsking, cd_mem 55 (by decide +kernel) rfl, by decide +kernel, by decide⟩, cd_mem 294 (by decide +kernel) rfl, cd_mem 0 (by decide +kernel) rfl⟩
abbrev b_C_isWithin : ByteArray := prog_1_method_46_code
abbrev m_C_isWithin : cd_MT := (⟨"CatDoors", "isWithin", "(II)Z"⟩, b_C_isWithin, 2, some .boolean)
set_option maxRecDepth 100000 in
theorem mc_C_isWithin : Cond.code m_C_isWithin.1 m_C_isWithin.2.1 m_C_isWithin.2.2.1 m_C_isWithin.2.2.2 ∈ cd_ws := cd_mem 281 rfl rfl
theorem mf_C_isWithin : cd_MS m_C_isWithin 2 := ⟨⟨mc_C_isWithin, cd_mem 55 (by decide +kernel) rfl, by decide +kernel, by decide⟩, cd_mem 280 (by decide +kernel) rfl⟩
abbrev b_C_heldWithin : ByteArray := prog_1_method_47_code
abbrev m_C_heldWithin : cd_MT := (⟨"CatDoors", "heldWithin", "(II)I"⟩, b_C_heldWithin, 2, some .int)
set_option maxRecDepth 100000 in
theorem mc_C_heldWithin : Cond.code m_C_heldWithin.1 m_C_heldWithin.2.1 m_C_heldWithin.2.2.1 m_C_heldWithin.2.2.2 ∈ cd_ws := cd_mem 320 rfl rfl
theorem mf_C_heldWithin : cd_MS m_C_heldWithin 2 := ⟨⟨mc_C_heldWithin, cd_mem 55 (by decide +kernel) rfl, by decide +kernel, by decide⟩, cd_mem 319 (by decide +kernel) rfl⟩
theorem lk_C_1 : Cond.methodLink "CatDoors" 1 ⟨"java/lang/Object", "<init>", "()V"⟩ ∈ cd_ws := cd_mem 75 (by decide +kernel) rfl
theorem lk_C_9 : Cond.methodLink "CatDoors" 9 ⟨"CatDoors$House", "<init>", "()V"⟩ ∈ cd_ws := cd_mem 80 (by decide +kernel) rfl
theorem lk_C_58 : Cond.methodLink "CatDoors" 58 ⟨"CatDoors", "isWithin", "(II)Z"⟩ ∈ cd_ws := cd_mem 279 (by decide +kernel) rfl
theorem lk_C_67 : Cond.methodLink "CatDoors" 67 ⟨"CatDoors$House", "adds", "(IIII)I"⟩ ∈ cd_ws := cd_mem 284 (by decide +kernel) rfl
theorem lk_C_71 : Cond.methodLink "CatDoors" 71 ⟨"CatDoors", "isAsking", "(I)Z"⟩ ∈ cd_ws := cd_mem 292 (by decide +kernel) rfl
theorem lk_C_96 : Cond.methodLink "CatDoors" 96 ⟨"CatDoors$Asking", "presses", "(LCatDoors$House;)I"⟩ ∈ cd_ws := cd_mem 296 (by decide +kernel) rfl
theorem lk_C_109 : Cond.methodLink "CatDoors" 109 ⟨"CatDoors$Asking", "meansIt", "(LCatDoors$House;)I"⟩ ∈ cd_ws := cd_mem 334 (by decide +kernel) rfl
theorem lk_C_112 : Cond.methodLink "CatDoors" 112 ⟨"CatDoors$Asking", "worth", "()I"⟩ ∈ cd_ws := cd_mem 338 (by decide +kernel) rfl
theorem lk_C_116 : Cond.methodLink "CatDoors" 116 ⟨"CatDoors$Asking", "isOf", "(I)Z"⟩ ∈ cd_ws := cd_mem 346 (by decide +kernel) rfl
theorem lk_C_126 : Cond.methodLink "CatDoors" 126 ⟨"CatDoors$House", "getsUp", "(LCatDoors$Asking;)Z"⟩ ∈ cd_ws := cd_mem 371 (by decide +kernel) rfl
theorem lk_C_130 : Cond.methodLink "CatDoors" 130 ⟨"java/lang/Math", "min", "(II)I"⟩ ∈ cd_ws := cd_mem 321 (by decide +kernel) rfl
theorem lk_C_136 : Cond.methodLink "CatDoors" 136 ⟨"CatDoors$House", "draw", "()I"⟩ ∈ cd_ws := cd_mem 399 (by decide +kernel) rfl
theorem lk_C_146 : Cond.methodLink "CatDoors" 146 ⟨"CatDoors$House", "passHours", "(I)V"⟩ ∈ cd_ws := cd_mem 408 (by decide +kernel) rfl
theorem lk_C_150 : Cond.methodLink "CatDoors" 150 ⟨"CatDoors$House", "habitSum", "()I"⟩ ∈ cd_ws := cd_mem 436 (by decide +kernel) rfl
theorem lk_C_153 : Cond.methodLink "CatDoors" 153 ⟨"CatDoors$House", "comingNext", "()I"⟩ ∈ cd_ws := cd_mem 440 (by decide +kernel) rfl
theorem lk_C_156 : Cond.methodLink "CatDoors" 156 ⟨"CatDoors$House", "takes", "(LCatDoors$House;)V"⟩ ∈ cd_ws := cd_mem 448 (by decide +kernel) rfl
theorem lk_C_161 : Cond.methodLink "CatDoors" 161 ⟨"CatDoors$Asking", "works", "()V"⟩ ∈ cd_ws := cd_mem 472 (by decide +kernel) rfl
theorem lk_C_164 : Cond.methodLink "CatDoors" 164 ⟨"CatDoors", "risingsWithFlap", "(II)I"⟩ ∈ cd_ws := cd_mem 485 (by decide +kernel) rfl
theorem lk_C_167 : Cond.methodLink "CatDoors" 167 ⟨"CatDoors$Sheet", "isMissing", "()Z"⟩ ∈ cd_ws := cd_mem 493 (by decide +kernel) rfl
theorem lk_C_172 : Cond.methodLink "CatDoors" 172 ⟨"CatDoors", "sumDifferences", "(LCatDoors$Sheet;)V"⟩ ∈ cd_ws := cd_mem 498 (by decide +kernel) rfl
theorem lk_C_179 : Cond.methodLink "CatDoors" 179 ⟨"CatDoors$Sheet", "isNumber", "(I)Z"⟩ ∈ cd_ws := cd_mem 502 (by decide +kernel) rfl
theorem lk_C_185 : Cond.methodLink "CatDoors" 185 ⟨"CatDoors", "addDifferences", "(I)V"⟩ ∈ cd_ws := cd_mem 511 (by decide +kernel) rfl
theorem lk_C_188 : Cond.methodLink "CatDoors" 188 ⟨"java/lang/Math", "abs", "(I)I"⟩ ∈ cd_ws := cd_mem 515 (by decide +kernel) rfl
theorem lk_C_192 : Cond.methodLink "CatDoors" 192 ⟨"CatDoors$House", "lawOf", "(I)LCatDoors$Text;"⟩ ∈ cd_ws := cd_mem 522 (by decide +kernel) rfl
theorem lk_C_196 : Cond.methodLink "CatDoors" 196 ⟨"CatDoors$Text", "gives", "(III)I"⟩ ∈ cd_ws := cd_mem 523 (by decide +kernel) rfl
theorem lk_C_205 : Cond.methodLink "CatDoors" 205 ⟨"CatDoors$Tape", "addsBytes", "(I)V"⟩ ∈ cd_ws := cd_mem 532 (by decide +kernel) rfl
theorem lk_C_208 : Cond.methodLink "CatDoors" 208 ⟨"CatDoors$Tape", "readsText", "()LCatDoors$Text;"⟩ ∈ cd_ws := cd_mem 544 (by decide +kernel) rfl
theorem lk_C_218 : Cond.methodLink "CatDoors" 218 ⟨"CatDoors$House", "addsText", "(LCatDoors$Text;)I"⟩ ∈ cd_ws := cd_mem 728 (by decide +kernel) rfl
theorem lk_C_235 : Cond.methodLink "CatDoors" 235 ⟨"CatDoors$Sheet", "becomes", "(II)V"⟩ ∈ cd_ws := cd_mem 744 (by decide +kernel) rfl
theorem lk_C_240 : Cond.methodLink "CatDoors" 240 ⟨"CatDoors$Sheet", "hasPlace", "(I)Z"⟩ ∈ cd_ws := cd_mem 753 (by decide +kernel) rfl
theorem lk_C_249 : Cond.methodLink "CatDoors" 249 ⟨"CatDoors", "heldWithin", "(II)I"⟩ ∈ cd_ws := cd_mem 761 (by decide +kernel) rfl
theorem lk_C_252 : Cond.methodLink "CatDoors" 252 ⟨"CatDoors$Sheet", "hasPlaces", "(II)Z"⟩ ∈ cd_ws := cd_mem 770 (by decide +kernel) rfl
theorem lk_C_255 : Cond.methodLink "CatDoors" 255 ⟨"java/lang/System", "arraycopy", "(Ljava/lang/Object;ILjava/lang/Object;II)V"⟩ ∈ cd_ws := cd_mem 774 (by decide +kernel) rfl
theorem lk_C_268 : Cond.methodLink "CatDoors" 268 ⟨"CatDoors$Asking", "takes", "(LCatDoors$Asking;)V"⟩ ∈ cd_ws := cd_mem 779 (by decide +kernel) rfl
theorem lk_C_275 : Cond.methodLink "CatDoors" 275 ⟨"CatDoors$Sheet", "takes", "(LCatDoors$Sheet;)V"⟩ ∈ cd_ws := cd_mem 780 (by decide +kernel) rfl
theorem lk_C_280 : Cond.methodLink "CatDoors" 280 ⟨"CatDoors$Slot", "refuses", "(I)I"⟩ ∈ cd_ws := cd_mem 789 (by decide +kernel) rfl
theorem lk_C_284 : Cond.methodLink "CatDoors" 284 ⟨"java/lang/Math", "max", "(II)I"⟩ ∈ cd_ws := cd_mem 324 (by decide +kernel) rfl
theorem f_C_10 : cd_F "CatDoors" 10 6 0 (.object "CatDoors$House") true := ⟨_, _, _, _, cd_ci6, by decide, cd_mem 244 (by decide +kernel) rfl, rfl, rfl, rfl⟩
theorem f_C_16 : cd_F "CatDoors" 16 6 1 (.object "CatDoors$House") true := ⟨_, _, _, _, cd_ci6, by decide, cd_mem 245 (by decide +kernel) rfl, rfl, rfl, rfl⟩
theorem f_C_19 : cd_F "CatDoors" 19 6 2 (.object "CatDoors$House") true := ⟨_, _, _, _, cd_ci6, by decide, cd_mem 246 (by decide +kernel) rfl, rfl, rfl, rfl⟩
theorem f_C_22 : cd_F "CatDoors" 22 6 3 .boolean false := ⟨_, _, _, _, cd_ci6, by decide, cd_mem 247 (by decide +kernel) rfl, rfl, rfl, rfl⟩
theorem f_C_29 : cd_F "CatDoors" 29 6 4 (.object "CatDoors$Tape") true := ⟨_, _, _, _, cd_ci6, by decide, cd_mem 248 (by decide +kernel) rfl, rfl, rfl, rfl⟩
theorem f_C_35 : cd_F "CatDoors" 35 6 5 (.array ((.object "CatDoors$Sheet"))) true := ⟨_, _, _, _, cd_ci6, by decide, cd_mem 249 (by decide +kernel) rfl, rfl, rfl, rfl⟩
theorem f_C_41 : cd_F "CatDoors" 41 6 6 (.array ((.object "CatDoors$Slot"))) true := ⟨_, _, _, _, cd_ci6, by decide, cd_mem 250 (by decide +kernel) rfl, rfl, rfl, rfl⟩
theorem f_C_45 : cd_F "CatDoors" 45 6 7 (.array .int) true := ⟨_, _, _, _, cd_ci6, by decide, cd_mem 251 (by decide +kernel) rfl, rfl, rfl, rfl⟩
theorem f_C_49 : cd_F "CatDoors" 49 6 8 .int false := ⟨_, _, _, _, cd_ci6, by decide, cd_mem 252 (by decide +kernel) rfl, rfl, rfl, rfl⟩
theorem f_C_53 : cd_F "CatDoors" 53 6 9 (.array .int) true := ⟨_, _, _, _, cd_ci6, by decide, cd_mem 253 (by decide +kernel) rfl, rfl, rfl, rfl⟩
theorem f_C_63 : cd_F "CatDoors" 63 1 3 .int false := ⟨_, _, _, _, cd_ci1, by decide, cd_mem 129 (by decide +kernel) rfl, rfl, rfl, rfl⟩
theorem f_C_75 : cd_F "CatDoors" 75 1 2 (.array ((.object "CatDoors$Asking"))) true := ⟨_, _, _, _, cd_ci1, by decide, cd_mem 127 (by decide +kernel) rfl, rfl, rfl, rfl⟩
theorem f_C_79 : cd_F "CatDoors" 79 0 0 .int false := ⟨_, _, _, _, cd_ci0, by decide, cd_mem 96 (by decide +kernel) rfl, rfl, rfl, rfl⟩
theorem f_C_84 : cd_F "CatDoors" 84 0 1 .int false := ⟨_, _, _, _, cd_ci0, by decide, cd_mem 99 (by decide +kernel) rfl, rfl, rfl, rfl⟩
theorem f_C_87 : cd_F "CatDoors" 87 0 2 .int false := ⟨_, _, _, _, cd_ci0, by decide, cd_mem 102 (by decide +kernel) rfl, rfl, rfl, rfl⟩
theorem f_C_90 : cd_F "CatDoors" 90 0 3 .int false := ⟨_, _, _, _, cd_ci0, by decide, cd_mem 105 (by decide +kernel) rfl, rfl, rfl, rfl⟩
theorem f_C_93 : cd_F "CatDoors" 93 0 4 .int false := ⟨_, _, _, _, cd_ci0, by decide, cd_mem 108 (by decide +kernel) rfl, rfl, rfl, rfl⟩
theorem f_C_123 : cd_F "CatDoors" 123 1 0 (.array .int) true := ⟨_, _, _, _, cd_ci1, by decide, cd_mem 123 (by decide +kernel) rfl, rfl, rfl, rfl⟩
theorem f_C_139 : cd_F "CatDoors" 139 1 5 .int false := ⟨_, _, _, _, cd_ci1, by decide, cd_mem 133 (by decide +kernel) rfl, rfl, rfl, rfl⟩
theorem f_C_142 : cd_F "CatDoors" 142 1 1 (.array .int) true := ⟨_, _, _, _, cd_ci1, by decide, cd_mem 125 (by decide +kernel) rfl, rfl, rfl, rfl⟩
theorem f_C_145 : cd_F "CatDoors" 145 1 4 .int false := ⟨_, _, _, _, cd_ci1, by decide, cd_mem 131 (by decide +kernel) rfl, rfl, rfl, rfl⟩
theorem f_C_176 : cd_F "CatDoors" 176 2 1 .int false := ⟨_, _, _, _, cd_ci2, by decide, cd_mem 208 (by decide +kernel) rfl, rfl, rfl, rfl⟩
theorem f_C_182 : cd_F "CatDoors" 182 2 2 (.array .int) true := ⟨_, _, _, _, cd_ci2, by decide, cd_mem 210 (by decide +kernel) rfl, rfl, rfl, rfl⟩
theorem f_C_202 : cd_F "CatDoors" 202 4 0 .int false := ⟨_, _, _, _, cd_ci4, by decide, cd_mem 166 (by decide +kernel) rfl, rfl, rfl, rfl⟩
theorem f_C_212 : cd_F "CatDoors" 212 4 1 .int false := ⟨_, _, _, _, cd_ci4, by decide, cd_mem 168 (by decide +kernel) rfl, rfl, rfl, rfl⟩
theorem f_C_215 : cd_F "CatDoors" 215 1 7 .int false := ⟨_, _, _, _, cd_ci1, by decide, cd_mem 137 (by decide +kernel) rfl, rfl, rfl, rfl⟩
theorem f_C_222 : cd_F "CatDoors" 222 1 6 (.array ((.object "CatDoors$Text"))) true := ⟨_, _, _, _, cd_ci1, by decide, cd_mem 135 (by decide +kernel) rfl, rfl, rfl, rfl⟩
theorem f_C_226 : cd_F "CatDoors" 226 5 0 .int true := ⟨_, _, _, _, cd_ci5, by decide, cd_mem 714 (by decide +kernel) rfl, rfl, rfl, rfl⟩
theorem f_C_229 : cd_F "CatDoors" 229 5 1 .int true := ⟨_, _, _, _, cd_ci5, by decide, cd_mem 716 (by decide +kernel) rfl, rfl, rfl, rfl⟩
theorem f_C_232 : cd_F "CatDoors" 232 1 8 (.array .int) true := ⟨_, _, _, _, cd_ci1, by decide, cd_mem 139 (by decide +kernel) rfl, rfl, rfl, rfl⟩
theorem f_C_244 : cd_F "CatDoors" 244 2 0 .int false := ⟨_, _, _, _, cd_ci2, by decide, cd_mem 206 (by decide +kernel) rfl, rfl, rfl, rfl⟩
theorem f_C_261 : cd_F "CatDoors" 261 3 0 .int false := ⟨_, _, _, _, cd_ci3, by decide, cd_mem 228 (by decide +kernel) rfl, rfl, rfl, rfl⟩
theorem f_C_264 : cd_F "CatDoors" 264 3 2 (.object "CatDoors$Asking") true := ⟨_, _, _, _, cd_ci3, by decide, cd_mem 232 (by decide +kernel) rfl, rfl, rfl, rfl⟩
theorem f_C_271 : cd_F "CatDoors" 271 3 3 (.object "CatDoors$Sheet") true := ⟨_, _, _, _, cd_ci3, by decide, cd_mem 234 (by decide +kernel) rfl, rfl, rfl, rfl⟩
theorem f_C_277 : cd_F "CatDoors" 277 3 1 .int false := ⟨_, _, _, _, cd_ci3, by decide, cd_mem 230 (by decide +kernel) rfl, rfl, rfl, rfl⟩
theorem k_C_62 : Cond.constant "CatDoors" 62 (-1000000001) ∈ cd_ws := cd_mem 282 (by decide +kernel) rfl
theorem k_C_66 : Cond.constant "CatDoors" 66 (-1000000003) ∈ cd_ws := cd_mem 283 (by decide +kernel) rfl
theorem k_C_119 : Cond.constant "CatDoors" 119 (-1000000012) ∈ cd_ws := cd_mem 352 (by decide +kernel) rfl
theorem k_C_160 : Cond.constant "CatDoors" 160 (-1000000005) ∈ cd_ws := cd_mem 463 (by decide +kernel) rfl
theorem k_C_171 : Cond.constant "CatDoors" 171 (-1000000011) ∈ cd_ws := cd_mem 497 (by decide +kernel) rfl
theorem k_C_239 : Cond.constant "CatDoors" 239 (-1000000014) ∈ cd_ws := cd_mem 748 (by decide +kernel) rfl
theorem k_C_243 : Cond.constant "CatDoors" 243 (-1000000013) ∈ cd_ws := cd_mem 754 (by decide +kernel) rfl
theorem k_C_247 : Cond.constant "CatDoors" 247 (-99999) ∈ cd_ws := cd_mem 755 (by decide +kernel) rfl
theorem k_C_248 : Cond.constant "CatDoors" 248 (99999) ∈ cd_ws := cd_mem 756 (by decide +kernel) rfl
theorem k_C_283 : Cond.constant "CatDoors" 283 (-1000000002) ∈ cd_ws := cd_mem 803 (by decide +kernel) rfl
set_option maxRecDepth 100000 in
theorem cd_mmax : Cond.code Lib.Math.max.name Lib.Math.max.code 2 (some .int) ∈ cd_ws ∧ Cond.static Lib.Math.max.name ∈ cd_ws ∧ Cond.initialized "java/lang/Math" ∈ cd_ws := ⟨cd_mem 326 rfl rfl, cd_mem 325 (by decide +kernel) rfl, cd_mem 63 (by decide +kernel) rfl⟩
set_option maxRecDepth 100000 in
theorem cd_mmin : Cond.code Lib.Math.min.name Lib.Math.min.code 2 (some .int) ∈ cd_ws ∧ Cond.static Lib.Math.min.name ∈ cd_ws ∧ Cond.initialized "java/lang/Math" ∈ cd_ws := ⟨cd_mem 323 rfl rfl, cd_mem 322 (by decide +kernel) rfl, cd_mem 63 (by decide +kernel) rfl⟩
set_option maxRecDepth 100000 in
theorem cd_mabs : Cond.code Lib.Math.abs.name Lib.Math.abs.code 1 (some .int) ∈ cd_ws ∧ Cond.static Lib.Math.abs.name ∈ cd_ws ∧ Cond.initialized "java/lang/Math" ∈ cd_ws := ⟨cd_mem 517 rfl rfl, cd_mem 516 (by decide +kernel) rfl, cd_mem 63 (by decide +kernel) rfl⟩
