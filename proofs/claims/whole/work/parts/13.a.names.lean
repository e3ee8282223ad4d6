abbrev b_L_block : ByteArray := method_3_code
def y_L_block : MethodName := ⟨"NameForgeLaw", "block", "(LNameForge;[J)I"⟩
abbrev b_L_put : ByteArray := method_4_code
def y_L_put : MethodName := ⟨"NameForgeLaw", "put", "(LNameForge;IIIII[J)I"⟩
abbrev b_L_go : ByteArray := method_5_code
def y_L_go : MethodName := ⟨"NameForgeLaw", "go", "(LNameForge;II)I"⟩
abbrev b_L_fork : ByteArray := method_6_code
def y_L_fork : MethodName := ⟨"NameForgeLaw", "fork", "(LNameForge;IIII)I"⟩
abbrev b_L_stop : ByteArray := method_7_code
def y_L_stop : MethodName := ⟨"NameForgeLaw", "stop", "(LNameForge;I)I"⟩
abbrev b_L_build : ByteArray := method_8_code
def y_L_build : MethodName := ⟨"NameForgeLaw", "build", "(LNameForge;[J)I"⟩
abbrev b_L_look : ByteArray := method_9_code
def y_L_look : MethodName := ⟨"NameForgeLaw", "look", "(LNameForge;II[J)I"⟩
abbrev b_L_phi : ByteArray := method_10_code
def y_L_phi : MethodName := ⟨"NameForgeLaw", "phi", "(LNameForge;III[J)I"⟩
abbrev b_L_uses : ByteArray := method_11_code
def y_L_uses : MethodName := ⟨"NameForgeLaw", "uses", "(LNameForge;III[J)I"⟩
abbrev b_L_name : ByteArray := method_12_code
def y_L_name : MethodName := ⟨"NameForgeLaw", "name", "(LNameForge;II[J)I"⟩
abbrev b_L_run : ByteArray := method_13_code
def y_L_run : MethodName := ⟨"NameForgeLaw", "run", "(LNameForge;ZI[J)I"⟩
abbrev b_L_heard : ByteArray := method_14_code
def y_L_heard : MethodName := ⟨"NameForgeLaw", "heard", "(LNameForge;I[J)I"⟩
theorem wd_0 : (.initialized "NameForgeLaw" : Cond) ∈ wT := wT_in (tb_0 _ (List.mem_of_getElem? (i := 0) rfl)) rfl
theorem wd_17 : (.classLink "NameForgeLaw" 8 "NameForge" : Cond) ∈ wT := wT_in (tb_0 _ (List.mem_of_getElem? (i := 17) rfl)) rfl
theorem wd_18 : (.instantiable "NameForge" 7 : Cond) ∈ wT := wT_in (tb_0 _ (List.mem_of_getElem? (i := 18) rfl)) rfl
theorem wd_19 : (.methodLink "NameForgeLaw" 60 ⟨"NameForge", "<init>", "()V"⟩ : Cond) ∈ wT := wT_in (tb_0 _ (List.mem_of_getElem? (i := 19) rfl)) rfl
theorem wd_20 : (.instanceMethod ⟨"NameForge", "<init>", "()V"⟩ : Cond) ∈ wT := wT_in (tb_0 _ (List.mem_of_getElem? (i := 20) rfl)) rfl
theorem wd_21 : (.code ⟨"NameForge", "<init>", "()V"⟩ prog_1_method_1_code 1 none : Cond) ∈ wT := wT_in (tb_0 _ (List.mem_of_getElem? (i := 21) rfl)) rfl
theorem wz_27 : (.methodLinkNest "NameForge" 11 ⟨"NameForge$Program", "<init>", "()V"⟩ "NameForge" : Cond) ∈ lw_tbl := tb_0 _ (List.mem_of_getElem? (i := 27) rfl)
theorem wz_32 : (.arrayOver (.array .int) : Cond) ∈ lw_tbl := tb_0 _ (List.mem_of_getElem? (i := 32) rfl)
theorem wd_361 : (.methodLink "NameForgeLaw" 89 ⟨"NameForge", "clear", "()V"⟩ : Cond) ∈ wT := wT_in (tb_1 _ (List.mem_of_getElem? (i := 121) rfl)) rfl
theorem wd_362 : (.instanceMethod ⟨"NameForge", "clear", "()V"⟩ : Cond) ∈ wT := wT_in (tb_1 _ (List.mem_of_getElem? (i := 122) rfl)) rfl
theorem wd_363 : (.selects "NameForge" ⟨"NameForge", "clear", "()V"⟩ ⟨"NameForge", "clear", "()V"⟩ : Cond) ∈ wT := wT_in (tb_1 _ (List.mem_of_getElem? (i := 123) rfl)) rfl
theorem wd_364 : (.code ⟨"NameForge", "clear", "()V"⟩ prog_1_method_7_code 1 none : Cond) ∈ wT := wT_in (tb_1 _ (List.mem_of_getElem? (i := 124) rfl)) rfl
theorem wd_365 : (.methodLink "NameForgeLaw" 110 ⟨"NameForge", "give", "(I)Z"⟩ : Cond) ∈ wT := wT_in (tb_1 _ (List.mem_of_getElem? (i := 125) rfl)) rfl
theorem wd_366 : (.instanceMethod ⟨"NameForge", "give", "(I)Z"⟩ : Cond) ∈ wT := wT_in (tb_1 _ (List.mem_of_getElem? (i := 126) rfl)) rfl
theorem wd_367 : (.selects "NameForge" ⟨"NameForge", "give", "(I)Z"⟩ ⟨"NameForge", "give", "(I)Z"⟩ : Cond) ∈ wT := wT_in (tb_1 _ (List.mem_of_getElem? (i := 127) rfl)) rfl
theorem wd_368 : (.code ⟨"NameForge", "give", "(I)Z"⟩ prog_1_method_13_code 2 (some .boolean) : Cond) ∈ wT := wT_in (tb_1 _ (List.mem_of_getElem? (i := 128) rfl)) rfl
theorem wd_373 : (.methodLink "NameForgeLaw" 115 ⟨"NameForge", "take", "()V"⟩ : Cond) ∈ wT := wT_in (tb_1 _ (List.mem_of_getElem? (i := 133) rfl)) rfl
theorem wd_374 : (.instanceMethod ⟨"NameForge", "take", "()V"⟩ : Cond) ∈ wT := wT_in (tb_1 _ (List.mem_of_getElem? (i := 134) rfl)) rfl
theorem wd_375 : (.selects "NameForge" ⟨"NameForge", "take", "()V"⟩ ⟨"NameForge", "take", "()V"⟩ : Cond) ∈ wT := wT_in (tb_1 _ (List.mem_of_getElem? (i := 135) rfl)) rfl
theorem wd_376 : (.code ⟨"NameForge", "take", "()V"⟩ prog_1_method_14_code 1 none : Cond) ∈ wT := wT_in (tb_1 _ (List.mem_of_getElem? (i := 136) rfl)) rfl
theorem wd_377 : (.methodLink "NameForgeLaw" 123 ⟨"NameForge", "told", "()I"⟩ : Cond) ∈ wT := wT_in (tb_1 _ (List.mem_of_getElem? (i := 137) rfl)) rfl
theorem wd_378 : (.instanceMethod ⟨"NameForge", "told", "()I"⟩ : Cond) ∈ wT := wT_in (tb_1 _ (List.mem_of_getElem? (i := 138) rfl)) rfl
theorem wd_379 : (.selects "NameForge" ⟨"NameForge", "told", "()I"⟩ ⟨"NameForge", "told", "()I"⟩ : Cond) ∈ wT := wT_in (tb_1 _ (List.mem_of_getElem? (i := 139) rfl)) rfl
theorem wd_380 : (.code ⟨"NameForge", "told", "()I"⟩ prog_1_method_16_code 1 (some .int) : Cond) ∈ wT := wT_in (tb_1 _ (List.mem_of_getElem? (i := 140) rfl)) rfl
theorem wd_381 : (.methodLink "NameForgeLaw" 131 ⟨"NameForge", "spent", "(I)I"⟩ : Cond) ∈ wT := wT_in (tb_1 _ (List.mem_of_getElem? (i := 141) rfl)) rfl
theorem wd_382 : (.instanceMethod ⟨"NameForge", "spent", "(I)I"⟩ : Cond) ∈ wT := wT_in (tb_1 _ (List.mem_of_getElem? (i := 142) rfl)) rfl
theorem wd_383 : (.selects "NameForge" ⟨"NameForge", "spent", "(I)I"⟩ ⟨"NameForge", "spent", "(I)I"⟩ : Cond) ∈ wT := wT_in (tb_1 _ (List.mem_of_getElem? (i := 143) rfl)) rfl
theorem wd_384 : (.code ⟨"NameForge", "spent", "(I)I"⟩ prog_1_method_18_code 2 (some .int) : Cond) ∈ wT := wT_in (tb_1 _ (List.mem_of_getElem? (i := 144) rfl)) rfl
theorem wd_385 : (.methodLink "NameForgeLaw" 64 ⟨"NameForgeLaw", "block", "(LNameForge;[J)I"⟩ : Cond) ∈ wT := wT_in (tb_1 _ (List.mem_of_getElem? (i := 145) rfl)) rfl
theorem wd_386 : (.static ⟨"NameForgeLaw", "block", "(LNameForge;[J)I"⟩ : Cond) ∈ wT := wT_in (tb_1 _ (List.mem_of_getElem? (i := 146) rfl)) rfl
theorem wd_387 : (.codeWith ⟨"NameForgeLaw", "block", "(LNameForge;[J)I"⟩ method_3_code 3 (some .int) [(0, 8, 11, 13)] : Cond) ∈ wT := wT_in (tb_1 _ (List.mem_of_getElem? (i := 147) rfl)) rfl
theorem wd_388 : (.classLink "NameForgeLaw" 13 "java/lang/IllegalStateException" : Cond) ∈ wT := wT_in (tb_1 _ (List.mem_of_getElem? (i := 148) rfl)) rfl
theorem wd_389 : (.methodLink "NameForgeLaw" 7 ⟨"NameForge", "block", "()I"⟩ : Cond) ∈ wT := wT_in (tb_1 _ (List.mem_of_getElem? (i := 149) rfl)) rfl
theorem wd_390 : (.instanceMethod ⟨"NameForge", "block", "()I"⟩ : Cond) ∈ wT := wT_in (tb_1 _ (List.mem_of_getElem? (i := 150) rfl)) rfl
theorem wd_391 : (.selects "NameForge" ⟨"NameForge", "block", "()I"⟩ ⟨"NameForge", "block", "()I"⟩ : Cond) ∈ wT := wT_in (tb_1 _ (List.mem_of_getElem? (i := 151) rfl)) rfl
theorem wd_392 : (.code ⟨"NameForge", "block", "()I"⟩ prog_1_method_2_code 1 (some .int) : Cond) ∈ wT := wT_in (tb_1 _ (List.mem_of_getElem? (i := 152) rfl)) rfl
theorem wz_395 : (.castable "java/lang/IllegalStateException" "java/lang/IllegalStateException" : Cond) ∈ lw_tbl := tb_1 _ (List.mem_of_getElem? (i := 155) rfl)
theorem wz_396 : (.declares ⟨"java/lang/RuntimeException", "<init>", "()V"⟩ : Cond) ∈ lw_tbl := tb_1 _ (List.mem_of_getElem? (i := 156) rfl)
theorem wz_397 : (.declares ⟨"java/lang/RuntimeException", "<init>", "(Ljava/lang/String;)V"⟩ : Cond) ∈ lw_tbl := tb_1 _ (List.mem_of_getElem? (i := 157) rfl)
theorem wz_398 : (.declares ⟨"java/lang/Exception", "<init>", "()V"⟩ : Cond) ∈ lw_tbl := tb_1 _ (List.mem_of_getElem? (i := 158) rfl)
theorem wz_399 : (.declares ⟨"java/lang/Exception", "<init>", "(Ljava/lang/String;)V"⟩ : Cond) ∈ lw_tbl := tb_1 _ (List.mem_of_getElem? (i := 159) rfl)
theorem wz_400 : (.declares ⟨"java/lang/Throwable", "<init>", "()V"⟩ : Cond) ∈ lw_tbl := tb_1 _ (List.mem_of_getElem? (i := 160) rfl)
theorem wz_401 : (.declares ⟨"java/lang/Throwable", "<init>", "(Ljava/lang/String;)V"⟩ : Cond) ∈ lw_tbl := tb_1 _ (List.mem_of_getElem? (i := 161) rfl)
theorem wz_420 : (.laysStatic "java/lang/Throwable" "UNASSIGNED_STACK" "[Ljava/lang/StackTraceElement;" : Cond) ∈ lw_tbl := tb_1 _ (List.mem_of_getElem? (i := 180) rfl)
theorem wz_422 : (.laysStatic "java/lang/Throwable" "SUPPRESSED_SENTINEL" "Ljava/util/List;" : Cond) ∈ lw_tbl := tb_1 _ (List.mem_of_getElem? (i := 182) rfl)
theorem wz_434 : (.stringRef "NameForge" 71 "there are 10 blocks" : Cond) ∈ lw_tbl := tb_1 _ (List.mem_of_getElem? (i := 194) rfl)
theorem wd_469 : (.methodLink "NameForgeLaw" 73 ⟨"NameForgeLaw", "put", "(LNameForge;IIIII[J)I"⟩ : Cond) ∈ wT := wT_in (tb_1 _ (List.mem_of_getElem? (i := 229) rfl)) rfl
theorem wd_470 : (.static ⟨"NameForgeLaw", "put", "(LNameForge;IIIII[J)I"⟩ : Cond) ∈ wT := wT_in (tb_1 _ (List.mem_of_getElem? (i := 230) rfl)) rfl
theorem wd_471 : (.codeWith ⟨"NameForgeLaw", "put", "(LNameForge;IIIII[J)I"⟩ method_4_code 8 (some .int) [(0, 16, 19, 19), (0, 16, 23, 13)] : Cond) ∈ wT := wT_in (tb_1 _ (List.mem_of_getElem? (i := 231) rfl)) rfl
theorem wd_472 : (.classLink "NameForgeLaw" 19 "java/lang/IllegalArgumentException" : Cond) ∈ wT := wT_in (tb_1 _ (List.mem_of_getElem? (i := 232) rfl)) rfl
theorem wd_473 : (.methodLink "NameForgeLaw" 15 ⟨"NameForge", "put", "(IIIII)I"⟩ : Cond) ∈ wT := wT_in (tb_1 _ (List.mem_of_getElem? (i := 233) rfl)) rfl
theorem wd_474 : (.instanceMethod ⟨"NameForge", "put", "(IIIII)I"⟩ : Cond) ∈ wT := wT_in (tb_1 _ (List.mem_of_getElem? (i := 234) rfl)) rfl
theorem wd_475 : (.selects "NameForge" ⟨"NameForge", "put", "(IIIII)I"⟩ ⟨"NameForge", "put", "(IIIII)I"⟩ : Cond) ∈ wT := wT_in (tb_1 _ (List.mem_of_getElem? (i := 235) rfl)) rfl
theorem wd_476 : (.code ⟨"NameForge", "put", "(IIIII)I"⟩ prog_1_method_3_code 6 (some .int) : Cond) ∈ wT := wT_in (tb_1 _ (List.mem_of_getElem? (i := 236) rfl)) rfl
theorem wz_498 : (.castable "java/lang/IllegalArgumentException" "java/lang/IllegalArgumentException" : Cond) ∈ lw_tbl := tb_2 _ (List.mem_of_getElem? (i := 18) rfl)
theorem wz_505 : (.stringRef "NameForge" 90 "no such block, kind or variable" : Cond) ∈ lw_tbl := tb_2 _ (List.mem_of_getElem? (i := 25) rfl)
theorem wz_512 : (.stringRef "NameForge" 97 "the block has 6 instructions" : Cond) ∈ lw_tbl := tb_2 _ (List.mem_of_getElem? (i := 32) rfl)
theorem wd_517 : (.methodLink "NameForgeLaw" 77 ⟨"NameForgeLaw", "go", "(LNameForge;II)I"⟩ : Cond) ∈ wT := wT_in (tb_2 _ (List.mem_of_getElem? (i := 37) rfl)) rfl
theorem wd_518 : (.static ⟨"NameForgeLaw", "go", "(LNameForge;II)I"⟩ : Cond) ∈ wT := wT_in (tb_2 _ (List.mem_of_getElem? (i := 38) rfl)) rfl
theorem wd_519 : (.codeWith ⟨"NameForgeLaw", "go", "(LNameForge;II)I"⟩ method_5_code 4 (some .int) [(0, 6, 9, 19)] : Cond) ∈ wT := wT_in (tb_2 _ (List.mem_of_getElem? (i := 39) rfl)) rfl
theorem wd_520 : (.methodLink "NameForgeLaw" 21 ⟨"NameForge", "go", "(II)V"⟩ : Cond) ∈ wT := wT_in (tb_2 _ (List.mem_of_getElem? (i := 40) rfl)) rfl
theorem wd_521 : (.instanceMethod ⟨"NameForge", "go", "(II)V"⟩ : Cond) ∈ wT := wT_in (tb_2 _ (List.mem_of_getElem? (i := 41) rfl)) rfl
theorem wd_522 : (.selects "NameForge" ⟨"NameForge", "go", "(II)V"⟩ ⟨"NameForge", "go", "(II)V"⟩ : Cond) ∈ wT := wT_in (tb_2 _ (List.mem_of_getElem? (i := 42) rfl)) rfl
theorem wd_523 : (.code ⟨"NameForge", "go", "(II)V"⟩ prog_1_method_4_code 3 none : Cond) ∈ wT := wT_in (tb_2 _ (List.mem_of_getElem? (i := 43) rfl)) rfl
theorem wz_529 : (.stringRef "NameForge" 106 "no such block, or none to go to" : Cond) ∈ lw_tbl := tb_2 _ (List.mem_of_getElem? (i := 49) rfl)
theorem wd_531 : (.methodLink "NameForgeLaw" 81 ⟨"NameForgeLaw", "fork", "(LNameForge;IIII)I"⟩ : Cond) ∈ wT := wT_in (tb_2 _ (List.mem_of_getElem? (i := 51) rfl)) rfl
theorem wd_532 : (.static ⟨"NameForgeLaw", "fork", "(LNameForge;IIII)I"⟩ : Cond) ∈ wT := wT_in (tb_2 _ (List.mem_of_getElem? (i := 52) rfl)) rfl
theorem wd_533 : (.codeWith ⟨"NameForgeLaw", "fork", "(LNameForge;IIII)I"⟩ method_6_code 6 (some .int) [(0, 9, 12, 19)] : Cond) ∈ wT := wT_in (tb_2 _ (List.mem_of_getElem? (i := 53) rfl)) rfl
theorem wd_534 : (.methodLink "NameForgeLaw" 25 ⟨"NameForge", "fork", "(IIII)V"⟩ : Cond) ∈ wT := wT_in (tb_2 _ (List.mem_of_getElem? (i := 54) rfl)) rfl
theorem wd_535 : (.instanceMethod ⟨"NameForge", "fork", "(IIII)V"⟩ : Cond) ∈ wT := wT_in (tb_2 _ (List.mem_of_getElem? (i := 55) rfl)) rfl
theorem wd_536 : (.selects "NameForge" ⟨"NameForge", "fork", "(IIII)V"⟩ ⟨"NameForge", "fork", "(IIII)V"⟩ : Cond) ∈ wT := wT_in (tb_2 _ (List.mem_of_getElem? (i := 56) rfl)) rfl
theorem wd_537 : (.code ⟨"NameForge", "fork", "(IIII)V"⟩ prog_1_method_5_code 5 none : Cond) ∈ wT := wT_in (tb_2 _ (List.mem_of_getElem? (i := 57) rfl)) rfl
theorem wz_538 : (.stringRef "NameForge" 115 "no such block or variable, or none to go to" : Cond) ∈ lw_tbl := tb_2 _ (List.mem_of_getElem? (i := 58) rfl)
theorem wd_539 : (.methodLink "NameForgeLaw" 85 ⟨"NameForgeLaw", "stop", "(LNameForge;I)I"⟩ : Cond) ∈ wT := wT_in (tb_2 _ (List.mem_of_getElem? (i := 59) rfl)) rfl
theorem wd_540 : (.static ⟨"NameForgeLaw", "stop", "(LNameForge;I)I"⟩ : Cond) ∈ wT := wT_in (tb_2 _ (List.mem_of_getElem? (i := 60) rfl)) rfl
theorem wd_541 : (.codeWith ⟨"NameForgeLaw", "stop", "(LNameForge;I)I"⟩ method_7_code 3 (some .int) [(0, 5, 8, 19)] : Cond) ∈ wT := wT_in (tb_2 _ (List.mem_of_getElem? (i := 61) rfl)) rfl
theorem wd_542 : (.methodLink "NameForgeLaw" 29 ⟨"NameForge", "stop", "(I)V"⟩ : Cond) ∈ wT := wT_in (tb_2 _ (List.mem_of_getElem? (i := 62) rfl)) rfl
theorem wd_543 : (.instanceMethod ⟨"NameForge", "stop", "(I)V"⟩ : Cond) ∈ wT := wT_in (tb_2 _ (List.mem_of_getElem? (i := 63) rfl)) rfl
theorem wd_544 : (.selects "NameForge" ⟨"NameForge", "stop", "(I)V"⟩ ⟨"NameForge", "stop", "(I)V"⟩ : Cond) ∈ wT := wT_in (tb_2 _ (List.mem_of_getElem? (i := 64) rfl)) rfl
theorem wd_545 : (.code ⟨"NameForge", "stop", "(I)V"⟩ prog_1_method_6_code 2 none : Cond) ∈ wT := wT_in (tb_2 _ (List.mem_of_getElem? (i := 65) rfl)) rfl
theorem wz_546 : (.stringRef "NameForge" 117 "no such block" : Cond) ∈ lw_tbl := tb_2 _ (List.mem_of_getElem? (i := 66) rfl)
theorem wd_547 : (.methodLink "NameForgeLaw" 93 ⟨"NameForgeLaw", "build", "(LNameForge;[J)I"⟩ : Cond) ∈ wT := wT_in (tb_2 _ (List.mem_of_getElem? (i := 67) rfl)) rfl
theorem wd_548 : (.static ⟨"NameForgeLaw", "build", "(LNameForge;[J)I"⟩ : Cond) ∈ wT := wT_in (tb_2 _ (List.mem_of_getElem? (i := 68) rfl)) rfl
theorem wd_549 : (.codeWith ⟨"NameForgeLaw", "build", "(LNameForge;[J)I"⟩ method_8_code 3 (some .int) [(0, 8, 11, 13)] : Cond) ∈ wT := wT_in (tb_2 _ (List.mem_of_getElem? (i := 69) rfl)) rfl
theorem wd_550 : (.methodLink "NameForgeLaw" 33 ⟨"NameForge", "build", "()I"⟩ : Cond) ∈ wT := wT_in (tb_2 _ (List.mem_of_getElem? (i := 70) rfl)) rfl
theorem wd_551 : (.instanceMethod ⟨"NameForge", "build", "()I"⟩ : Cond) ∈ wT := wT_in (tb_2 _ (List.mem_of_getElem? (i := 71) rfl)) rfl
theorem wd_552 : (.selects "NameForge" ⟨"NameForge", "build", "()I"⟩ ⟨"NameForge", "build", "()I"⟩ : Cond) ∈ wT := wT_in (tb_2 _ (List.mem_of_getElem? (i := 72) rfl)) rfl
theorem wd_553 : (.code ⟨"NameForge", "build", "()I"⟩ prog_1_method_8_code 1 (some .int) : Cond) ∈ wT := wT_in (tb_2 _ (List.mem_of_getElem? (i := 73) rfl)) rfl
theorem wz_554 : (.stringRef "NameForge" 119 "there is no block" : Cond) ∈ lw_tbl := tb_2 _ (List.mem_of_getElem? (i := 74) rfl)
theorem wz_563 : (.methodLinkNest "NameForge$Shape" 54 ⟨"NameForge", "bit", "(I)I"⟩ "NameForge" : Cond) ∈ lw_tbl := tb_2 _ (List.mem_of_getElem? (i := 83) rfl)
theorem wz_566 : (.methodLinkNest "NameForge$Shape" 50 ⟨"NameForge", "holds", "(II)Z"⟩ "NameForge" : Cond) ∈ lw_tbl := tb_2 _ (List.mem_of_getElem? (i := 86) rfl)
theorem wz_574 : (.methodLinkNest "NameForge$Program" 53 ⟨"NameForge", "bit", "(I)I"⟩ "NameForge" : Cond) ∈ lw_tbl := tb_2 _ (List.mem_of_getElem? (i := 94) rfl)
theorem wz_599 : (.methodLinkNest "NameForge$Naming" 102 ⟨"NameForge", "setsVariable", "(I)Z"⟩ "NameForge" : Cond) ∈ lw_tbl := tb_2 _ (List.mem_of_getElem? (i := 119) rfl)
theorem wz_600 : (.methodLinkNest "NameForge$Naming" 109 ⟨"NameForge", "bit", "(I)I"⟩ "NameForge" : Cond) ∈ lw_tbl := tb_2 _ (List.mem_of_getElem? (i := 120) rfl)
theorem wz_612 : (.methodLinkNest "NameForge$Naming" 87 ⟨"NameForge", "holds", "(II)Z"⟩ "NameForge" : Cond) ∈ lw_tbl := tb_2 _ (List.mem_of_getElem? (i := 132) rfl)
theorem wz_625 : (.methodLinkNest "NameForge$Naming" 132 ⟨"NameForge", "readsX", "(I)Z"⟩ "NameForge" : Cond) ∈ lw_tbl := tb_2 _ (List.mem_of_getElem? (i := 145) rfl)
theorem wz_626 : (.methodLinkNest "NameForge$Naming" 138 ⟨"NameForge", "readsY", "(I)Z"⟩ "NameForge" : Cond) ∈ lw_tbl := tb_2 _ (List.mem_of_getElem? (i := 146) rfl)
theorem wz_632 : (.methodLinkNest "NameForge$Known" 39 ⟨"NameForge", "bit", "(I)I"⟩ "NameForge" : Cond) ∈ lw_tbl := tb_2 _ (List.mem_of_getElem? (i := 152) rfl)
theorem wz_633 : (.methodLinkNest "NameForge$Known" 59 ⟨"NameForge", "holds", "(II)Z"⟩ "NameForge" : Cond) ∈ lw_tbl := tb_2 _ (List.mem_of_getElem? (i := 153) rfl)
theorem wz_654 : (.methodLinkNest "NameForge$Known" 119 ⟨"NameForge", "calculate", "(III)I"⟩ "NameForge" : Cond) ∈ lw_tbl := tb_2 _ (List.mem_of_getElem? (i := 174) rfl)
theorem wz_670 : (.methodLinkNest "NameForge$Needed" 45 ⟨"NameForge", "holds", "(II)Z"⟩ "NameForge" : Cond) ∈ lw_tbl := tb_2 _ (List.mem_of_getElem? (i := 190) rfl)
theorem wd_688 : (.methodLink "NameForgeLaw" 96 ⟨"NameForgeLaw", "look", "(LNameForge;II[J)I"⟩ : Cond) ∈ wT := wT_in (tb_2 _ (List.mem_of_getElem? (i := 208) rfl)) rfl
theorem wd_689 : (.static ⟨"NameForgeLaw", "look", "(LNameForge;II[J)I"⟩ : Cond) ∈ wT := wT_in (tb_2 _ (List.mem_of_getElem? (i := 209) rfl)) rfl
theorem wd_690 : (.codeWith ⟨"NameForgeLaw", "look", "(LNameForge;II[J)I"⟩ method_9_code 5 (some .int) [(0, 10, 13, 40), (0, 10, 17, 13)] : Cond) ∈ wT := wT_in (tb_2 _ (List.mem_of_getElem? (i := 210) rfl)) rfl
theorem wd_691 : (.classLink "NameForgeLaw" 40 "java/util/NoSuchElementException" : Cond) ∈ wT := wT_in (tb_2 _ (List.mem_of_getElem? (i := 211) rfl)) rfl
theorem wd_692 : (.methodLink "NameForgeLaw" 36 ⟨"NameForge", "look", "(II)I"⟩ : Cond) ∈ wT := wT_in (tb_2 _ (List.mem_of_getElem? (i := 212) rfl)) rfl
theorem wd_693 : (.instanceMethod ⟨"NameForge", "look", "(II)I"⟩ : Cond) ∈ wT := wT_in (tb_2 _ (List.mem_of_getElem? (i := 213) rfl)) rfl
theorem wd_694 : (.selects "NameForge" ⟨"NameForge", "look", "(II)I"⟩ ⟨"NameForge", "look", "(II)I"⟩ : Cond) ∈ wT := wT_in (tb_2 _ (List.mem_of_getElem? (i := 214) rfl)) rfl
theorem wd_695 : (.code ⟨"NameForge", "look", "(II)I"⟩ prog_1_method_9_code 3 (some .int) : Cond) ∈ wT := wT_in (tb_2 _ (List.mem_of_getElem? (i := 215) rfl)) rfl
theorem wz_698 : (.castable "java/util/NoSuchElementException" "java/util/NoSuchElementException" : Cond) ∈ lw_tbl := tb_2 _ (List.mem_of_getElem? (i := 218) rfl)
theorem wz_705 : (.stringRef "NameForge" 138 "no such block or what" : Cond) ∈ lw_tbl := tb_2 _ (List.mem_of_getElem? (i := 225) rfl)
theorem wz_712 : (.stringRef "NameForge" 141 "it is not built" : Cond) ∈ lw_tbl := tb_2 _ (List.mem_of_getElem? (i := 232) rfl)
theorem wd_720 : (.methodLink "NameForgeLaw" 100 ⟨"NameForgeLaw", "phi", "(LNameForge;III[J)I"⟩ : Cond) ∈ wT := wT_in (tb_3 _ (List.mem_of_getElem? (i := 0) rfl)) rfl
theorem wd_721 : (.static ⟨"NameForgeLaw", "phi", "(LNameForge;III[J)I"⟩ : Cond) ∈ wT := wT_in (tb_3 _ (List.mem_of_getElem? (i := 1) rfl)) rfl
theorem wd_722 : (.codeWith ⟨"NameForgeLaw", "phi", "(LNameForge;III[J)I"⟩ method_10_code 6 (some .int) [(0, 12, 15, 40), (0, 12, 19, 13)] : Cond) ∈ wT := wT_in (tb_3 _ (List.mem_of_getElem? (i := 2) rfl)) rfl
theorem wd_723 : (.methodLink "NameForgeLaw" 42 ⟨"NameForge", "phi", "(III)I"⟩ : Cond) ∈ wT := wT_in (tb_3 _ (List.mem_of_getElem? (i := 3) rfl)) rfl
theorem wd_724 : (.instanceMethod ⟨"NameForge", "phi", "(III)I"⟩ : Cond) ∈ wT := wT_in (tb_3 _ (List.mem_of_getElem? (i := 4) rfl)) rfl
theorem wd_725 : (.selects "NameForge" ⟨"NameForge", "phi", "(III)I"⟩ ⟨"NameForge", "phi", "(III)I"⟩ : Cond) ∈ wT := wT_in (tb_3 _ (List.mem_of_getElem? (i := 5) rfl)) rfl
theorem wd_726 : (.code ⟨"NameForge", "phi", "(III)I"⟩ prog_1_method_10_code 5 (some .int) : Cond) ∈ wT := wT_in (tb_3 _ (List.mem_of_getElem? (i := 6) rfl)) rfl
theorem wz_735 : (.stringRef "NameForge" 175 "no such phi or what" : Cond) ∈ lw_tbl := tb_3 _ (List.mem_of_getElem? (i := 15) rfl)
theorem wd_736 : (.methodLink "NameForgeLaw" 104 ⟨"NameForgeLaw", "uses", "(LNameForge;III[J)I"⟩ : Cond) ∈ wT := wT_in (tb_3 _ (List.mem_of_getElem? (i := 16) rfl)) rfl
theorem wd_737 : (.static ⟨"NameForgeLaw", "uses", "(LNameForge;III[J)I"⟩ : Cond) ∈ wT := wT_in (tb_3 _ (List.mem_of_getElem? (i := 17) rfl)) rfl
theorem wd_738 : (.codeWith ⟨"NameForgeLaw", "uses", "(LNameForge;III[J)I"⟩ method_11_code 6 (some .int) [(0, 12, 15, 40), (0, 12, 19, 13)] : Cond) ∈ wT := wT_in (tb_3 _ (List.mem_of_getElem? (i := 18) rfl)) rfl
theorem wd_739 : (.methodLink "NameForgeLaw" 46 ⟨"NameForge", "uses", "(III)I"⟩ : Cond) ∈ wT := wT_in (tb_3 _ (List.mem_of_getElem? (i := 19) rfl)) rfl
theorem wd_740 : (.instanceMethod ⟨"NameForge", "uses", "(III)I"⟩ : Cond) ∈ wT := wT_in (tb_3 _ (List.mem_of_getElem? (i := 20) rfl)) rfl
theorem wd_741 : (.selects "NameForge" ⟨"NameForge", "uses", "(III)I"⟩ ⟨"NameForge", "uses", "(III)I"⟩ : Cond) ∈ wT := wT_in (tb_3 _ (List.mem_of_getElem? (i := 21) rfl)) rfl
theorem wd_742 : (.code ⟨"NameForge", "uses", "(III)I"⟩ prog_1_method_11_code 4 (some .int) : Cond) ∈ wT := wT_in (tb_3 _ (List.mem_of_getElem? (i := 22) rfl)) rfl
theorem wz_747 : (.stringRef "NameForge" 187 "no such instruction or what" : Cond) ∈ lw_tbl := tb_3 _ (List.mem_of_getElem? (i := 27) rfl)
theorem wd_748 : (.methodLink "NameForgeLaw" 107 ⟨"NameForgeLaw", "name", "(LNameForge;II[J)I"⟩ : Cond) ∈ wT := wT_in (tb_3 _ (List.mem_of_getElem? (i := 28) rfl)) rfl
theorem wd_749 : (.static ⟨"NameForgeLaw", "name", "(LNameForge;II[J)I"⟩ : Cond) ∈ wT := wT_in (tb_3 _ (List.mem_of_getElem? (i := 29) rfl)) rfl
theorem wd_750 : (.codeWith ⟨"NameForgeLaw", "name", "(LNameForge;II[J)I"⟩ method_12_code 5 (some .int) [(0, 10, 13, 40), (0, 10, 17, 13)] : Cond) ∈ wT := wT_in (tb_3 _ (List.mem_of_getElem? (i := 30) rfl)) rfl
theorem wd_751 : (.methodLink "NameForgeLaw" 49 ⟨"NameForge", "name", "(II)I"⟩ : Cond) ∈ wT := wT_in (tb_3 _ (List.mem_of_getElem? (i := 31) rfl)) rfl
theorem wd_752 : (.instanceMethod ⟨"NameForge", "name", "(II)I"⟩ : Cond) ∈ wT := wT_in (tb_3 _ (List.mem_of_getElem? (i := 32) rfl)) rfl
theorem wd_753 : (.selects "NameForge" ⟨"NameForge", "name", "(II)I"⟩ ⟨"NameForge", "name", "(II)I"⟩ : Cond) ∈ wT := wT_in (tb_3 _ (List.mem_of_getElem? (i := 33) rfl)) rfl
theorem wd_754 : (.code ⟨"NameForge", "name", "(II)I"⟩ prog_1_method_12_code 3 (some .int) : Cond) ∈ wT := wT_in (tb_3 _ (List.mem_of_getElem? (i := 34) rfl)) rfl
theorem wz_755 : (.stringRef "NameForge" 198 "no such name or what" : Cond) ∈ lw_tbl := tb_3 _ (List.mem_of_getElem? (i := 35) rfl)
theorem wd_756 : (.methodLink "NameForgeLaw" 119 ⟨"NameForgeLaw", "run", "(LNameForge;ZI[J)I"⟩ : Cond) ∈ wT := wT_in (tb_3 _ (List.mem_of_getElem? (i := 36) rfl)) rfl
theorem wd_757 : (.static ⟨"NameForgeLaw", "run", "(LNameForge;ZI[J)I"⟩ : Cond) ∈ wT := wT_in (tb_3 _ (List.mem_of_getElem? (i := 37) rfl)) rfl
theorem wd_758 : (.codeWith ⟨"NameForgeLaw", "run", "(LNameForge;ZI[J)I"⟩ method_13_code 5 (some .int) [(0, 10, 13, 19), (0, 10, 17, 13)] : Cond) ∈ wT := wT_in (tb_3 _ (List.mem_of_getElem? (i := 38) rfl)) rfl
theorem wd_759 : (.methodLink "NameForgeLaw" 52 ⟨"NameForge", "run", "(ZI)I"⟩ : Cond) ∈ wT := wT_in (tb_3 _ (List.mem_of_getElem? (i := 39) rfl)) rfl
theorem wd_760 : (.instanceMethod ⟨"NameForge", "run", "(ZI)I"⟩ : Cond) ∈ wT := wT_in (tb_3 _ (List.mem_of_getElem? (i := 40) rfl)) rfl
theorem wd_761 : (.selects "NameForge" ⟨"NameForge", "run", "(ZI)I"⟩ ⟨"NameForge", "run", "(ZI)I"⟩ : Cond) ∈ wT := wT_in (tb_3 _ (List.mem_of_getElem? (i := 41) rfl)) rfl
theorem wd_762 : (.code ⟨"NameForge", "run", "(ZI)I"⟩ prog_1_method_15_code 3 (some .int) : Cond) ∈ wT := wT_in (tb_3 _ (List.mem_of_getElem? (i := 42) rfl)) rfl
theorem wz_763 : (.stringRef "NameForge" 219 "steps are 0 to 200" : Cond) ∈ lw_tbl := tb_3 _ (List.mem_of_getElem? (i := 43) rfl)
theorem wz_777 : (.methodLinkNest "NameForge$Machine" 91 ⟨"NameForge", "readsX", "(I)Z"⟩ "NameForge" : Cond) ∈ lw_tbl := tb_3 _ (List.mem_of_getElem? (i := 57) rfl)
theorem wz_778 : (.methodLinkNest "NameForge$Machine" 95 ⟨"NameForge", "readsY", "(I)Z"⟩ "NameForge" : Cond) ∈ lw_tbl := tb_3 _ (List.mem_of_getElem? (i := 58) rfl)
theorem wz_791 : (.methodLinkNest "NameForge$Machine" 173 ⟨"NameForge", "calculate", "(III)I"⟩ "NameForge" : Cond) ∈ lw_tbl := tb_3 _ (List.mem_of_getElem? (i := 71) rfl)
theorem wz_792 : (.methodLinkNest "NameForge$Machine" 102 ⟨"NameForge", "setsVariable", "(I)Z"⟩ "NameForge" : Cond) ∈ lw_tbl := tb_3 _ (List.mem_of_getElem? (i := 72) rfl)
theorem wz_809 : (.methodLinkNest "NameForge$Machine" 144 ⟨"NameForge", "holds", "(II)Z"⟩ "NameForge" : Cond) ∈ lw_tbl := tb_3 _ (List.mem_of_getElem? (i := 89) rfl)
theorem wd_814 : (.methodLink "NameForgeLaw" 127 ⟨"NameForgeLaw", "heard", "(LNameForge;I[J)I"⟩ : Cond) ∈ wT := wT_in (tb_3 _ (List.mem_of_getElem? (i := 94) rfl)) rfl
theorem wd_815 : (.static ⟨"NameForgeLaw", "heard", "(LNameForge;I[J)I"⟩ : Cond) ∈ wT := wT_in (tb_3 _ (List.mem_of_getElem? (i := 95) rfl)) rfl
theorem wd_816 : (.codeWith ⟨"NameForgeLaw", "heard", "(LNameForge;I[J)I"⟩ method_14_code 4 (some .int) [(0, 9, 12, 40)] : Cond) ∈ wT := wT_in (tb_3 _ (List.mem_of_getElem? (i := 96) rfl)) rfl
theorem wd_817 : (.methodLink "NameForgeLaw" 56 ⟨"NameForge", "heard", "(I)I"⟩ : Cond) ∈ wT := wT_in (tb_3 _ (List.mem_of_getElem? (i := 97) rfl)) rfl
theorem wd_818 : (.instanceMethod ⟨"NameForge", "heard", "(I)I"⟩ : Cond) ∈ wT := wT_in (tb_3 _ (List.mem_of_getElem? (i := 98) rfl)) rfl
theorem wd_819 : (.selects "NameForge" ⟨"NameForge", "heard", "(I)I"⟩ ⟨"NameForge", "heard", "(I)I"⟩ : Cond) ∈ wT := wT_in (tb_3 _ (List.mem_of_getElem? (i := 99) rfl)) rfl
theorem wd_820 : (.code ⟨"NameForge", "heard", "(I)I"⟩ prog_1_method_17_code 2 (some .int) : Cond) ∈ wT := wT_in (tb_3 _ (List.mem_of_getElem? (i := 100) rfl)) rfl
theorem wz_821 : (.stringRef "NameForge" 228 "not kept" : Cond) ∈ lw_tbl := tb_3 _ (List.mem_of_getElem? (i := 101) rfl)
theorem wd_822 : (.classLink "NameForgeLaw" 61 "NameForgeModel" : Cond) ∈ wT := wT_in (tb_3 _ (List.mem_of_getElem? (i := 102) rfl)) rfl
theorem wd_823 : (.instantiable "NameForgeModel" 41 : Cond) ∈ wT := wT_in (tb_3 _ (List.mem_of_getElem? (i := 103) rfl)) rfl
theorem wd_824 : (.methodLink "NameForgeLaw" 63 ⟨"NameForgeModel", "<init>", "()V"⟩ : Cond) ∈ wT := wT_in (tb_3 _ (List.mem_of_getElem? (i := 104) rfl)) rfl
theorem wd_825 : (.instanceMethod ⟨"NameForgeModel", "<init>", "()V"⟩ : Cond) ∈ wT := wT_in (tb_3 _ (List.mem_of_getElem? (i := 105) rfl)) rfl
theorem wd_826 : (.code ⟨"NameForgeModel", "<init>", "()V"⟩ prog_9_method_1_code 1 none : Cond) ∈ wT := wT_in (tb_3 _ (List.mem_of_getElem? (i := 106) rfl)) rfl
theorem wd_952 : (.methodLink "NameForgeLaw" 70 ⟨"NameForgeModel", "thrown", "()I"⟩ : Cond) ∈ wT := wT_in (tb_3 _ (List.mem_of_getElem? (i := 232) rfl)) rfl
theorem wd_953 : (.instanceMethod ⟨"NameForgeModel", "thrown", "()I"⟩ : Cond) ∈ wT := wT_in (tb_3 _ (List.mem_of_getElem? (i := 233) rfl)) rfl
theorem wd_954 : (.selects "NameForgeModel" ⟨"NameForgeModel", "thrown", "()I"⟩ ⟨"NameForgeModel", "thrown", "()I"⟩ : Cond) ∈ wT := wT_in (tb_3 _ (List.mem_of_getElem? (i := 234) rfl)) rfl
theorem wd_955 : (.code ⟨"NameForgeModel", "thrown", "()I"⟩ prog_9_method_2_code 1 (some .int) : Cond) ∈ wT := wT_in (tb_3 _ (List.mem_of_getElem? (i := 235) rfl)) rfl
theorem wd_956 : (.methodLink "NameForgeLaw" 69 ⟨"NameForgeModel", "block", "()I"⟩ : Cond) ∈ wT := wT_in (tb_3 _ (List.mem_of_getElem? (i := 236) rfl)) rfl
theorem wd_957 : (.instanceMethod ⟨"NameForgeModel", "block", "()I"⟩ : Cond) ∈ wT := wT_in (tb_3 _ (List.mem_of_getElem? (i := 237) rfl)) rfl
theorem wd_958 : (.selects "NameForgeModel" ⟨"NameForgeModel", "block", "()I"⟩ ⟨"NameForgeModel", "block", "()I"⟩ : Cond) ∈ wT := wT_in (tb_3 _ (List.mem_of_getElem? (i := 238) rfl)) rfl
theorem wd_959 : (.code ⟨"NameForgeModel", "block", "()I"⟩ prog_9_method_9_code 1 (some .int) : Cond) ∈ wT := wT_in (tb_3 _ (List.mem_of_getElem? (i := 239) rfl)) rfl
theorem wd_964 : (.methodLink "NameForgeLaw" 76 ⟨"NameForgeModel", "put", "(IIIII)I"⟩ : Cond) ∈ wT := wT_in (tb_4 _ (List.mem_of_getElem? (i := 4) rfl)) rfl
theorem wd_965 : (.instanceMethod ⟨"NameForgeModel", "put", "(IIIII)I"⟩ : Cond) ∈ wT := wT_in (tb_4 _ (List.mem_of_getElem? (i := 5) rfl)) rfl
theorem wd_966 : (.selects "NameForgeModel" ⟨"NameForgeModel", "put", "(IIIII)I"⟩ ⟨"NameForgeModel", "put", "(IIIII)I"⟩ : Cond) ∈ wT := wT_in (tb_4 _ (List.mem_of_getElem? (i := 6) rfl)) rfl
theorem wd_967 : (.code ⟨"NameForgeModel", "put", "(IIIII)I"⟩ prog_9_method_10_code 8 (some .int) : Cond) ∈ wT := wT_in (tb_4 _ (List.mem_of_getElem? (i := 7) rfl)) rfl
theorem wd_984 : (.methodLink "NameForgeLaw" 80 ⟨"NameForgeModel", "go", "(II)V"⟩ : Cond) ∈ wT := wT_in (tb_4 _ (List.mem_of_getElem? (i := 24) rfl)) rfl
theorem wd_985 : (.instanceMethod ⟨"NameForgeModel", "go", "(II)V"⟩ : Cond) ∈ wT := wT_in (tb_4 _ (List.mem_of_getElem? (i := 25) rfl)) rfl
theorem wd_986 : (.selects "NameForgeModel" ⟨"NameForgeModel", "go", "(II)V"⟩ ⟨"NameForgeModel", "go", "(II)V"⟩ : Cond) ∈ wT := wT_in (tb_4 _ (List.mem_of_getElem? (i := 26) rfl)) rfl
theorem wd_987 : (.code ⟨"NameForgeModel", "go", "(II)V"⟩ prog_9_method_12_code 3 none : Cond) ∈ wT := wT_in (tb_4 _ (List.mem_of_getElem? (i := 27) rfl)) rfl
theorem wd_992 : (.methodLink "NameForgeLaw" 84 ⟨"NameForgeModel", "fork", "(IIII)V"⟩ : Cond) ∈ wT := wT_in (tb_4 _ (List.mem_of_getElem? (i := 32) rfl)) rfl
theorem wd_993 : (.instanceMethod ⟨"NameForgeModel", "fork", "(IIII)V"⟩ : Cond) ∈ wT := wT_in (tb_4 _ (List.mem_of_getElem? (i := 33) rfl)) rfl
theorem wd_994 : (.selects "NameForgeModel" ⟨"NameForgeModel", "fork", "(IIII)V"⟩ ⟨"NameForgeModel", "fork", "(IIII)V"⟩ : Cond) ∈ wT := wT_in (tb_4 _ (List.mem_of_getElem? (i := 34) rfl)) rfl
theorem wd_995 : (.code ⟨"NameForgeModel", "fork", "(IIII)V"⟩ prog_9_method_13_code 5 none : Cond) ∈ wT := wT_in (tb_4 _ (List.mem_of_getElem? (i := 35) rfl)) rfl
theorem wd_996 : (.methodLink "NameForgeLaw" 88 ⟨"NameForgeModel", "stop", "(I)V"⟩ : Cond) ∈ wT := wT_in (tb_4 _ (List.mem_of_getElem? (i := 36) rfl)) rfl
theorem wd_997 : (.instanceMethod ⟨"NameForgeModel", "stop", "(I)V"⟩ : Cond) ∈ wT := wT_in (tb_4 _ (List.mem_of_getElem? (i := 37) rfl)) rfl
theorem wd_998 : (.selects "NameForgeModel" ⟨"NameForgeModel", "stop", "(I)V"⟩ ⟨"NameForgeModel", "stop", "(I)V"⟩ : Cond) ∈ wT := wT_in (tb_4 _ (List.mem_of_getElem? (i := 38) rfl)) rfl
theorem wd_999 : (.code ⟨"NameForgeModel", "stop", "(I)V"⟩ prog_9_method_14_code 2 none : Cond) ∈ wT := wT_in (tb_4 _ (List.mem_of_getElem? (i := 39) rfl)) rfl
theorem wd_1000 : (.methodLink "NameForgeLaw" 92 ⟨"NameForgeModel", "clear", "()V"⟩ : Cond) ∈ wT := wT_in (tb_4 _ (List.mem_of_getElem? (i := 40) rfl)) rfl
theorem wd_1001 : (.instanceMethod ⟨"NameForgeModel", "clear", "()V"⟩ : Cond) ∈ wT := wT_in (tb_4 _ (List.mem_of_getElem? (i := 41) rfl)) rfl
theorem wd_1002 : (.selects "NameForgeModel" ⟨"NameForgeModel", "clear", "()V"⟩ ⟨"NameForgeModel", "clear", "()V"⟩ : Cond) ∈ wT := wT_in (tb_4 _ (List.mem_of_getElem? (i := 42) rfl)) rfl
theorem wd_1003 : (.code ⟨"NameForgeModel", "clear", "()V"⟩ prog_9_method_15_code 1 none : Cond) ∈ wT := wT_in (tb_4 _ (List.mem_of_getElem? (i := 43) rfl)) rfl
theorem wd_1004 : (.methodLink "NameForgeLaw" 95 ⟨"NameForgeModel", "build", "()I"⟩ : Cond) ∈ wT := wT_in (tb_4 _ (List.mem_of_getElem? (i := 44) rfl)) rfl
theorem wd_1005 : (.instanceMethod ⟨"NameForgeModel", "build", "()I"⟩ : Cond) ∈ wT := wT_in (tb_4 _ (List.mem_of_getElem? (i := 45) rfl)) rfl
theorem wd_1006 : (.selects "NameForgeModel" ⟨"NameForgeModel", "build", "()I"⟩ ⟨"NameForgeModel", "build", "()I"⟩ : Cond) ∈ wT := wT_in (tb_4 _ (List.mem_of_getElem? (i := 46) rfl)) rfl
theorem wd_1007 : (.code ⟨"NameForgeModel", "build", "()I"⟩ prog_9_method_37_code 1 (some .int) : Cond) ∈ wT := wT_in (tb_4 _ (List.mem_of_getElem? (i := 47) rfl)) rfl
theorem wd_1090 : (.methodLink "NameForgeLaw" 99 ⟨"NameForgeModel", "look", "(II)I"⟩ : Cond) ∈ wT := wT_in (tb_4 _ (List.mem_of_getElem? (i := 130) rfl)) rfl
theorem wd_1091 : (.instanceMethod ⟨"NameForgeModel", "look", "(II)I"⟩ : Cond) ∈ wT := wT_in (tb_4 _ (List.mem_of_getElem? (i := 131) rfl)) rfl
theorem wd_1092 : (.selects "NameForgeModel" ⟨"NameForgeModel", "look", "(II)I"⟩ ⟨"NameForgeModel", "look", "(II)I"⟩ : Cond) ∈ wT := wT_in (tb_4 _ (List.mem_of_getElem? (i := 132) rfl)) rfl
theorem wd_1093 : (.code ⟨"NameForgeModel", "look", "(II)I"⟩ prog_9_method_38_code 4 (some .int) : Cond) ∈ wT := wT_in (tb_4 _ (List.mem_of_getElem? (i := 133) rfl)) rfl
theorem wd_1094 : (.methodLink "NameForgeLaw" 103 ⟨"NameForgeModel", "phi", "(III)I"⟩ : Cond) ∈ wT := wT_in (tb_4 _ (List.mem_of_getElem? (i := 134) rfl)) rfl
theorem wd_1095 : (.instanceMethod ⟨"NameForgeModel", "phi", "(III)I"⟩ : Cond) ∈ wT := wT_in (tb_4 _ (List.mem_of_getElem? (i := 135) rfl)) rfl
theorem wd_1096 : (.selects "NameForgeModel" ⟨"NameForgeModel", "phi", "(III)I"⟩ ⟨"NameForgeModel", "phi", "(III)I"⟩ : Cond) ∈ wT := wT_in (tb_4 _ (List.mem_of_getElem? (i := 136) rfl)) rfl
theorem wd_1097 : (.code ⟨"NameForgeModel", "phi", "(III)I"⟩ prog_9_method_40_code 6 (some .int) : Cond) ∈ wT := wT_in (tb_4 _ (List.mem_of_getElem? (i := 137) rfl)) rfl
theorem wd_1102 : (.methodLink "NameForgeLaw" 106 ⟨"NameForgeModel", "uses", "(III)I"⟩ : Cond) ∈ wT := wT_in (tb_4 _ (List.mem_of_getElem? (i := 142) rfl)) rfl
theorem wd_1103 : (.instanceMethod ⟨"NameForgeModel", "uses", "(III)I"⟩ : Cond) ∈ wT := wT_in (tb_4 _ (List.mem_of_getElem? (i := 143) rfl)) rfl
theorem wd_1104 : (.selects "NameForgeModel" ⟨"NameForgeModel", "uses", "(III)I"⟩ ⟨"NameForgeModel", "uses", "(III)I"⟩ : Cond) ∈ wT := wT_in (tb_4 _ (List.mem_of_getElem? (i := 144) rfl)) rfl
theorem wd_1105 : (.code ⟨"NameForgeModel", "uses", "(III)I"⟩ prog_9_method_41_code 6 (some .int) : Cond) ∈ wT := wT_in (tb_4 _ (List.mem_of_getElem? (i := 145) rfl)) rfl
theorem wd_1106 : (.methodLink "NameForgeLaw" 109 ⟨"NameForgeModel", "name", "(II)I"⟩ : Cond) ∈ wT := wT_in (tb_4 _ (List.mem_of_getElem? (i := 146) rfl)) rfl
theorem wd_1107 : (.instanceMethod ⟨"NameForgeModel", "name", "(II)I"⟩ : Cond) ∈ wT := wT_in (tb_4 _ (List.mem_of_getElem? (i := 147) rfl)) rfl
theorem wd_1108 : (.selects "NameForgeModel" ⟨"NameForgeModel", "name", "(II)I"⟩ ⟨"NameForgeModel", "name", "(II)I"⟩ : Cond) ∈ wT := wT_in (tb_4 _ (List.mem_of_getElem? (i := 148) rfl)) rfl
theorem wd_1109 : (.code ⟨"NameForgeModel", "name", "(II)I"⟩ prog_9_method_42_code 3 (some .int) : Cond) ∈ wT := wT_in (tb_4 _ (List.mem_of_getElem? (i := 149) rfl)) rfl
theorem wd_1110 : (.methodLink "NameForgeLaw" 114 ⟨"NameForgeModel", "give", "(I)Z"⟩ : Cond) ∈ wT := wT_in (tb_4 _ (List.mem_of_getElem? (i := 150) rfl)) rfl
theorem wd_1111 : (.instanceMethod ⟨"NameForgeModel", "give", "(I)Z"⟩ : Cond) ∈ wT := wT_in (tb_4 _ (List.mem_of_getElem? (i := 151) rfl)) rfl
theorem wd_1112 : (.selects "NameForgeModel" ⟨"NameForgeModel", "give", "(I)Z"⟩ ⟨"NameForgeModel", "give", "(I)Z"⟩ : Cond) ∈ wT := wT_in (tb_4 _ (List.mem_of_getElem? (i := 152) rfl)) rfl
theorem wd_1113 : (.code ⟨"NameForgeModel", "give", "(I)Z"⟩ prog_9_method_43_code 2 (some .boolean) : Cond) ∈ wT := wT_in (tb_4 _ (List.mem_of_getElem? (i := 153) rfl)) rfl
theorem wd_1114 : (.methodLink "NameForgeLaw" 118 ⟨"NameForgeModel", "take", "()V"⟩ : Cond) ∈ wT := wT_in (tb_4 _ (List.mem_of_getElem? (i := 154) rfl)) rfl
theorem wd_1115 : (.instanceMethod ⟨"NameForgeModel", "take", "()V"⟩ : Cond) ∈ wT := wT_in (tb_4 _ (List.mem_of_getElem? (i := 155) rfl)) rfl
theorem wd_1116 : (.selects "NameForgeModel" ⟨"NameForgeModel", "take", "()V"⟩ ⟨"NameForgeModel", "take", "()V"⟩ : Cond) ∈ wT := wT_in (tb_4 _ (List.mem_of_getElem? (i := 156) rfl)) rfl
theorem wd_1117 : (.code ⟨"NameForgeModel", "take", "()V"⟩ prog_9_method_44_code 1 none : Cond) ∈ wT := wT_in (tb_4 _ (List.mem_of_getElem? (i := 157) rfl)) rfl
theorem wd_1118 : (.methodLink "NameForgeLaw" 122 ⟨"NameForgeModel", "run", "(ZI)I"⟩ : Cond) ∈ wT := wT_in (tb_4 _ (List.mem_of_getElem? (i := 158) rfl)) rfl
theorem wd_1119 : (.instanceMethod ⟨"NameForgeModel", "run", "(ZI)I"⟩ : Cond) ∈ wT := wT_in (tb_4 _ (List.mem_of_getElem? (i := 159) rfl)) rfl
theorem wd_1120 : (.selects "NameForgeModel" ⟨"NameForgeModel", "run", "(ZI)I"⟩ ⟨"NameForgeModel", "run", "(ZI)I"⟩ : Cond) ∈ wT := wT_in (tb_4 _ (List.mem_of_getElem? (i := 160) rfl)) rfl
theorem wd_1121 : (.code ⟨"NameForgeModel", "run", "(ZI)I"⟩ prog_9_method_52_code 5 (some .int) : Cond) ∈ wT := wT_in (tb_4 _ (List.mem_of_getElem? (i := 161) rfl)) rfl
theorem wd_1150 : (.methodLink "NameForgeLaw" 126 ⟨"NameForgeModel", "told", "()I"⟩ : Cond) ∈ wT := wT_in (tb_4 _ (List.mem_of_getElem? (i := 190) rfl)) rfl
theorem wd_1151 : (.instanceMethod ⟨"NameForgeModel", "told", "()I"⟩ : Cond) ∈ wT := wT_in (tb_4 _ (List.mem_of_getElem? (i := 191) rfl)) rfl
theorem wd_1152 : (.selects "NameForgeModel" ⟨"NameForgeModel", "told", "()I"⟩ ⟨"NameForgeModel", "told", "()I"⟩ : Cond) ∈ wT := wT_in (tb_4 _ (List.mem_of_getElem? (i := 192) rfl)) rfl
theorem wd_1153 : (.code ⟨"NameForgeModel", "told", "()I"⟩ prog_9_method_53_code 1 (some .int) : Cond) ∈ wT := wT_in (tb_4 _ (List.mem_of_getElem? (i := 193) rfl)) rfl
theorem wd_1154 : (.methodLink "NameForgeLaw" 130 ⟨"NameForgeModel", "heard", "(I)I"⟩ : Cond) ∈ wT := wT_in (tb_4 _ (List.mem_of_getElem? (i := 194) rfl)) rfl
theorem wd_1155 : (.instanceMethod ⟨"NameForgeModel", "heard", "(I)I"⟩ : Cond) ∈ wT := wT_in (tb_4 _ (List.mem_of_getElem? (i := 195) rfl)) rfl
theorem wd_1156 : (.selects "NameForgeModel" ⟨"NameForgeModel", "heard", "(I)I"⟩ ⟨"NameForgeModel", "heard", "(I)I"⟩ : Cond) ∈ wT := wT_in (tb_4 _ (List.mem_of_getElem? (i := 196) rfl)) rfl
theorem wd_1157 : (.code ⟨"NameForgeModel", "heard", "(I)I"⟩ prog_9_method_54_code 2 (some .int) : Cond) ∈ wT := wT_in (tb_4 _ (List.mem_of_getElem? (i := 197) rfl)) rfl
theorem wd_1158 : (.methodLink "NameForgeLaw" 134 ⟨"NameForgeModel", "spent", "(I)I"⟩ : Cond) ∈ wT := wT_in (tb_4 _ (List.mem_of_getElem? (i := 198) rfl)) rfl
theorem wd_1159 : (.instanceMethod ⟨"NameForgeModel", "spent", "(I)I"⟩ : Cond) ∈ wT := wT_in (tb_4 _ (List.mem_of_getElem? (i := 199) rfl)) rfl
theorem wd_1160 : (.selects "NameForgeModel" ⟨"NameForgeModel", "spent", "(I)I"⟩ ⟨"NameForgeModel", "spent", "(I)I"⟩ : Cond) ∈ wT := wT_in (tb_4 _ (List.mem_of_getElem? (i := 200) rfl)) rfl
theorem wd_1161 : (.code ⟨"NameForgeModel", "spent", "(I)I"⟩ prog_9_method_55_code 2 (some .int) : Cond) ∈ wT := wT_in (tb_4 _ (List.mem_of_getElem? (i := 201) rfl)) rfl
theorem wd_1162 : (.arrayClass .long : Cond) ∈ wT := wT_in (tb_4 _ (List.mem_of_getElem? (i := 202) rfl)) rfl
theorem d_L_block_0 : decode b_L_block 0 = .ok (.aload_n 1, 1) := by decide +kernel
theorem d_L_block_1 : decode b_L_block 1 = .ok (.iconst 0, 1) := by decide +kernel
theorem d_L_block_2 : decode b_L_block 2 = .ok (.aload_n 0, 1) := by decide +kernel
theorem d_L_block_3 : decode b_L_block 3 = .ok (.invokevirtual 7, 3) := by decide +kernel
theorem d_L_block_6 : decode b_L_block 6 = .ok (.i2l, 1) := by decide +kernel
theorem d_L_block_7 : decode b_L_block 7 = .ok (.lastore, 1) := by decide +kernel
theorem d_L_block_8 : decode b_L_block 8 = .ok (.goto 6, 3) := by decide +kernel
theorem d_L_block_11 : decode b_L_block 11 = .ok (.astore_n 2, 1) := by decide +kernel
theorem d_L_block_12 : decode b_L_block 12 = .ok (.iconst 1, 1) := by decide +kernel
theorem d_L_block_13 : decode b_L_block 13 = .ok (.ireturn, 1) := by decide +kernel
theorem d_L_block_14 : decode b_L_block 14 = .ok (.iconst 0, 1) := by decide +kernel
theorem d_L_block_15 : decode b_L_block 15 = .ok (.ireturn, 1) := by decide +kernel
theorem d_L_put_0 : decode b_L_put 0 = .ok (.aload 6, 2) := by decide +kernel
theorem d_L_put_2 : decode b_L_put 2 = .ok (.iconst 0, 1) := by decide +kernel
theorem d_L_put_3 : decode b_L_put 3 = .ok (.aload_n 0, 1) := by decide +kernel
theorem d_L_put_4 : decode b_L_put 4 = .ok (.iload_n 1, 1) := by decide +kernel
theorem d_L_put_5 : decode b_L_put 5 = .ok (.iload_n 2, 1) := by decide +kernel
theorem d_L_put_6 : decode b_L_put 6 = .ok (.iload_n 3, 1) := by decide +kernel
theorem d_L_put_7 : decode b_L_put 7 = .ok (.iload 4, 2) := by decide +kernel
theorem d_L_put_9 : decode b_L_put 9 = .ok (.iload 5, 2) := by decide +kernel
theorem d_L_put_11 : decode b_L_put 11 = .ok (.invokevirtual 15, 3) := by decide +kernel
theorem d_L_put_14 : decode b_L_put 14 = .ok (.i2l, 1) := by decide +kernel
theorem d_L_put_15 : decode b_L_put 15 = .ok (.lastore, 1) := by decide +kernel
theorem d_L_put_16 : decode b_L_put 16 = .ok (.goto 11, 3) := by decide +kernel
theorem d_L_put_19 : decode b_L_put 19 = .ok (.astore 7, 2) := by decide +kernel
theorem d_L_put_21 : decode b_L_put 21 = .ok (.iconst 1, 1) := by decide +kernel
theorem d_L_put_22 : decode b_L_put 22 = .ok (.ireturn, 1) := by decide +kernel
theorem d_L_put_23 : decode b_L_put 23 = .ok (.astore 7, 2) := by decide +kernel
theorem d_L_put_25 : decode b_L_put 25 = .ok (.iconst 2, 1) := by decide +kernel
theorem d_L_put_26 : decode b_L_put 26 = .ok (.ireturn, 1) := by decide +kernel
theorem d_L_put_27 : decode b_L_put 27 = .ok (.iconst 0, 1) := by decide +kernel
theorem d_L_put_28 : decode b_L_put 28 = .ok (.ireturn, 1) := by decide +kernel
theorem d_L_go_0 : decode b_L_go 0 = .ok (.aload_n 0, 1) := by decide +kernel
theorem d_L_go_1 : decode b_L_go 1 = .ok (.iload_n 1, 1) := by decide +kernel
theorem d_L_go_2 : decode b_L_go 2 = .ok (.iload_n 2, 1) := by decide +kernel
theorem d_L_go_3 : decode b_L_go 3 = .ok (.invokevirtual 21, 3) := by decide +kernel
theorem d_L_go_6 : decode b_L_go 6 = .ok (.goto 6, 3) := by decide +kernel
theorem d_L_go_9 : decode b_L_go 9 = .ok (.astore_n 3, 1) := by decide +kernel
theorem d_L_go_10 : decode b_L_go 10 = .ok (.iconst 1, 1) := by decide +kernel
theorem d_L_go_11 : decode b_L_go 11 = .ok (.ireturn, 1) := by decide +kernel
theorem d_L_go_12 : decode b_L_go 12 = .ok (.iconst 0, 1) := by decide +kernel
theorem d_L_go_13 : decode b_L_go 13 = .ok (.ireturn, 1) := by decide +kernel
theorem d_L_fork_0 : decode b_L_fork 0 = .ok (.aload_n 0, 1) := by decide +kernel
theorem d_L_fork_1 : decode b_L_fork 1 = .ok (.iload_n 1, 1) := by decide +kernel
theorem d_L_fork_2 : decode b_L_fork 2 = .ok (.iload_n 2, 1) := by decide +kernel
theorem d_L_fork_3 : decode b_L_fork 3 = .ok (.iload_n 3, 1) := by decide +kernel
theorem d_L_fork_4 : decode b_L_fork 4 = .ok (.iload 4, 2) := by decide +kernel
theorem d_L_fork_6 : decode b_L_fork 6 = .ok (.invokevirtual 25, 3) := by decide +kernel
theorem d_L_fork_9 : decode b_L_fork 9 = .ok (.goto 7, 3) := by decide +kernel
theorem d_L_fork_12 : decode b_L_fork 12 = .ok (.astore 5, 2) := by decide +kernel
theorem d_L_fork_14 : decode b_L_fork 14 = .ok (.iconst 1, 1) := by decide +kernel
theorem d_L_fork_15 : decode b_L_fork 15 = .ok (.ireturn, 1) := by decide +kernel
theorem d_L_fork_16 : decode b_L_fork 16 = .ok (.iconst 0, 1) := by decide +kernel
theorem d_L_fork_17 : decode b_L_fork 17 = .ok (.ireturn, 1) := by decide +kernel
theorem d_L_stop_0 : decode b_L_stop 0 = .ok (.aload_n 0, 1) := by decide +kernel
theorem d_L_stop_1 : decode b_L_stop 1 = .ok (.iload_n 1, 1) := by decide +kernel
theorem d_L_stop_2 : decode b_L_stop 2 = .ok (.invokevirtual 29, 3) := by decide +kernel
theorem d_L_stop_5 : decode b_L_stop 5 = .ok (.goto 6, 3) := by decide +kernel
theorem d_L_stop_8 : decode b_L_stop 8 = .ok (.astore_n 2, 1) := by decide +kernel
theorem d_L_stop_9 : decode b_L_stop 9 = .ok (.iconst 1, 1) := by decide +kernel
theorem d_L_stop_10 : decode b_L_stop 10 = .ok (.ireturn, 1) := by decide +kernel
theorem d_L_stop_11 : decode b_L_stop 11 = .ok (.iconst 0, 1) := by decide +kernel
theorem d_L_stop_12 : decode b_L_stop 12 = .ok (.ireturn, 1) := by decide +kernel
theorem d_L_build_0 : decode b_L_build 0 = .ok (.aload_n 1, 1) := by decide +kernel
theorem d_L_build_1 : decode b_L_build 1 = .ok (.iconst 0, 1) := by decide +kernel
theorem d_L_build_2 : decode b_L_build 2 = .ok (.aload_n 0, 1) := by decide +kernel
theorem d_L_build_3 : decode b_L_build 3 = .ok (.invokevirtual 33, 3) := by decide +kernel
theorem d_L_build_6 : decode b_L_build 6 = .ok (.i2l, 1) := by decide +kernel
theorem d_L_build_7 : decode b_L_build 7 = .ok (.lastore, 1) := by decide +kernel
theorem d_L_build_8 : decode b_L_build 8 = .ok (.goto 6, 3) := by decide +kernel
theorem d_L_build_11 : decode b_L_build 11 = .ok (.astore_n 2, 1) := by decide +kernel
theorem d_L_build_12 : decode b_L_build 12 = .ok (.iconst 1, 1) := by decide +kernel
theorem d_L_build_13 : decode b_L_build 13 = .ok (.ireturn, 1) := by decide +kernel
theorem d_L_build_14 : decode b_L_build 14 = .ok (.iconst 0, 1) := by decide +kernel
theorem d_L_build_15 : decode b_L_build 15 = .ok (.ireturn, 1) := by decide +kernel
theorem d_L_look_0 : decode b_L_look 0 = .ok (.aload_n 3, 1) := by decide +kernel
theorem d_L_look_1 : decode b_L_look 1 = .ok (.iconst 0, 1) := by decide +kernel
theorem d_L_look_2 : decode b_L_look 2 = .ok (.aload_n 0, 1) := by decide +kernel
theorem d_L_look_3 : decode b_L_look 3 = .ok (.iload_n 1, 1) := by decide +kernel
theorem d_L_look_4 : decode b_L_look 4 = .ok (.iload_n 2, 1) := by decide +kernel
theorem d_L_look_5 : decode b_L_look 5 = .ok (.invokevirtual 36, 3) := by decide +kernel
theorem d_L_look_8 : decode b_L_look 8 = .ok (.i2l, 1) := by decide +kernel
theorem d_L_look_9 : decode b_L_look 9 = .ok (.lastore, 1) := by decide +kernel
theorem d_L_look_10 : decode b_L_look 10 = .ok (.goto 11, 3) := by decide +kernel
theorem d_L_look_13 : decode b_L_look 13 = .ok (.astore 4, 2) := by decide +kernel
theorem d_L_look_15 : decode b_L_look 15 = .ok (.iconst 1, 1) := by decide +kernel
theorem d_L_look_16 : decode b_L_look 16 = .ok (.ireturn, 1) := by decide +kernel
theorem d_L_look_17 : decode b_L_look 17 = .ok (.astore 4, 2) := by decide +kernel
theorem d_L_look_19 : decode b_L_look 19 = .ok (.iconst 2, 1) := by decide +kernel
theorem d_L_look_20 : decode b_L_look 20 = .ok (.ireturn, 1) := by decide +kernel
theorem d_L_look_21 : decode b_L_look 21 = .ok (.iconst 0, 1) := by decide +kernel
theorem d_L_look_22 : decode b_L_look 22 = .ok (.ireturn, 1) := by decide +kernel
theorem d_L_phi_0 : decode b_L_phi 0 = .ok (.aload 4, 2) := by decide +kernel
theorem d_L_phi_2 : decode b_L_phi 2 = .ok (.iconst 0, 1) := by decide +kernel
theorem d_L_phi_3 : decode b_L_phi 3 = .ok (.aload_n 0, 1) := by decide +kernel
theorem d_L_phi_4 : decode b_L_phi 4 = .ok (.iload_n 1, 1) := by decide +kernel
theorem d_L_phi_5 : decode b_L_phi 5 = .ok (.iload_n 2, 1) := by decide +kernel
theorem d_L_phi_6 : decode b_L_phi 6 = .ok (.iload_n 3, 1) := by decide +kernel
theorem d_L_phi_7 : decode b_L_phi 7 = .ok (.invokevirtual 42, 3) := by decide +kernel
theorem d_L_phi_10 : decode b_L_phi 10 = .ok (.i2l, 1) := by decide +kernel
theorem d_L_phi_11 : decode b_L_phi 11 = .ok (.lastore, 1) := by decide +kernel
theorem d_L_phi_12 : decode b_L_phi 12 = .ok (.goto 11, 3) := by decide +kernel
theorem d_L_phi_15 : decode b_L_phi 15 = .ok (.astore 5, 2) := by decide +kernel
theorem d_L_phi_17 : decode b_L_phi 17 = .ok (.iconst 1, 1) := by decide +kernel
theorem d_L_phi_18 : decode b_L_phi 18 = .ok (.ireturn, 1) := by decide +kernel
theorem d_L_phi_19 : decode b_L_phi 19 = .ok (.astore 5, 2) := by decide +kernel
theorem d_L_phi_21 : decode b_L_phi 21 = .ok (.iconst 2, 1) := by decide +kernel
theorem d_L_phi_22 : decode b_L_phi 22 = .ok (.ireturn, 1) := by decide +kernel
theorem d_L_phi_23 : decode b_L_phi 23 = .ok (.iconst 0, 1) := by decide +kernel
theorem d_L_phi_24 : decode b_L_phi 24 = .ok (.ireturn, 1) := by decide +kernel
theorem d_L_uses_0 : decode b_L_uses 0 = .ok (.aload 4, 2) := by decide +kernel
theorem d_L_uses_2 : decode b_L_uses 2 = .ok (.iconst 0, 1) := by decide +kernel
theorem d_L_uses_3 : decode b_L_uses 3 = .ok (.aload_n 0, 1) := by decide +kernel
theorem d_L_uses_4 : decode b_L_uses 4 = .ok (.iload_n 1, 1) := by decide +kernel
theorem d_L_uses_5 : decode b_L_uses 5 = .ok (.iload_n 2, 1) := by decide +kernel
theorem d_L_uses_6 : decode b_L_uses 6 = .ok (.iload_n 3, 1) := by decide +kernel
theorem d_L_uses_7 : decode b_L_uses 7 = .ok (.invokevirtual 46, 3) := by decide +kernel
theorem d_L_uses_10 : decode b_L_uses 10 = .ok (.i2l, 1) := by decide +kernel
theorem d_L_uses_11 : decode b_L_uses 11 = .ok (.lastore, 1) := by decide +kernel
theorem d_L_uses_12 : decode b_L_uses 12 = .ok (.goto 11, 3) := by decide +kernel
theorem d_L_uses_15 : decode b_L_uses 15 = .ok (.astore 5, 2) := by decide +kernel
theorem d_L_uses_17 : decode b_L_uses 17 = .ok (.iconst 1, 1) := by decide +kernel
theorem d_L_uses_18 : decode b_L_uses 18 = .ok (.ireturn, 1) := by decide +kernel
theorem d_L_uses_19 : decode b_L_uses 19 = .ok (.astore 5, 2) := by decide +kernel
theorem d_L_uses_21 : decode b_L_uses 21 = .ok (.iconst 2, 1) := by decide +kernel
theorem d_L_uses_22 : decode b_L_uses 22 = .ok (.ireturn, 1) := by decide +kernel
theorem d_L_uses_23 : decode b_L_uses 23 = .ok (.iconst 0, 1) := by decide +kernel
theorem d_L_uses_24 : decode b_L_uses 24 = .ok (.ireturn, 1) := by decide +kernel
theorem d_L_name_0 : decode b_L_name 0 = .ok (.aload_n 3, 1) := by decide +kernel
theorem d_L_name_1 : decode b_L_name 1 = .ok (.iconst 0, 1) := by decide +kernel
theorem d_L_name_2 : decode b_L_name 2 = .ok (.aload_n 0, 1) := by decide +kernel
theorem d_L_name_3 : decode b_L_name 3 = .ok (.iload_n 1, 1) := by decide +kernel
theorem d_L_name_4 : decode b_L_name 4 = .ok (.iload_n 2, 1) := by decide +kernel
theorem d_L_name_5 : decode b_L_name 5 = .ok (.invokevirtual 49, 3) := by decide +kernel
theorem d_L_name_8 : decode b_L_name 8 = .ok (.i2l, 1) := by decide +kernel
theorem d_L_name_9 : decode b_L_name 9 = .ok (.lastore, 1) := by decide +kernel
theorem d_L_name_10 : decode b_L_name 10 = .ok (.goto 11, 3) := by decide +kernel
theorem d_L_name_13 : decode b_L_name 13 = .ok (.astore 4, 2) := by decide +kernel
theorem d_L_name_15 : decode b_L_name 15 = .ok (.iconst 1, 1) := by decide +kernel
theorem d_L_name_16 : decode b_L_name 16 = .ok (.ireturn, 1) := by decide +kernel
theorem d_L_name_17 : decode b_L_name 17 = .ok (.astore 4, 2) := by decide +kernel
theorem d_L_name_19 : decode b_L_name 19 = .ok (.iconst 2, 1) := by decide +kernel
theorem d_L_name_20 : decode b_L_name 20 = .ok (.ireturn, 1) := by decide +kernel
theorem d_L_name_21 : decode b_L_name 21 = .ok (.iconst 0, 1) := by decide +kernel
theorem d_L_name_22 : decode b_L_name 22 = .ok (.ireturn, 1) := by decide +kernel
theorem d_L_run_0 : decode b_L_run 0 = .ok (.aload_n 3, 1) := by decide +kernel
theorem d_L_run_1 : decode b_L_run 1 = .ok (.iconst 0, 1) := by decide +kernel
theorem d_L_run_2 : decode b_L_run 2 = .ok (.aload_n 0, 1) := by decide +kernel
theorem d_L_run_3 : decode b_L_run 3 = .ok (.iload_n 1, 1) := by decide +kernel
theorem d_L_run_4 : decode b_L_run 4 = .ok (.iload_n 2, 1) := by decide +kernel
theorem d_L_run_5 : decode b_L_run 5 = .ok (.invokevirtual 52, 3) := by decide +kernel
theorem d_L_run_8 : decode b_L_run 8 = .ok (.i2l, 1) := by decide +kernel
theorem d_L_run_9 : decode b_L_run 9 = .ok (.lastore, 1) := by decide +kernel
theorem d_L_run_10 : decode b_L_run 10 = .ok (.goto 11, 3) := by decide +kernel
theorem d_L_run_13 : decode b_L_run 13 = .ok (.astore 4, 2) := by decide +kernel
theorem d_L_run_15 : decode b_L_run 15 = .ok (.iconst 1, 1) := by decide +kernel
theorem d_L_run_16 : decode b_L_run 16 = .ok (.ireturn, 1) := by decide +kernel
theorem d_L_run_17 : decode b_L_run 17 = .ok (.astore 4, 2) := by decide +kernel
theorem d_L_run_19 : decode b_L_run 19 = .ok (.iconst 2, 1) := by decide +kernel
theorem d_L_run_20 : decode b_L_run 20 = .ok (.ireturn, 1) := by decide +kernel
theorem d_L_run_21 : decode b_L_run 21 = .ok (.iconst 0, 1) := by decide +kernel
theorem d_L_run_22 : decode b_L_run 22 = .ok (.ireturn, 1) := by decide +kernel
theorem d_L_heard_0 : decode b_L_heard 0 = .ok (.aload_n 2, 1) := by decide +kernel
theorem d_L_heard_1 : decode b_L_heard 1 = .ok (.iconst 0, 1) := by decide +kernel
theorem d_L_heard_2 : decode b_L_heard 2 = .ok (.aload_n 0, 1) := by decide +kernel
theorem d_L_heard_3 : decode b_L_heard 3 = .ok (.iload_n 1, 1) := by decide +kernel
theorem d_L_heard_4 : decode b_L_heard 4 = .ok (.invokevirtual 56, 3) := by decide +kernel
theorem d_L_heard_7 : decode b_L_heard 7 = .ok (.i2l, 1) := by decide +kernel
theorem d_L_heard_8 : decode b_L_heard 8 = .ok (.lastore, 1) := by decide +kernel
theorem d_L_heard_9 : decode b_L_heard 9 = .ok (.goto 6, 3) := by decide +kernel
theorem d_L_heard_12 : decode b_L_heard 12 = .ok (.astore_n 3, 1) := by decide +kernel
theorem d_L_heard_13 : decode b_L_heard 13 = .ok (.iconst 1, 1) := by decide +kernel
theorem d_L_heard_14 : decode b_L_heard 14 = .ok (.ireturn, 1) := by decide +kernel
theorem d_L_heard_15 : decode b_L_heard 15 = .ok (.iconst 0, 1) := by decide +kernel
theorem d_L_heard_16 : decode b_L_heard 16 = .ok (.ireturn, 1) := by decide +kernel
theorem d_L_law_0 : decode code 0 = .ok (.new 8, 3) := by decide +kernel
theorem d_L_law_3 : decode code 3 = .ok (.dup, 1) := by decide +kernel
theorem d_L_law_4 : decode code 4 = .ok (.invokespecial 60, 3) := by decide +kernel
theorem d_L_law_7 : decode code 7 = .ok (.astore_n 1, 1) := by decide +kernel
theorem d_L_law_8 : decode code 8 = .ok (.new 61, 3) := by decide +kernel
theorem d_L_law_11 : decode code 11 = .ok (.dup, 1) := by decide +kernel
theorem d_L_law_12 : decode code 12 = .ok (.invokespecial 63, 3) := by decide +kernel
theorem d_L_law_15 : decode code 15 = .ok (.astore_n 2, 1) := by decide +kernel
theorem d_L_law_16 : decode code 16 = .ok (.iconst 1, 1) := by decide +kernel
theorem d_L_law_17 : decode code 17 = .ok (.newarray .long, 2) := by decide +kernel
theorem d_L_law_19 : decode code 19 = .ok (.astore_n 3, 1) := by decide +kernel
theorem d_L_law_20 : decode code 20 = .ok (.iconst 0, 1) := by decide +kernel
theorem d_L_law_21 : decode code 21 = .ok (.istore 4, 2) := by decide +kernel
theorem d_L_law_23 : decode code 23 = .ok (.iload 4, 2) := by decide +kernel
theorem d_L_law_25 : decode code 25 = .ok (.aload_n 0, 1) := by decide +kernel
theorem d_L_law_26 : decode code 26 = .ok (.arraylength, 1) := by decide +kernel
theorem d_L_law_27 : decode code 27 = .ok (.bipush 6, 2) := by decide +kernel
theorem d_L_law_29 : decode code 29 = .ok (.isub, 1) := by decide +kernel
theorem d_L_law_30 : decode code 30 = .ok (.if_icmp .gt 969, 3) := by decide +kernel
theorem d_L_law_33 : decode code 33 = .ok (.aload_n 0, 1) := by decide +kernel
theorem d_L_law_34 : decode code 34 = .ok (.iload 4, 2) := by decide +kernel
theorem d_L_law_36 : decode code 36 = .ok (.iaload, 1) := by decide +kernel
theorem d_L_law_37 : decode code 37 = .ok (.bipush 31, 2) := by decide +kernel
theorem d_L_law_39 : decode code 39 = .ok (.iand, 1) := by decide +kernel
theorem d_L_law_40 : decode code 40 = .ok (.tableswitch 953 0 16 #[84, 128, 232, 280, 352, 388, 399, 443, 511, 591, 671, 739, 764, 775, 859, 872, 928], 84) := by decide +kernel
theorem d_L_law_124 : decode code 124 = .ok (.aload_n 1, 1) := by decide +kernel
theorem d_L_law_125 : decode code 125 = .ok (.aload_n 3, 1) := by decide +kernel
theorem d_L_law_126 : decode code 126 = .ok (.invokestatic 64, 3) := by decide +kernel
theorem d_L_law_129 : decode code 129 = .ok (.istore 5, 2) := by decide +kernel
theorem d_L_law_131 : decode code 131 = .ok (.aload_n 2, 1) := by decide +kernel
theorem d_L_law_132 : decode code 132 = .ok (.invokevirtual 69, 3) := by decide +kernel
theorem d_L_law_135 : decode code 135 = .ok (.istore 6, 2) := by decide +kernel
theorem d_L_law_137 : decode code 137 = .ok (.aload_n 2, 1) := by decide +kernel
theorem d_L_law_138 : decode code 138 = .ok (.invokevirtual 70, 3) := by decide +kernel
theorem d_L_law_141 : decode code 141 = .ok (.iload 5, 2) := by decide +kernel
theorem d_L_law_143 : decode code 143 = .ok (.if_icmp .eq 5, 3) := by decide +kernel
theorem d_L_law_148 : decode code 148 = .ok (.iload 5, 2) := by decide +kernel
theorem d_L_law_150 : decode code 150 = .ok (.ifCond .ne 15, 3) := by decide +kernel
theorem d_L_law_153 : decode code 153 = .ok (.aload_n 3, 1) := by decide +kernel
theorem d_L_law_154 : decode code 154 = .ok (.iconst 0, 1) := by decide +kernel
theorem d_L_law_155 : decode code 155 = .ok (.laload, 1) := by decide +kernel
theorem d_L_law_156 : decode code 156 = .ok (.iload 6, 2) := by decide +kernel
theorem d_L_law_158 : decode code 158 = .ok (.i2l, 1) := by decide +kernel
theorem d_L_law_159 : decode code 159 = .ok (.lcmp, 1) := by decide +kernel
theorem d_L_law_160 : decode code 160 = .ok (.ifCond .eq 5, 3) := by decide +kernel
theorem d_L_law_165 : decode code 165 = .ok (.goto 828, 3) := by decide +kernel
theorem d_L_law_168 : decode code 168 = .ok (.aload_n 1, 1) := by decide +kernel
theorem d_L_law_169 : decode code 169 = .ok (.aload_n 0, 1) := by decide +kernel
theorem d_L_law_170 : decode code 170 = .ok (.iload 4, 2) := by decide +kernel
theorem d_L_law_172 : decode code 172 = .ok (.iconst 1, 1) := by decide +kernel
theorem d_L_law_173 : decode code 173 = .ok (.iadd, 1) := by decide +kernel
theorem d_L_law_174 : decode code 174 = .ok (.iaload, 1) := by decide +kernel
theorem d_L_law_175 : decode code 175 = .ok (.aload_n 0, 1) := by decide +kernel
theorem d_L_law_176 : decode code 176 = .ok (.iload 4, 2) := by decide +kernel
theorem d_L_law_178 : decode code 178 = .ok (.iconst 2, 1) := by decide +kernel
theorem d_L_law_179 : decode code 179 = .ok (.iadd, 1) := by decide +kernel
theorem d_L_law_180 : decode code 180 = .ok (.iaload, 1) := by decide +kernel
theorem d_L_law_181 : decode code 181 = .ok (.aload_n 0, 1) := by decide +kernel
theorem d_L_law_182 : decode code 182 = .ok (.iload 4, 2) := by decide +kernel
theorem d_L_law_184 : decode code 184 = .ok (.iconst 3, 1) := by decide +kernel
theorem d_L_law_185 : decode code 185 = .ok (.iadd, 1) := by decide +kernel
theorem d_L_law_186 : decode code 186 = .ok (.iaload, 1) := by decide +kernel
theorem d_L_law_187 : decode code 187 = .ok (.aload_n 0, 1) := by decide +kernel
theorem d_L_law_188 : decode code 188 = .ok (.iload 4, 2) := by decide +kernel
theorem d_L_law_190 : decode code 190 = .ok (.iconst 4, 1) := by decide +kernel
theorem d_L_law_191 : decode code 191 = .ok (.iadd, 1) := by decide +kernel
theorem d_L_law_192 : decode code 192 = .ok (.iaload, 1) := by decide +kernel
theorem d_L_law_193 : decode code 193 = .ok (.aload_n 0, 1) := by decide +kernel
theorem d_L_law_194 : decode code 194 = .ok (.iload 4, 2) := by decide +kernel
theorem d_L_law_196 : decode code 196 = .ok (.iconst 5, 1) := by decide +kernel
theorem d_L_law_197 : decode code 197 = .ok (.iadd, 1) := by decide +kernel
theorem d_L_law_198 : decode code 198 = .ok (.iaload, 1) := by decide +kernel
theorem d_L_law_199 : decode code 199 = .ok (.aload_n 3, 1) := by decide +kernel
theorem d_L_law_200 : decode code 200 = .ok (.invokestatic 73, 3) := by decide +kernel
theorem d_L_law_203 : decode code 203 = .ok (.istore 5, 2) := by decide +kernel
theorem d_L_law_205 : decode code 205 = .ok (.aload_n 2, 1) := by decide +kernel
theorem d_L_law_206 : decode code 206 = .ok (.aload_n 0, 1) := by decide +kernel
theorem d_L_law_207 : decode code 207 = .ok (.iload 4, 2) := by decide +kernel
theorem d_L_law_209 : decode code 209 = .ok (.iconst 1, 1) := by decide +kernel
theorem d_L_law_210 : decode code 210 = .ok (.iadd, 1) := by decide +kernel
theorem d_L_law_211 : decode code 211 = .ok (.iaload, 1) := by decide +kernel
theorem d_L_law_212 : decode code 212 = .ok (.aload_n 0, 1) := by decide +kernel
theorem d_L_law_213 : decode code 213 = .ok (.iload 4, 2) := by decide +kernel
theorem d_L_law_215 : decode code 215 = .ok (.iconst 2, 1) := by decide +kernel
theorem d_L_law_216 : decode code 216 = .ok (.iadd, 1) := by decide +kernel
theorem d_L_law_217 : decode code 217 = .ok (.iaload, 1) := by decide +kernel
theorem d_L_law_218 : decode code 218 = .ok (.aload_n 0, 1) := by decide +kernel
theorem d_L_law_219 : decode code 219 = .ok (.iload 4, 2) := by decide +kernel
theorem d_L_law_221 : decode code 221 = .ok (.iconst 3, 1) := by decide +kernel
theorem d_L_law_222 : decode code 222 = .ok (.iadd, 1) := by decide +kernel
theorem d_L_law_223 : decode code 223 = .ok (.iaload, 1) := by decide +kernel
theorem d_L_law_224 : decode code 224 = .ok (.aload_n 0, 1) := by decide +kernel
theorem d_L_law_225 : decode code 225 = .ok (.iload 4, 2) := by decide +kernel
theorem d_L_law_227 : decode code 227 = .ok (.iconst 4, 1) := by decide +kernel
theorem d_L_law_228 : decode code 228 = .ok (.iadd, 1) := by decide +kernel
theorem d_L_law_229 : decode code 229 = .ok (.iaload, 1) := by decide +kernel
theorem d_L_law_230 : decode code 230 = .ok (.aload_n 0, 1) := by decide +kernel
theorem d_L_law_231 : decode code 231 = .ok (.iload 4, 2) := by decide +kernel
theorem d_L_law_233 : decode code 233 = .ok (.iconst 5, 1) := by decide +kernel
theorem d_L_law_234 : decode code 234 = .ok (.iadd, 1) := by decide +kernel
theorem d_L_law_235 : decode code 235 = .ok (.iaload, 1) := by decide +kernel
theorem d_L_law_236 : decode code 236 = .ok (.invokevirtual 76, 3) := by decide +kernel
theorem d_L_law_239 : decode code 239 = .ok (.istore 6, 2) := by decide +kernel
theorem d_L_law_241 : decode code 241 = .ok (.aload_n 2, 1) := by decide +kernel
theorem d_L_law_242 : decode code 242 = .ok (.invokevirtual 70, 3) := by decide +kernel
theorem d_L_law_245 : decode code 245 = .ok (.iload 5, 2) := by decide +kernel
theorem d_L_law_247 : decode code 247 = .ok (.if_icmp .eq 5, 3) := by decide +kernel
theorem d_L_law_252 : decode code 252 = .ok (.iload 5, 2) := by decide +kernel
theorem d_L_law_254 : decode code 254 = .ok (.ifCond .ne 15, 3) := by decide +kernel
theorem d_L_law_257 : decode code 257 = .ok (.aload_n 3, 1) := by decide +kernel
theorem d_L_law_258 : decode code 258 = .ok (.iconst 0, 1) := by decide +kernel
theorem d_L_law_259 : decode code 259 = .ok (.laload, 1) := by decide +kernel
theorem d_L_law_260 : decode code 260 = .ok (.iload 6, 2) := by decide +kernel
theorem d_L_law_262 : decode code 262 = .ok (.i2l, 1) := by decide +kernel
theorem d_L_law_263 : decode code 263 = .ok (.lcmp, 1) := by decide +kernel
theorem d_L_law_264 : decode code 264 = .ok (.ifCond .eq 5, 3) := by decide +kernel
theorem d_L_law_269 : decode code 269 = .ok (.goto 724, 3) := by decide +kernel
theorem d_L_law_272 : decode code 272 = .ok (.aload_n 1, 1) := by decide +kernel
theorem d_L_law_273 : decode code 273 = .ok (.aload_n 0, 1) := by decide +kernel
theorem d_L_law_274 : decode code 274 = .ok (.iload 4, 2) := by decide +kernel
theorem d_L_law_276 : decode code 276 = .ok (.iconst 1, 1) := by decide +kernel
theorem d_L_law_277 : decode code 277 = .ok (.iadd, 1) := by decide +kernel
theorem d_L_law_278 : decode code 278 = .ok (.iaload, 1) := by decide +kernel
theorem d_L_law_279 : decode code 279 = .ok (.aload_n 0, 1) := by decide +kernel
theorem d_L_law_280 : decode code 280 = .ok (.iload 4, 2) := by decide +kernel
theorem d_L_law_282 : decode code 282 = .ok (.iconst 2, 1) := by decide +kernel
theorem d_L_law_283 : decode code 283 = .ok (.iadd, 1) := by decide +kernel
theorem d_L_law_284 : decode code 284 = .ok (.iaload, 1) := by decide +kernel
theorem d_L_law_285 : decode code 285 = .ok (.invokestatic 77, 3) := by decide +kernel
theorem d_L_law_288 : decode code 288 = .ok (.istore 5, 2) := by decide +kernel
theorem d_L_law_290 : decode code 290 = .ok (.aload_n 2, 1) := by decide +kernel
theorem d_L_law_291 : decode code 291 = .ok (.aload_n 0, 1) := by decide +kernel
theorem d_L_law_292 : decode code 292 = .ok (.iload 4, 2) := by decide +kernel
theorem d_L_law_294 : decode code 294 = .ok (.iconst 1, 1) := by decide +kernel
theorem d_L_law_295 : decode code 295 = .ok (.iadd, 1) := by decide +kernel
theorem d_L_law_296 : decode code 296 = .ok (.iaload, 1) := by decide +kernel
theorem d_L_law_297 : decode code 297 = .ok (.aload_n 0, 1) := by decide +kernel
theorem d_L_law_298 : decode code 298 = .ok (.iload 4, 2) := by decide +kernel
theorem d_L_law_300 : decode code 300 = .ok (.iconst 2, 1) := by decide +kernel
theorem d_L_law_301 : decode code 301 = .ok (.iadd, 1) := by decide +kernel
theorem d_L_law_302 : decode code 302 = .ok (.iaload, 1) := by decide +kernel
theorem d_L_law_303 : decode code 303 = .ok (.invokevirtual 80, 3) := by decide +kernel
theorem d_L_law_306 : decode code 306 = .ok (.aload_n 2, 1) := by decide +kernel
theorem d_L_law_307 : decode code 307 = .ok (.invokevirtual 70, 3) := by decide +kernel
theorem d_L_law_310 : decode code 310 = .ok (.iload 5, 2) := by decide +kernel
theorem d_L_law_312 : decode code 312 = .ok (.if_icmp .eq 5, 3) := by decide +kernel
theorem d_L_law_317 : decode code 317 = .ok (.goto 676, 3) := by decide +kernel
theorem d_L_law_320 : decode code 320 = .ok (.aload_n 1, 1) := by decide +kernel
theorem d_L_law_321 : decode code 321 = .ok (.aload_n 0, 1) := by decide +kernel
theorem d_L_law_322 : decode code 322 = .ok (.iload 4, 2) := by decide +kernel
theorem d_L_law_324 : decode code 324 = .ok (.iconst 1, 1) := by decide +kernel
theorem d_L_law_325 : decode code 325 = .ok (.iadd, 1) := by decide +kernel
theorem d_L_law_326 : decode code 326 = .ok (.iaload, 1) := by decide +kernel
theorem d_L_law_327 : decode code 327 = .ok (.aload_n 0, 1) := by decide +kernel
theorem d_L_law_328 : decode code 328 = .ok (.iload 4, 2) := by decide +kernel
theorem d_L_law_330 : decode code 330 = .ok (.iconst 2, 1) := by decide +kernel
theorem d_L_law_331 : decode code 331 = .ok (.iadd, 1) := by decide +kernel
theorem d_L_law_332 : decode code 332 = .ok (.iaload, 1) := by decide +kernel
theorem d_L_law_333 : decode code 333 = .ok (.aload_n 0, 1) := by decide +kernel
theorem d_L_law_334 : decode code 334 = .ok (.iload 4, 2) := by decide +kernel
theorem d_L_law_336 : decode code 336 = .ok (.iconst 3, 1) := by decide +kernel
theorem d_L_law_337 : decode code 337 = .ok (.iadd, 1) := by decide +kernel
theorem d_L_law_338 : decode code 338 = .ok (.iaload, 1) := by decide +kernel
theorem d_L_law_339 : decode code 339 = .ok (.aload_n 0, 1) := by decide +kernel
theorem d_L_law_340 : decode code 340 = .ok (.iload 4, 2) := by decide +kernel
theorem d_L_law_342 : decode code 342 = .ok (.iconst 4, 1) := by decide +kernel
theorem d_L_law_343 : decode code 343 = .ok (.iadd, 1) := by decide +kernel
theorem d_L_law_344 : decode code 344 = .ok (.iaload, 1) := by decide +kernel
theorem d_L_law_345 : decode code 345 = .ok (.invokestatic 81, 3) := by decide +kernel
theorem d_L_law_348 : decode code 348 = .ok (.istore 5, 2) := by decide +kernel
theorem d_L_law_350 : decode code 350 = .ok (.aload_n 2, 1) := by decide +kernel
theorem d_L_law_351 : decode code 351 = .ok (.aload_n 0, 1) := by decide +kernel
theorem d_L_law_352 : decode code 352 = .ok (.iload 4, 2) := by decide +kernel
theorem d_L_law_354 : decode code 354 = .ok (.iconst 1, 1) := by decide +kernel
theorem d_L_law_355 : decode code 355 = .ok (.iadd, 1) := by decide +kernel
theorem d_L_law_356 : decode code 356 = .ok (.iaload, 1) := by decide +kernel
theorem d_L_law_357 : decode code 357 = .ok (.aload_n 0, 1) := by decide +kernel
theorem d_L_law_358 : decode code 358 = .ok (.iload 4, 2) := by decide +kernel
theorem d_L_law_360 : decode code 360 = .ok (.iconst 2, 1) := by decide +kernel
theorem d_L_law_361 : decode code 361 = .ok (.iadd, 1) := by decide +kernel
theorem d_L_law_362 : decode code 362 = .ok (.iaload, 1) := by decide +kernel
theorem d_L_law_363 : decode code 363 = .ok (.aload_n 0, 1) := by decide +kernel
theorem d_L_law_364 : decode code 364 = .ok (.iload 4, 2) := by decide +kernel
theorem d_L_law_366 : decode code 366 = .ok (.iconst 3, 1) := by decide +kernel
theorem d_L_law_367 : decode code 367 = .ok (.iadd, 1) := by decide +kernel
theorem d_L_law_368 : decode code 368 = .ok (.iaload, 1) := by decide +kernel
theorem d_L_law_369 : decode code 369 = .ok (.aload_n 0, 1) := by decide +kernel
theorem d_L_law_370 : decode code 370 = .ok (.iload 4, 2) := by decide +kernel
theorem d_L_law_372 : decode code 372 = .ok (.iconst 4, 1) := by decide +kernel
theorem d_L_law_373 : decode code 373 = .ok (.iadd, 1) := by decide +kernel
theorem d_L_law_374 : decode code 374 = .ok (.iaload, 1) := by decide +kernel
theorem d_L_law_375 : decode code 375 = .ok (.invokevirtual 84, 3) := by decide +kernel
theorem d_L_law_378 : decode code 378 = .ok (.aload_n 2, 1) := by decide +kernel
theorem d_L_law_379 : decode code 379 = .ok (.invokevirtual 70, 3) := by decide +kernel
theorem d_L_law_382 : decode code 382 = .ok (.iload 5, 2) := by decide +kernel
theorem d_L_law_384 : decode code 384 = .ok (.if_icmp .eq 5, 3) := by decide +kernel
theorem d_L_law_389 : decode code 389 = .ok (.goto 604, 3) := by decide +kernel
theorem d_L_law_392 : decode code 392 = .ok (.aload_n 1, 1) := by decide +kernel
theorem d_L_law_393 : decode code 393 = .ok (.aload_n 0, 1) := by decide +kernel
theorem d_L_law_394 : decode code 394 = .ok (.iload 4, 2) := by decide +kernel
theorem d_L_law_396 : decode code 396 = .ok (.iconst 1, 1) := by decide +kernel
theorem d_L_law_397 : decode code 397 = .ok (.iadd, 1) := by decide +kernel
theorem d_L_law_398 : decode code 398 = .ok (.iaload, 1) := by decide +kernel
theorem d_L_law_399 : decode code 399 = .ok (.invokestatic 85, 3) := by decide +kernel
theorem d_L_law_402 : decode code 402 = .ok (.istore 5, 2) := by decide +kernel
theorem d_L_law_404 : decode code 404 = .ok (.aload_n 2, 1) := by decide +kernel
theorem d_L_law_405 : decode code 405 = .ok (.aload_n 0, 1) := by decide +kernel
theorem d_L_law_406 : decode code 406 = .ok (.iload 4, 2) := by decide +kernel
theorem d_L_law_408 : decode code 408 = .ok (.iconst 1, 1) := by decide +kernel
theorem d_L_law_409 : decode code 409 = .ok (.iadd, 1) := by decide +kernel
theorem d_L_law_410 : decode code 410 = .ok (.iaload, 1) := by decide +kernel
theorem d_L_law_411 : decode code 411 = .ok (.invokevirtual 88, 3) := by decide +kernel
theorem d_L_law_414 : decode code 414 = .ok (.aload_n 2, 1) := by decide +kernel
theorem d_L_law_415 : decode code 415 = .ok (.invokevirtual 70, 3) := by decide +kernel
theorem d_L_law_418 : decode code 418 = .ok (.iload 5, 2) := by decide +kernel
theorem d_L_law_420 : decode code 420 = .ok (.if_icmp .eq 5, 3) := by decide +kernel
theorem d_L_law_425 : decode code 425 = .ok (.goto 568, 3) := by decide +kernel
theorem d_L_law_428 : decode code 428 = .ok (.aload_n 1, 1) := by decide +kernel
theorem d_L_law_429 : decode code 429 = .ok (.invokevirtual 89, 3) := by decide +kernel
theorem d_L_law_432 : decode code 432 = .ok (.aload_n 2, 1) := by decide +kernel
theorem d_L_law_433 : decode code 433 = .ok (.invokevirtual 92, 3) := by decide +kernel
theorem d_L_law_436 : decode code 436 = .ok (.goto 557, 3) := by decide +kernel
theorem d_L_law_439 : decode code 439 = .ok (.aload_n 1, 1) := by decide +kernel
theorem d_L_law_440 : decode code 440 = .ok (.aload_n 3, 1) := by decide +kernel
theorem d_L_law_441 : decode code 441 = .ok (.invokestatic 93, 3) := by decide +kernel
theorem d_L_law_444 : decode code 444 = .ok (.istore 5, 2) := by decide +kernel
theorem d_L_law_446 : decode code 446 = .ok (.aload_n 2, 1) := by decide +kernel
theorem d_L_law_447 : decode code 447 = .ok (.invokevirtual 95, 3) := by decide +kernel
theorem d_L_law_450 : decode code 450 = .ok (.istore 6, 2) := by decide +kernel
theorem d_L_law_452 : decode code 452 = .ok (.aload_n 2, 1) := by decide +kernel
theorem d_L_law_453 : decode code 453 = .ok (.invokevirtual 70, 3) := by decide +kernel
theorem d_L_law_456 : decode code 456 = .ok (.iload 5, 2) := by decide +kernel
theorem d_L_law_458 : decode code 458 = .ok (.if_icmp .eq 5, 3) := by decide +kernel
theorem d_L_law_463 : decode code 463 = .ok (.iload 5, 2) := by decide +kernel
theorem d_L_law_465 : decode code 465 = .ok (.ifCond .ne 15, 3) := by decide +kernel
theorem d_L_law_468 : decode code 468 = .ok (.aload_n 3, 1) := by decide +kernel
theorem d_L_law_469 : decode code 469 = .ok (.iconst 0, 1) := by decide +kernel
theorem d_L_law_470 : decode code 470 = .ok (.laload, 1) := by decide +kernel
theorem d_L_law_471 : decode code 471 = .ok (.iload 6, 2) := by decide +kernel
theorem d_L_law_473 : decode code 473 = .ok (.i2l, 1) := by decide +kernel
theorem d_L_law_474 : decode code 474 = .ok (.lcmp, 1) := by decide +kernel
theorem d_L_law_475 : decode code 475 = .ok (.ifCond .eq 5, 3) := by decide +kernel
theorem d_L_law_480 : decode code 480 = .ok (.goto 513, 3) := by decide +kernel
theorem d_L_law_483 : decode code 483 = .ok (.aload_n 1, 1) := by decide +kernel
theorem d_L_law_484 : decode code 484 = .ok (.aload_n 0, 1) := by decide +kernel
theorem d_L_law_485 : decode code 485 = .ok (.iload 4, 2) := by decide +kernel
theorem d_L_law_487 : decode code 487 = .ok (.iconst 1, 1) := by decide +kernel
theorem d_L_law_488 : decode code 488 = .ok (.iadd, 1) := by decide +kernel
theorem d_L_law_489 : decode code 489 = .ok (.iaload, 1) := by decide +kernel
theorem d_L_law_490 : decode code 490 = .ok (.aload_n 0, 1) := by decide +kernel
theorem d_L_law_491 : decode code 491 = .ok (.iload 4, 2) := by decide +kernel
theorem d_L_law_493 : decode code 493 = .ok (.iconst 2, 1) := by decide +kernel
theorem d_L_law_494 : decode code 494 = .ok (.iadd, 1) := by decide +kernel
theorem d_L_law_495 : decode code 495 = .ok (.iaload, 1) := by decide +kernel
theorem d_L_law_496 : decode code 496 = .ok (.aload_n 3, 1) := by decide +kernel
theorem d_L_law_497 : decode code 497 = .ok (.invokestatic 96, 3) := by decide +kernel
theorem d_L_law_500 : decode code 500 = .ok (.istore 5, 2) := by decide +kernel
theorem d_L_law_502 : decode code 502 = .ok (.aload_n 2, 1) := by decide +kernel
theorem d_L_law_503 : decode code 503 = .ok (.aload_n 0, 1) := by decide +kernel
theorem d_L_law_504 : decode code 504 = .ok (.iload 4, 2) := by decide +kernel
theorem d_L_law_506 : decode code 506 = .ok (.iconst 1, 1) := by decide +kernel
theorem d_L_law_507 : decode code 507 = .ok (.iadd, 1) := by decide +kernel
theorem d_L_law_508 : decode code 508 = .ok (.iaload, 1) := by decide +kernel
theorem d_L_law_509 : decode code 509 = .ok (.aload_n 0, 1) := by decide +kernel
theorem d_L_law_510 : decode code 510 = .ok (.iload 4, 2) := by decide +kernel
theorem d_L_law_512 : decode code 512 = .ok (.iconst 2, 1) := by decide +kernel
theorem d_L_law_513 : decode code 513 = .ok (.iadd, 1) := by decide +kernel
theorem d_L_law_514 : decode code 514 = .ok (.iaload, 1) := by decide +kernel
theorem d_L_law_515 : decode code 515 = .ok (.invokevirtual 99, 3) := by decide +kernel
theorem d_L_law_518 : decode code 518 = .ok (.istore 6, 2) := by decide +kernel
theorem d_L_law_520 : decode code 520 = .ok (.aload_n 2, 1) := by decide +kernel
theorem d_L_law_521 : decode code 521 = .ok (.invokevirtual 70, 3) := by decide +kernel
theorem d_L_law_524 : decode code 524 = .ok (.iload 5, 2) := by decide +kernel
theorem d_L_law_526 : decode code 526 = .ok (.if_icmp .eq 5, 3) := by decide +kernel
theorem d_L_law_531 : decode code 531 = .ok (.iload 5, 2) := by decide +kernel
theorem d_L_law_533 : decode code 533 = .ok (.ifCond .ne 15, 3) := by decide +kernel
theorem d_L_law_536 : decode code 536 = .ok (.aload_n 3, 1) := by decide +kernel
theorem d_L_law_537 : decode code 537 = .ok (.iconst 0, 1) := by decide +kernel
theorem d_L_law_538 : decode code 538 = .ok (.laload, 1) := by decide +kernel
theorem d_L_law_539 : decode code 539 = .ok (.iload 6, 2) := by decide +kernel
theorem d_L_law_541 : decode code 541 = .ok (.i2l, 1) := by decide +kernel
theorem d_L_law_542 : decode code 542 = .ok (.lcmp, 1) := by decide +kernel
theorem d_L_law_543 : decode code 543 = .ok (.ifCond .eq 5, 3) := by decide +kernel
theorem d_L_law_548 : decode code 548 = .ok (.goto 445, 3) := by decide +kernel
theorem d_L_law_551 : decode code 551 = .ok (.aload_n 1, 1) := by decide +kernel
theorem d_L_law_552 : decode code 552 = .ok (.aload_n 0, 1) := by decide +kernel
theorem d_L_law_553 : decode code 553 = .ok (.iload 4, 2) := by decide +kernel
theorem d_L_law_555 : decode code 555 = .ok (.iconst 1, 1) := by decide +kernel
theorem d_L_law_556 : decode code 556 = .ok (.iadd, 1) := by decide +kernel
theorem d_L_law_557 : decode code 557 = .ok (.iaload, 1) := by decide +kernel
theorem d_L_law_558 : decode code 558 = .ok (.aload_n 0, 1) := by decide +kernel
theorem d_L_law_559 : decode code 559 = .ok (.iload 4, 2) := by decide +kernel
theorem d_L_law_561 : decode code 561 = .ok (.iconst 2, 1) := by decide +kernel
theorem d_L_law_562 : decode code 562 = .ok (.iadd, 1) := by decide +kernel
theorem d_L_law_563 : decode code 563 = .ok (.iaload, 1) := by decide +kernel
theorem d_L_law_564 : decode code 564 = .ok (.aload_n 0, 1) := by decide +kernel
theorem d_L_law_565 : decode code 565 = .ok (.iload 4, 2) := by decide +kernel
theorem d_L_law_567 : decode code 567 = .ok (.iconst 3, 1) := by decide +kernel
theorem d_L_law_568 : decode code 568 = .ok (.iadd, 1) := by decide +kernel
theorem d_L_law_569 : decode code 569 = .ok (.iaload, 1) := by decide +kernel
theorem d_L_law_570 : decode code 570 = .ok (.aload_n 3, 1) := by decide +kernel
theorem d_L_law_571 : decode code 571 = .ok (.invokestatic 100, 3) := by decide +kernel
theorem d_L_law_574 : decode code 574 = .ok (.istore 5, 2) := by decide +kernel
theorem d_L_law_576 : decode code 576 = .ok (.aload_n 2, 1) := by decide +kernel
theorem d_L_law_577 : decode code 577 = .ok (.aload_n 0, 1) := by decide +kernel
theorem d_L_law_578 : decode code 578 = .ok (.iload 4, 2) := by decide +kernel
theorem d_L_law_580 : decode code 580 = .ok (.iconst 1, 1) := by decide +kernel
theorem d_L_law_581 : decode code 581 = .ok (.iadd, 1) := by decide +kernel
theorem d_L_law_582 : decode code 582 = .ok (.iaload, 1) := by decide +kernel
theorem d_L_law_583 : decode code 583 = .ok (.aload_n 0, 1) := by decide +kernel
theorem d_L_law_584 : decode code 584 = .ok (.iload 4, 2) := by decide +kernel
theorem d_L_law_586 : decode code 586 = .ok (.iconst 2, 1) := by decide +kernel
theorem d_L_law_587 : decode code 587 = .ok (.iadd, 1) := by decide +kernel
theorem d_L_law_588 : decode code 588 = .ok (.iaload, 1) := by decide +kernel
theorem d_L_law_589 : decode code 589 = .ok (.aload_n 0, 1) := by decide +kernel
theorem d_L_law_590 : decode code 590 = .ok (.iload 4, 2) := by decide +kernel
theorem d_L_law_592 : decode code 592 = .ok (.iconst 3, 1) := by decide +kernel
theorem d_L_law_593 : decode code 593 = .ok (.iadd, 1) := by decide +kernel
theorem d_L_law_594 : decode code 594 = .ok (.iaload, 1) := by decide +kernel
theorem d_L_law_595 : decode code 595 = .ok (.invokevirtual 103, 3) := by decide +kernel
theorem d_L_law_598 : decode code 598 = .ok (.istore 6, 2) := by decide +kernel
theorem d_L_law_600 : decode code 600 = .ok (.aload_n 2, 1) := by decide +kernel
theorem d_L_law_601 : decode code 601 = .ok (.invokevirtual 70, 3) := by decide +kernel
theorem d_L_law_604 : decode code 604 = .ok (.iload 5, 2) := by decide +kernel
theorem d_L_law_606 : decode code 606 = .ok (.if_icmp .eq 5, 3) := by decide +kernel
theorem d_L_law_611 : decode code 611 = .ok (.iload 5, 2) := by decide +kernel
theorem d_L_law_613 : decode code 613 = .ok (.ifCond .ne 15, 3) := by decide +kernel
theorem d_L_law_616 : decode code 616 = .ok (.aload_n 3, 1) := by decide +kernel
theorem d_L_law_617 : decode code 617 = .ok (.iconst 0, 1) := by decide +kernel
theorem d_L_law_618 : decode code 618 = .ok (.laload, 1) := by decide +kernel
theorem d_L_law_619 : decode code 619 = .ok (.iload 6, 2) := by decide +kernel
theorem d_L_law_621 : decode code 621 = .ok (.i2l, 1) := by decide +kernel
theorem d_L_law_622 : decode code 622 = .ok (.lcmp, 1) := by decide +kernel
theorem d_L_law_623 : decode code 623 = .ok (.ifCond .eq 5, 3) := by decide +kernel
theorem d_L_law_628 : decode code 628 = .ok (.goto 365, 3) := by decide +kernel
theorem d_L_law_631 : decode code 631 = .ok (.aload_n 1, 1) := by decide +kernel
theorem d_L_law_632 : decode code 632 = .ok (.aload_n 0, 1) := by decide +kernel
theorem d_L_law_633 : decode code 633 = .ok (.iload 4, 2) := by decide +kernel
theorem d_L_law_635 : decode code 635 = .ok (.iconst 1, 1) := by decide +kernel
theorem d_L_law_636 : decode code 636 = .ok (.iadd, 1) := by decide +kernel
theorem d_L_law_637 : decode code 637 = .ok (.iaload, 1) := by decide +kernel
theorem d_L_law_638 : decode code 638 = .ok (.aload_n 0, 1) := by decide +kernel
theorem d_L_law_639 : decode code 639 = .ok (.iload 4, 2) := by decide +kernel
theorem d_L_law_641 : decode code 641 = .ok (.iconst 2, 1) := by decide +kernel
theorem d_L_law_642 : decode code 642 = .ok (.iadd, 1) := by decide +kernel
theorem d_L_law_643 : decode code 643 = .ok (.iaload, 1) := by decide +kernel
theorem d_L_law_644 : decode code 644 = .ok (.aload_n 0, 1) := by decide +kernel
theorem d_L_law_645 : decode code 645 = .ok (.iload 4, 2) := by decide +kernel
theorem d_L_law_647 : decode code 647 = .ok (.iconst 3, 1) := by decide +kernel
theorem d_L_law_648 : decode code 648 = .ok (.iadd, 1) := by decide +kernel
theorem d_L_law_649 : decode code 649 = .ok (.iaload, 1) := by decide +kernel
theorem d_L_law_650 : decode code 650 = .ok (.aload_n 3, 1) := by decide +kernel
theorem d_L_law_651 : decode code 651 = .ok (.invokestatic 104, 3) := by decide +kernel
theorem d_L_law_654 : decode code 654 = .ok (.istore 5, 2) := by decide +kernel
theorem d_L_law_656 : decode code 656 = .ok (.aload_n 2, 1) := by decide +kernel
theorem d_L_law_657 : decode code 657 = .ok (.aload_n 0, 1) := by decide +kernel
theorem d_L_law_658 : decode code 658 = .ok (.iload 4, 2) := by decide +kernel
theorem d_L_law_660 : decode code 660 = .ok (.iconst 1, 1) := by decide +kernel
theorem d_L_law_661 : decode code 661 = .ok (.iadd, 1) := by decide +kernel
theorem d_L_law_662 : decode code 662 = .ok (.iaload, 1) := by decide +kernel
theorem d_L_law_663 : decode code 663 = .ok (.aload_n 0, 1) := by decide +kernel
theorem d_L_law_664 : decode code 664 = .ok (.iload 4, 2) := by decide +kernel
theorem d_L_law_666 : decode code 666 = .ok (.iconst 2, 1) := by decide +kernel
theorem d_L_law_667 : decode code 667 = .ok (.iadd, 1) := by decide +kernel
theorem d_L_law_668 : decode code 668 = .ok (.iaload, 1) := by decide +kernel
theorem d_L_law_669 : decode code 669 = .ok (.aload_n 0, 1) := by decide +kernel
theorem d_L_law_670 : decode code 670 = .ok (.iload 4, 2) := by decide +kernel
theorem d_L_law_672 : decode code 672 = .ok (.iconst 3, 1) := by decide +kernel
theorem d_L_law_673 : decode code 673 = .ok (.iadd, 1) := by decide +kernel
theorem d_L_law_674 : decode code 674 = .ok (.iaload, 1) := by decide +kernel
theorem d_L_law_675 : decode code 675 = .ok (.invokevirtual 106, 3) := by decide +kernel
theorem d_L_law_678 : decode code 678 = .ok (.istore 6, 2) := by decide +kernel
theorem d_L_law_680 : decode code 680 = .ok (.aload_n 2, 1) := by decide +kernel
theorem d_L_law_681 : decode code 681 = .ok (.invokevirtual 70, 3) := by decide +kernel
theorem d_L_law_684 : decode code 684 = .ok (.iload 5, 2) := by decide +kernel
theorem d_L_law_686 : decode code 686 = .ok (.if_icmp .eq 5, 3) := by decide +kernel
theorem d_L_law_691 : decode code 691 = .ok (.iload 5, 2) := by decide +kernel
theorem d_L_law_693 : decode code 693 = .ok (.ifCond .ne 15, 3) := by decide +kernel
theorem d_L_law_696 : decode code 696 = .ok (.aload_n 3, 1) := by decide +kernel
theorem d_L_law_697 : decode code 697 = .ok (.iconst 0, 1) := by decide +kernel
theorem d_L_law_698 : decode code 698 = .ok (.laload, 1) := by decide +kernel
theorem d_L_law_699 : decode code 699 = .ok (.iload 6, 2) := by decide +kernel
theorem d_L_law_701 : decode code 701 = .ok (.i2l, 1) := by decide +kernel
theorem d_L_law_702 : decode code 702 = .ok (.lcmp, 1) := by decide +kernel
theorem d_L_law_703 : decode code 703 = .ok (.ifCond .eq 5, 3) := by decide +kernel
theorem d_L_law_708 : decode code 708 = .ok (.goto 285, 3) := by decide +kernel
theorem d_L_law_711 : decode code 711 = .ok (.aload_n 1, 1) := by decide +kernel
theorem d_L_law_712 : decode code 712 = .ok (.aload_n 0, 1) := by decide +kernel
theorem d_L_law_713 : decode code 713 = .ok (.iload 4, 2) := by decide +kernel
theorem d_L_law_715 : decode code 715 = .ok (.iconst 1, 1) := by decide +kernel
theorem d_L_law_716 : decode code 716 = .ok (.iadd, 1) := by decide +kernel
theorem d_L_law_717 : decode code 717 = .ok (.iaload, 1) := by decide +kernel
theorem d_L_law_718 : decode code 718 = .ok (.aload_n 0, 1) := by decide +kernel
theorem d_L_law_719 : decode code 719 = .ok (.iload 4, 2) := by decide +kernel
theorem d_L_law_721 : decode code 721 = .ok (.iconst 2, 1) := by decide +kernel
theorem d_L_law_722 : decode code 722 = .ok (.iadd, 1) := by decide +kernel
theorem d_L_law_723 : decode code 723 = .ok (.iaload, 1) := by decide +kernel
theorem d_L_law_724 : decode code 724 = .ok (.aload_n 3, 1) := by decide +kernel
theorem d_L_law_725 : decode code 725 = .ok (.invokestatic 107, 3) := by decide +kernel
theorem d_L_law_728 : decode code 728 = .ok (.istore 5, 2) := by decide +kernel
theorem d_L_law_730 : decode code 730 = .ok (.aload_n 2, 1) := by decide +kernel
theorem d_L_law_731 : decode code 731 = .ok (.aload_n 0, 1) := by decide +kernel
theorem d_L_law_732 : decode code 732 = .ok (.iload 4, 2) := by decide +kernel
theorem d_L_law_734 : decode code 734 = .ok (.iconst 1, 1) := by decide +kernel
theorem d_L_law_735 : decode code 735 = .ok (.iadd, 1) := by decide +kernel
theorem d_L_law_736 : decode code 736 = .ok (.iaload, 1) := by decide +kernel
theorem d_L_law_737 : decode code 737 = .ok (.aload_n 0, 1) := by decide +kernel
theorem d_L_law_738 : decode code 738 = .ok (.iload 4, 2) := by decide +kernel
theorem d_L_law_740 : decode code 740 = .ok (.iconst 2, 1) := by decide +kernel
theorem d_L_law_741 : decode code 741 = .ok (.iadd, 1) := by decide +kernel
theorem d_L_law_742 : decode code 742 = .ok (.iaload, 1) := by decide +kernel
theorem d_L_law_743 : decode code 743 = .ok (.invokevirtual 109, 3) := by decide +kernel
theorem d_L_law_746 : decode code 746 = .ok (.istore 6, 2) := by decide +kernel
theorem d_L_law_748 : decode code 748 = .ok (.aload_n 2, 1) := by decide +kernel
theorem d_L_law_749 : decode code 749 = .ok (.invokevirtual 70, 3) := by decide +kernel
theorem d_L_law_752 : decode code 752 = .ok (.iload 5, 2) := by decide +kernel
theorem d_L_law_754 : decode code 754 = .ok (.if_icmp .eq 5, 3) := by decide +kernel
theorem d_L_law_759 : decode code 759 = .ok (.iload 5, 2) := by decide +kernel
theorem d_L_law_761 : decode code 761 = .ok (.ifCond .ne 15, 3) := by decide +kernel
theorem d_L_law_764 : decode code 764 = .ok (.aload_n 3, 1) := by decide +kernel
theorem d_L_law_765 : decode code 765 = .ok (.iconst 0, 1) := by decide +kernel
theorem d_L_law_766 : decode code 766 = .ok (.laload, 1) := by decide +kernel
theorem d_L_law_767 : decode code 767 = .ok (.iload 6, 2) := by decide +kernel
theorem d_L_law_769 : decode code 769 = .ok (.i2l, 1) := by decide +kernel
theorem d_L_law_770 : decode code 770 = .ok (.lcmp, 1) := by decide +kernel
theorem d_L_law_771 : decode code 771 = .ok (.ifCond .eq 5, 3) := by decide +kernel
theorem d_L_law_776 : decode code 776 = .ok (.goto 217, 3) := by decide +kernel
theorem d_L_law_779 : decode code 779 = .ok (.aload_n 1, 1) := by decide +kernel
theorem d_L_law_780 : decode code 780 = .ok (.aload_n 0, 1) := by decide +kernel
theorem d_L_law_781 : decode code 781 = .ok (.iload 4, 2) := by decide +kernel
theorem d_L_law_783 : decode code 783 = .ok (.iconst 1, 1) := by decide +kernel
theorem d_L_law_784 : decode code 784 = .ok (.iadd, 1) := by decide +kernel
theorem d_L_law_785 : decode code 785 = .ok (.iaload, 1) := by decide +kernel
theorem d_L_law_786 : decode code 786 = .ok (.invokevirtual 110, 3) := by decide +kernel
theorem d_L_law_789 : decode code 789 = .ok (.aload_n 2, 1) := by decide +kernel
theorem d_L_law_790 : decode code 790 = .ok (.aload_n 0, 1) := by decide +kernel
theorem d_L_law_791 : decode code 791 = .ok (.iload 4, 2) := by decide +kernel
theorem d_L_law_793 : decode code 793 = .ok (.iconst 1, 1) := by decide +kernel
theorem d_L_law_794 : decode code 794 = .ok (.iadd, 1) := by decide +kernel
theorem d_L_law_795 : decode code 795 = .ok (.iaload, 1) := by decide +kernel
theorem d_L_law_796 : decode code 796 = .ok (.invokevirtual 114, 3) := by decide +kernel
theorem d_L_law_799 : decode code 799 = .ok (.if_icmp .eq 194, 3) := by decide +kernel
theorem d_L_law_804 : decode code 804 = .ok (.aload_n 1, 1) := by decide +kernel
theorem d_L_law_805 : decode code 805 = .ok (.invokevirtual 115, 3) := by decide +kernel
theorem d_L_law_808 : decode code 808 = .ok (.aload_n 2, 1) := by decide +kernel
theorem d_L_law_809 : decode code 809 = .ok (.invokevirtual 118, 3) := by decide +kernel
theorem d_L_law_812 : decode code 812 = .ok (.goto 181, 3) := by decide +kernel
theorem d_L_law_815 : decode code 815 = .ok (.aload_n 1, 1) := by decide +kernel
theorem d_L_law_816 : decode code 816 = .ok (.aload_n 0, 1) := by decide +kernel
theorem d_L_law_817 : decode code 817 = .ok (.iload 4, 2) := by decide +kernel
theorem d_L_law_819 : decode code 819 = .ok (.iconst 1, 1) := by decide +kernel
theorem d_L_law_820 : decode code 820 = .ok (.iadd, 1) := by decide +kernel
theorem d_L_law_821 : decode code 821 = .ok (.iaload, 1) := by decide +kernel
theorem d_L_law_822 : decode code 822 = .ok (.ifCond .eq 7, 3) := by decide +kernel
theorem d_L_law_825 : decode code 825 = .ok (.iconst 1, 1) := by decide +kernel
theorem d_L_law_826 : decode code 826 = .ok (.goto 4, 3) := by decide +kernel
theorem d_L_law_829 : decode code 829 = .ok (.iconst 0, 1) := by decide +kernel
theorem d_L_law_830 : decode code 830 = .ok (.aload_n 0, 1) := by decide +kernel
theorem d_L_law_831 : decode code 831 = .ok (.iload 4, 2) := by decide +kernel
theorem d_L_law_833 : decode code 833 = .ok (.iconst 2, 1) := by decide +kernel
theorem d_L_law_834 : decode code 834 = .ok (.iadd, 1) := by decide +kernel
theorem d_L_law_835 : decode code 835 = .ok (.iaload, 1) := by decide +kernel
theorem d_L_law_836 : decode code 836 = .ok (.aload_n 3, 1) := by decide +kernel
theorem d_L_law_837 : decode code 837 = .ok (.invokestatic 119, 3) := by decide +kernel
theorem d_L_law_840 : decode code 840 = .ok (.istore 5, 2) := by decide +kernel
theorem d_L_law_842 : decode code 842 = .ok (.aload_n 2, 1) := by decide +kernel
theorem d_L_law_843 : decode code 843 = .ok (.aload_n 0, 1) := by decide +kernel
theorem d_L_law_844 : decode code 844 = .ok (.iload 4, 2) := by decide +kernel
theorem d_L_law_846 : decode code 846 = .ok (.iconst 1, 1) := by decide +kernel
theorem d_L_law_847 : decode code 847 = .ok (.iadd, 1) := by decide +kernel
theorem d_L_law_848 : decode code 848 = .ok (.iaload, 1) := by decide +kernel
theorem d_L_law_849 : decode code 849 = .ok (.ifCond .eq 7, 3) := by decide +kernel
theorem d_L_law_852 : decode code 852 = .ok (.iconst 1, 1) := by decide +kernel
theorem d_L_law_853 : decode code 853 = .ok (.goto 4, 3) := by decide +kernel
theorem d_L_law_856 : decode code 856 = .ok (.iconst 0, 1) := by decide +kernel
theorem d_L_law_857 : decode code 857 = .ok (.aload_n 0, 1) := by decide +kernel
theorem d_L_law_858 : decode code 858 = .ok (.iload 4, 2) := by decide +kernel
theorem d_L_law_860 : decode code 860 = .ok (.iconst 2, 1) := by decide +kernel
theorem d_L_law_861 : decode code 861 = .ok (.iadd, 1) := by decide +kernel
theorem d_L_law_862 : decode code 862 = .ok (.iaload, 1) := by decide +kernel
theorem d_L_law_863 : decode code 863 = .ok (.invokevirtual 122, 3) := by decide +kernel
theorem d_L_law_866 : decode code 866 = .ok (.istore 6, 2) := by decide +kernel
theorem d_L_law_868 : decode code 868 = .ok (.aload_n 2, 1) := by decide +kernel
theorem d_L_law_869 : decode code 869 = .ok (.invokevirtual 70, 3) := by decide +kernel
theorem d_L_law_872 : decode code 872 = .ok (.iload 5, 2) := by decide +kernel
theorem d_L_law_874 : decode code 874 = .ok (.if_icmp .eq 5, 3) := by decide +kernel
theorem d_L_law_879 : decode code 879 = .ok (.iload 5, 2) := by decide +kernel
theorem d_L_law_881 : decode code 881 = .ok (.ifCond .ne 15, 3) := by decide +kernel
theorem d_L_law_884 : decode code 884 = .ok (.aload_n 3, 1) := by decide +kernel
theorem d_L_law_885 : decode code 885 = .ok (.iconst 0, 1) := by decide +kernel
theorem d_L_law_886 : decode code 886 = .ok (.laload, 1) := by decide +kernel
theorem d_L_law_887 : decode code 887 = .ok (.iload 6, 2) := by decide +kernel
theorem d_L_law_889 : decode code 889 = .ok (.i2l, 1) := by decide +kernel
theorem d_L_law_890 : decode code 890 = .ok (.lcmp, 1) := by decide +kernel
theorem d_L_law_891 : decode code 891 = .ok (.ifCond .eq 5, 3) := by decide +kernel
theorem d_L_law_896 : decode code 896 = .ok (.goto 97, 3) := by decide +kernel
theorem d_L_law_899 : decode code 899 = .ok (.aload_n 1, 1) := by decide +kernel
theorem d_L_law_900 : decode code 900 = .ok (.invokevirtual 123, 3) := by decide +kernel
theorem d_L_law_903 : decode code 903 = .ok (.aload_n 2, 1) := by decide +kernel
theorem d_L_law_904 : decode code 904 = .ok (.invokevirtual 126, 3) := by decide +kernel
theorem d_L_law_907 : decode code 907 = .ok (.if_icmp .eq 86, 3) := by decide +kernel
theorem d_L_law_912 : decode code 912 = .ok (.aload_n 1, 1) := by decide +kernel
theorem d_L_law_913 : decode code 913 = .ok (.aload_n 0, 1) := by decide +kernel
theorem d_L_law_914 : decode code 914 = .ok (.iload 4, 2) := by decide +kernel
theorem d_L_law_916 : decode code 916 = .ok (.iconst 1, 1) := by decide +kernel
theorem d_L_law_917 : decode code 917 = .ok (.iadd, 1) := by decide +kernel
theorem d_L_law_918 : decode code 918 = .ok (.iaload, 1) := by decide +kernel
theorem d_L_law_919 : decode code 919 = .ok (.aload_n 3, 1) := by decide +kernel
theorem d_L_law_920 : decode code 920 = .ok (.invokestatic 127, 3) := by decide +kernel
theorem d_L_law_923 : decode code 923 = .ok (.istore 5, 2) := by decide +kernel
theorem d_L_law_925 : decode code 925 = .ok (.aload_n 2, 1) := by decide +kernel
theorem d_L_law_926 : decode code 926 = .ok (.aload_n 0, 1) := by decide +kernel
theorem d_L_law_927 : decode code 927 = .ok (.iload 4, 2) := by decide +kernel
theorem d_L_law_929 : decode code 929 = .ok (.iconst 1, 1) := by decide +kernel
theorem d_L_law_930 : decode code 930 = .ok (.iadd, 1) := by decide +kernel
theorem d_L_law_931 : decode code 931 = .ok (.iaload, 1) := by decide +kernel
theorem d_L_law_932 : decode code 932 = .ok (.invokevirtual 130, 3) := by decide +kernel
theorem d_L_law_935 : decode code 935 = .ok (.istore 6, 2) := by decide +kernel
theorem d_L_law_937 : decode code 937 = .ok (.aload_n 2, 1) := by decide +kernel
theorem d_L_law_938 : decode code 938 = .ok (.invokevirtual 70, 3) := by decide +kernel
theorem d_L_law_941 : decode code 941 = .ok (.iload 5, 2) := by decide +kernel
theorem d_L_law_943 : decode code 943 = .ok (.if_icmp .eq 5, 3) := by decide +kernel
theorem d_L_law_948 : decode code 948 = .ok (.iload 5, 2) := by decide +kernel
theorem d_L_law_950 : decode code 950 = .ok (.ifCond .ne 15, 3) := by decide +kernel
theorem d_L_law_953 : decode code 953 = .ok (.aload_n 3, 1) := by decide +kernel
theorem d_L_law_954 : decode code 954 = .ok (.iconst 0, 1) := by decide +kernel
theorem d_L_law_955 : decode code 955 = .ok (.laload, 1) := by decide +kernel
theorem d_L_law_956 : decode code 956 = .ok (.iload 6, 2) := by decide +kernel
theorem d_L_law_958 : decode code 958 = .ok (.i2l, 1) := by decide +kernel
theorem d_L_law_959 : decode code 959 = .ok (.lcmp, 1) := by decide +kernel
theorem d_L_law_960 : decode code 960 = .ok (.ifCond .eq 5, 3) := by decide +kernel
theorem d_L_law_965 : decode code 965 = .ok (.goto 28, 3) := by decide +kernel
theorem d_L_law_968 : decode code 968 = .ok (.aload_n 1, 1) := by decide +kernel
theorem d_L_law_969 : decode code 969 = .ok (.aload_n 0, 1) := by decide +kernel
theorem d_L_law_970 : decode code 970 = .ok (.iload 4, 2) := by decide +kernel
theorem d_L_law_972 : decode code 972 = .ok (.iconst 1, 1) := by decide +kernel
theorem d_L_law_973 : decode code 973 = .ok (.iadd, 1) := by decide +kernel
theorem d_L_law_974 : decode code 974 = .ok (.iaload, 1) := by decide +kernel
theorem d_L_law_975 : decode code 975 = .ok (.invokevirtual 131, 3) := by decide +kernel
theorem d_L_law_978 : decode code 978 = .ok (.aload_n 2, 1) := by decide +kernel
theorem d_L_law_979 : decode code 979 = .ok (.aload_n 0, 1) := by decide +kernel
theorem d_L_law_980 : decode code 980 = .ok (.iload 4, 2) := by decide +kernel
theorem d_L_law_982 : decode code 982 = .ok (.iconst 1, 1) := by decide +kernel
theorem d_L_law_983 : decode code 983 = .ok (.iadd, 1) := by decide +kernel
theorem d_L_law_984 : decode code 984 = .ok (.iaload, 1) := by decide +kernel
theorem d_L_law_985 : decode code 985 = .ok (.invokevirtual 134, 3) := by decide +kernel
theorem d_L_law_988 : decode code 988 = .ok (.if_icmp .eq 5, 3) := by decide +kernel
theorem d_L_law_993 : decode code 993 = .ok (.iinc 4 6, 3) := by decide +kernel
theorem d_L_law_996 : decode code 996 = .ok (.goto (-973), 3) := by decide +kernel
theorem d_L_law_999 : decode code 999 = .ok (.iconst 1, 1) := by decide +kernel
theorem d_L_law_1000 : decode code 1000 = .ok (.ireturn, 1) := by decide +kernel
