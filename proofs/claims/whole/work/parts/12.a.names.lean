abbrev b_N_init : ByteArray := prog_1_method_1_code
def y_N_init : MethodName := ⟨"NameForge", "<init>", "()V"⟩
abbrev b_R_init : ByteArray := prog_9_method_1_code
def y_R_init : MethodName := ⟨"NameForgeModel", "<init>", "()V"⟩
abbrev b_K_init : ByteArray := prog_2_method_1_code
def y_K_init : MethodName := ⟨"NameForge$Known", "<init>", "(LNameForge$Program;LNameForge$Shape;LNameForge$Naming;)V"⟩
abbrev b_A_init : ByteArray := prog_3_method_1_code
def y_A_init : MethodName := ⟨"NameForge$Machine", "<init>", "(LNameForge$Program;LNameForge$Naming;LNameForge$Known;LNameForge$Needed;)V"⟩
abbrev b_G_init : ByteArray := prog_4_method_1_code
def y_G_init : MethodName := ⟨"NameForge$Naming", "<init>", "(LNameForge$Program;LNameForge$Shape;)V"⟩
abbrev b_D_init : ByteArray := prog_5_method_1_code
def y_D_init : MethodName := ⟨"NameForge$Needed", "<init>", "(LNameForge$Program;LNameForge$Naming;LNameForge$Known;)V"⟩
abbrev b_P_init : ByteArray := prog_6_method_1_code
def y_P_init : MethodName := ⟨"NameForge$Program", "<init>", "()V"⟩
abbrev b_S_init : ByteArray := prog_7_method_1_code
def y_S_init : MethodName := ⟨"NameForge$Shape", "<init>", "(LNameForge$Program;)V"⟩
theorem wd_22 : (.methodLink "NameForge" 3 ⟨"java/lang/Object", "<init>", "()V"⟩ : Cond) ∈ wT := wT_in (tb_0 _ (List.mem_of_getElem? (i := 22) rfl)) rfl
theorem wd_23 : (.instanceMethod ⟨"java/lang/Object", "<init>", "()V"⟩ : Cond) ∈ wT := wT_in (tb_0 _ (List.mem_of_getElem? (i := 23) rfl)) rfl
theorem wd_24 : (.code ⟨"java/lang/Object", "<init>", "()V"⟩ object_method_1_code 1 none : Cond) ∈ wT := wT_in (tb_0 _ (List.mem_of_getElem? (i := 24) rfl)) rfl
theorem wd_25 : (.classLink "NameForge" 9 "NameForge$Program" : Cond) ∈ wT := wT_in (tb_0 _ (List.mem_of_getElem? (i := 25) rfl)) rfl
theorem wd_26 : (.instantiable "NameForge$Program" 10 : Cond) ∈ wT := wT_in (tb_0 _ (List.mem_of_getElem? (i := 26) rfl)) rfl
theorem wd_28 : (.instanceMethod ⟨"NameForge$Program", "<init>", "()V"⟩ : Cond) ∈ wT := wT_in (tb_0 _ (List.mem_of_getElem? (i := 28) rfl)) rfl
theorem wd_29 : (.code ⟨"NameForge$Program", "<init>", "()V"⟩ prog_6_method_1_code 1 none : Cond) ∈ wT := wT_in (tb_0 _ (List.mem_of_getElem? (i := 29) rfl)) rfl
theorem wd_30 : (.methodLink "NameForge$Program" 3 ⟨"java/lang/Object", "<init>", "()V"⟩ : Cond) ∈ wT := wT_in (tb_0 _ (List.mem_of_getElem? (i := 30) rfl)) rfl
theorem wd_31 : (.classLink "NameForge$Program" 15 "[[I" : Cond) ∈ wT := wT_in (tb_0 _ (List.mem_of_getElem? (i := 31) rfl)) rfl
theorem wd_93 : (.arrayClass .int : Cond) ∈ wT := wT_in (tb_0 _ (List.mem_of_getElem? (i := 93) rfl)) rfl
theorem wd_94 : (.classLink "NameForge" 16 "NameForge$Shape" : Cond) ∈ wT := wT_in (tb_0 _ (List.mem_of_getElem? (i := 94) rfl)) rfl
theorem wd_95 : (.instantiable "NameForge$Shape" 9 : Cond) ∈ wT := wT_in (tb_0 _ (List.mem_of_getElem? (i := 95) rfl)) rfl
theorem wd_96 : (.methodLink "NameForge" 18 ⟨"NameForge$Shape", "<init>", "(LNameForge$Program;)V"⟩ : Cond) ∈ wT := wT_in (tb_0 _ (List.mem_of_getElem? (i := 96) rfl)) rfl
theorem wd_97 : (.instanceMethod ⟨"NameForge$Shape", "<init>", "(LNameForge$Program;)V"⟩ : Cond) ∈ wT := wT_in (tb_0 _ (List.mem_of_getElem? (i := 97) rfl)) rfl
theorem wd_98 : (.code ⟨"NameForge$Shape", "<init>", "(LNameForge$Program;)V"⟩ prog_7_method_1_code 2 none : Cond) ∈ wT := wT_in (tb_0 _ (List.mem_of_getElem? (i := 98) rfl)) rfl
theorem wd_99 : (.methodLink "NameForge$Shape" 3 ⟨"java/lang/Object", "<init>", "()V"⟩ : Cond) ∈ wT := wT_in (tb_0 _ (List.mem_of_getElem? (i := 99) rfl)) rfl
theorem wd_137 : (.classLink "NameForge" 25 "NameForge$Naming" : Cond) ∈ wT := wT_in (tb_0 _ (List.mem_of_getElem? (i := 137) rfl)) rfl
theorem wd_138 : (.instantiable "NameForge$Naming" 14 : Cond) ∈ wT := wT_in (tb_0 _ (List.mem_of_getElem? (i := 138) rfl)) rfl
theorem wd_139 : (.methodLink "NameForge" 27 ⟨"NameForge$Naming", "<init>", "(LNameForge$Program;LNameForge$Shape;)V"⟩ : Cond) ∈ wT := wT_in (tb_0 _ (List.mem_of_getElem? (i := 139) rfl)) rfl
theorem wd_140 : (.instanceMethod ⟨"NameForge$Naming", "<init>", "(LNameForge$Program;LNameForge$Shape;)V"⟩ : Cond) ∈ wT := wT_in (tb_0 _ (List.mem_of_getElem? (i := 140) rfl)) rfl
theorem wd_141 : (.code ⟨"NameForge$Naming", "<init>", "(LNameForge$Program;LNameForge$Shape;)V"⟩ prog_4_method_1_code 3 none : Cond) ∈ wT := wT_in (tb_0 _ (List.mem_of_getElem? (i := 141) rfl)) rfl
theorem wd_142 : (.methodLink "NameForge$Naming" 3 ⟨"java/lang/Object", "<init>", "()V"⟩ : Cond) ∈ wT := wT_in (tb_0 _ (List.mem_of_getElem? (i := 142) rfl)) rfl
theorem wd_143 : (.classLink "NameForge$Naming" 18 "[[I" : Cond) ∈ wT := wT_in (tb_0 _ (List.mem_of_getElem? (i := 143) rfl)) rfl
theorem wd_218 : (.classLink "NameForge" 34 "NameForge$Known" : Cond) ∈ wT := wT_in (tb_0 _ (List.mem_of_getElem? (i := 218) rfl)) rfl
theorem wd_219 : (.instantiable "NameForge$Known" 8 : Cond) ∈ wT := wT_in (tb_0 _ (List.mem_of_getElem? (i := 219) rfl)) rfl
theorem wd_220 : (.methodLink "NameForge" 36 ⟨"NameForge$Known", "<init>", "(LNameForge$Program;LNameForge$Shape;LNameForge$Naming;)V"⟩ : Cond) ∈ wT := wT_in (tb_0 _ (List.mem_of_getElem? (i := 220) rfl)) rfl
theorem wd_221 : (.instanceMethod ⟨"NameForge$Known", "<init>", "(LNameForge$Program;LNameForge$Shape;LNameForge$Naming;)V"⟩ : Cond) ∈ wT := wT_in (tb_0 _ (List.mem_of_getElem? (i := 221) rfl)) rfl
theorem wd_222 : (.code ⟨"NameForge$Known", "<init>", "(LNameForge$Program;LNameForge$Shape;LNameForge$Naming;)V"⟩ prog_2_method_1_code 4 none : Cond) ∈ wT := wT_in (tb_0 _ (List.mem_of_getElem? (i := 222) rfl)) rfl
theorem wd_223 : (.methodLink "NameForge$Known" 3 ⟨"java/lang/Object", "<init>", "()V"⟩ : Cond) ∈ wT := wT_in (tb_0 _ (List.mem_of_getElem? (i := 223) rfl)) rfl
theorem wd_256 : (.classLink "NameForge" 43 "NameForge$Needed" : Cond) ∈ wT := wT_in (tb_1 _ (List.mem_of_getElem? (i := 16) rfl)) rfl
theorem wd_257 : (.instantiable "NameForge$Needed" 6 : Cond) ∈ wT := wT_in (tb_1 _ (List.mem_of_getElem? (i := 17) rfl)) rfl
theorem wd_258 : (.methodLink "NameForge" 45 ⟨"NameForge$Needed", "<init>", "(LNameForge$Program;LNameForge$Naming;LNameForge$Known;)V"⟩ : Cond) ∈ wT := wT_in (tb_1 _ (List.mem_of_getElem? (i := 18) rfl)) rfl
theorem wd_259 : (.instanceMethod ⟨"NameForge$Needed", "<init>", "(LNameForge$Program;LNameForge$Naming;LNameForge$Known;)V"⟩ : Cond) ∈ wT := wT_in (tb_1 _ (List.mem_of_getElem? (i := 19) rfl)) rfl
theorem wd_260 : (.code ⟨"NameForge$Needed", "<init>", "(LNameForge$Program;LNameForge$Naming;LNameForge$Known;)V"⟩ prog_5_method_1_code 4 none : Cond) ∈ wT := wT_in (tb_1 _ (List.mem_of_getElem? (i := 20) rfl)) rfl
theorem wd_261 : (.methodLink "NameForge$Needed" 3 ⟨"java/lang/Object", "<init>", "()V"⟩ : Cond) ∈ wT := wT_in (tb_1 _ (List.mem_of_getElem? (i := 21) rfl)) rfl
theorem wd_283 : (.arrayClass .boolean : Cond) ∈ wT := wT_in (tb_1 _ (List.mem_of_getElem? (i := 43) rfl)) rfl
theorem wd_284 : (.classLink "NameForge" 52 "NameForge$Machine" : Cond) ∈ wT := wT_in (tb_1 _ (List.mem_of_getElem? (i := 44) rfl)) rfl
theorem wd_285 : (.instantiable "NameForge$Machine" 14 : Cond) ∈ wT := wT_in (tb_1 _ (List.mem_of_getElem? (i := 45) rfl)) rfl
theorem wd_286 : (.methodLink "NameForge" 54 ⟨"NameForge$Machine", "<init>", "(LNameForge$Program;LNameForge$Naming;LNameForge$Known;LNameForge$Needed;)V"⟩ : Cond) ∈ wT := wT_in (tb_1 _ (List.mem_of_getElem? (i := 46) rfl)) rfl
theorem wd_287 : (.instanceMethod ⟨"NameForge$Machine", "<init>", "(LNameForge$Program;LNameForge$Naming;LNameForge$Known;LNameForge$Needed;)V"⟩ : Cond) ∈ wT := wT_in (tb_1 _ (List.mem_of_getElem? (i := 47) rfl)) rfl
theorem wd_288 : (.code ⟨"NameForge$Machine", "<init>", "(LNameForge$Program;LNameForge$Naming;LNameForge$Known;LNameForge$Needed;)V"⟩ prog_3_method_1_code 5 none : Cond) ∈ wT := wT_in (tb_1 _ (List.mem_of_getElem? (i := 48) rfl)) rfl
theorem wd_289 : (.methodLink "NameForge$Machine" 3 ⟨"java/lang/Object", "<init>", "()V"⟩ : Cond) ∈ wT := wT_in (tb_1 _ (List.mem_of_getElem? (i := 49) rfl)) rfl
theorem wd_827 : (.methodLink "NameForgeModel" 1 ⟨"java/lang/Object", "<init>", "()V"⟩ : Cond) ∈ wT := wT_in (tb_3 _ (List.mem_of_getElem? (i := 107) rfl)) rfl
theorem d_N_init_0 : decode b_N_init 0 = .ok (.aload_n 0, 1) := by decide +kernel
theorem d_N_init_1 : decode b_N_init 1 = .ok (.invokespecial 3, 3) := by decide +kernel
theorem d_N_init_4 : decode b_N_init 4 = .ok (.aload_n 0, 1) := by decide +kernel
theorem d_N_init_5 : decode b_N_init 5 = .ok (.new 9, 3) := by decide +kernel
theorem d_N_init_8 : decode b_N_init 8 = .ok (.dup, 1) := by decide +kernel
theorem d_N_init_9 : decode b_N_init 9 = .ok (.invokespecial 11, 3) := by decide +kernel
theorem d_N_init_12 : decode b_N_init 12 = .ok (.putfield 12, 3) := by decide +kernel
theorem d_N_init_15 : decode b_N_init 15 = .ok (.aload_n 0, 1) := by decide +kernel
theorem d_N_init_16 : decode b_N_init 16 = .ok (.new 16, 3) := by decide +kernel
theorem d_N_init_19 : decode b_N_init 19 = .ok (.dup, 1) := by decide +kernel
theorem d_N_init_20 : decode b_N_init 20 = .ok (.aload_n 0, 1) := by decide +kernel
theorem d_N_init_21 : decode b_N_init 21 = .ok (.getfield 12, 3) := by decide +kernel
theorem d_N_init_24 : decode b_N_init 24 = .ok (.invokespecial 18, 3) := by decide +kernel
theorem d_N_init_27 : decode b_N_init 27 = .ok (.putfield 21, 3) := by decide +kernel
theorem d_N_init_30 : decode b_N_init 30 = .ok (.aload_n 0, 1) := by decide +kernel
theorem d_N_init_31 : decode b_N_init 31 = .ok (.new 25, 3) := by decide +kernel
theorem d_N_init_34 : decode b_N_init 34 = .ok (.dup, 1) := by decide +kernel
theorem d_N_init_35 : decode b_N_init 35 = .ok (.aload_n 0, 1) := by decide +kernel
theorem d_N_init_36 : decode b_N_init 36 = .ok (.getfield 12, 3) := by decide +kernel
theorem d_N_init_39 : decode b_N_init 39 = .ok (.aload_n 0, 1) := by decide +kernel
theorem d_N_init_40 : decode b_N_init 40 = .ok (.getfield 21, 3) := by decide +kernel
theorem d_N_init_43 : decode b_N_init 43 = .ok (.invokespecial 27, 3) := by decide +kernel
theorem d_N_init_46 : decode b_N_init 46 = .ok (.putfield 30, 3) := by decide +kernel
theorem d_N_init_49 : decode b_N_init 49 = .ok (.aload_n 0, 1) := by decide +kernel
theorem d_N_init_50 : decode b_N_init 50 = .ok (.new 34, 3) := by decide +kernel
theorem d_N_init_53 : decode b_N_init 53 = .ok (.dup, 1) := by decide +kernel
theorem d_N_init_54 : decode b_N_init 54 = .ok (.aload_n 0, 1) := by decide +kernel
theorem d_N_init_55 : decode b_N_init 55 = .ok (.getfield 12, 3) := by decide +kernel
theorem d_N_init_58 : decode b_N_init 58 = .ok (.aload_n 0, 1) := by decide +kernel
theorem d_N_init_59 : decode b_N_init 59 = .ok (.getfield 21, 3) := by decide +kernel
theorem d_N_init_62 : decode b_N_init 62 = .ok (.aload_n 0, 1) := by decide +kernel
theorem d_N_init_63 : decode b_N_init 63 = .ok (.getfield 30, 3) := by decide +kernel
theorem d_N_init_66 : decode b_N_init 66 = .ok (.invokespecial 36, 3) := by decide +kernel
theorem d_N_init_69 : decode b_N_init 69 = .ok (.putfield 39, 3) := by decide +kernel
theorem d_N_init_72 : decode b_N_init 72 = .ok (.aload_n 0, 1) := by decide +kernel
theorem d_N_init_73 : decode b_N_init 73 = .ok (.new 43, 3) := by decide +kernel
theorem d_N_init_76 : decode b_N_init 76 = .ok (.dup, 1) := by decide +kernel
theorem d_N_init_77 : decode b_N_init 77 = .ok (.aload_n 0, 1) := by decide +kernel
theorem d_N_init_78 : decode b_N_init 78 = .ok (.getfield 12, 3) := by decide +kernel
theorem d_N_init_81 : decode b_N_init 81 = .ok (.aload_n 0, 1) := by decide +kernel
theorem d_N_init_82 : decode b_N_init 82 = .ok (.getfield 30, 3) := by decide +kernel
theorem d_N_init_85 : decode b_N_init 85 = .ok (.aload_n 0, 1) := by decide +kernel
theorem d_N_init_86 : decode b_N_init 86 = .ok (.getfield 39, 3) := by decide +kernel
theorem d_N_init_89 : decode b_N_init 89 = .ok (.invokespecial 45, 3) := by decide +kernel
theorem d_N_init_92 : decode b_N_init 92 = .ok (.putfield 48, 3) := by decide +kernel
theorem d_N_init_95 : decode b_N_init 95 = .ok (.aload_n 0, 1) := by decide +kernel
theorem d_N_init_96 : decode b_N_init 96 = .ok (.new 52, 3) := by decide +kernel
theorem d_N_init_99 : decode b_N_init 99 = .ok (.dup, 1) := by decide +kernel
theorem d_N_init_100 : decode b_N_init 100 = .ok (.aload_n 0, 1) := by decide +kernel
theorem d_N_init_101 : decode b_N_init 101 = .ok (.getfield 12, 3) := by decide +kernel
theorem d_N_init_104 : decode b_N_init 104 = .ok (.aload_n 0, 1) := by decide +kernel
theorem d_N_init_105 : decode b_N_init 105 = .ok (.getfield 30, 3) := by decide +kernel
theorem d_N_init_108 : decode b_N_init 108 = .ok (.aload_n 0, 1) := by decide +kernel
theorem d_N_init_109 : decode b_N_init 109 = .ok (.getfield 39, 3) := by decide +kernel
theorem d_N_init_112 : decode b_N_init 112 = .ok (.aload_n 0, 1) := by decide +kernel
theorem d_N_init_113 : decode b_N_init 113 = .ok (.getfield 48, 3) := by decide +kernel
theorem d_N_init_116 : decode b_N_init 116 = .ok (.invokespecial 54, 3) := by decide +kernel
theorem d_N_init_119 : decode b_N_init 119 = .ok (.putfield 57, 3) := by decide +kernel
theorem d_N_init_122 : decode b_N_init 122 = .ok (.aload_n 0, 1) := by decide +kernel
theorem d_N_init_123 : decode b_N_init 123 = .ok (.iconst 0, 1) := by decide +kernel
theorem d_N_init_124 : decode b_N_init 124 = .ok (.putfield 61, 3) := by decide +kernel
theorem d_N_init_127 : decode b_N_init 127 = .ok (.return_, 1) := by decide +kernel
theorem d_R_init_0 : decode b_R_init 0 = .ok (.aload_n 0, 1) := by decide +kernel
theorem d_R_init_1 : decode b_R_init 1 = .ok (.invokespecial 1, 3) := by decide +kernel
theorem d_R_init_4 : decode b_R_init 4 = .ok (.aload_n 0, 1) := by decide +kernel
theorem d_R_init_5 : decode b_R_init 5 = .ok (.bipush 10, 2) := by decide +kernel
theorem d_R_init_7 : decode b_R_init 7 = .ok (.newarray .int, 2) := by decide +kernel
theorem d_R_init_9 : decode b_R_init 9 = .ok (.putfield 7, 3) := by decide +kernel
theorem d_R_init_12 : decode b_R_init 12 = .ok (.aload_n 0, 1) := by decide +kernel
theorem d_R_init_13 : decode b_R_init 13 = .ok (.bipush 60, 2) := by decide +kernel
theorem d_R_init_15 : decode b_R_init 15 = .ok (.newarray .int, 2) := by decide +kernel
theorem d_R_init_17 : decode b_R_init 17 = .ok (.putfield 13, 3) := by decide +kernel
theorem d_R_init_20 : decode b_R_init 20 = .ok (.aload_n 0, 1) := by decide +kernel
theorem d_R_init_21 : decode b_R_init 21 = .ok (.bipush 60, 2) := by decide +kernel
theorem d_R_init_23 : decode b_R_init 23 = .ok (.newarray .int, 2) := by decide +kernel
theorem d_R_init_25 : decode b_R_init 25 = .ok (.putfield 16, 3) := by decide +kernel
theorem d_R_init_28 : decode b_R_init 28 = .ok (.aload_n 0, 1) := by decide +kernel
theorem d_R_init_29 : decode b_R_init 29 = .ok (.bipush 60, 2) := by decide +kernel
theorem d_R_init_31 : decode b_R_init 31 = .ok (.newarray .int, 2) := by decide +kernel
theorem d_R_init_33 : decode b_R_init 33 = .ok (.putfield 19, 3) := by decide +kernel
theorem d_R_init_36 : decode b_R_init 36 = .ok (.aload_n 0, 1) := by decide +kernel
theorem d_R_init_37 : decode b_R_init 37 = .ok (.bipush 60, 2) := by decide +kernel
theorem d_R_init_39 : decode b_R_init 39 = .ok (.newarray .int, 2) := by decide +kernel
theorem d_R_init_41 : decode b_R_init 41 = .ok (.putfield 22, 3) := by decide +kernel
theorem d_R_init_44 : decode b_R_init 44 = .ok (.aload_n 0, 1) := by decide +kernel
theorem d_R_init_45 : decode b_R_init 45 = .ok (.bipush 10, 2) := by decide +kernel
theorem d_R_init_47 : decode b_R_init 47 = .ok (.newarray .int, 2) := by decide +kernel
theorem d_R_init_49 : decode b_R_init 49 = .ok (.putfield 25, 3) := by decide +kernel
theorem d_R_init_52 : decode b_R_init 52 = .ok (.aload_n 0, 1) := by decide +kernel
theorem d_R_init_53 : decode b_R_init 53 = .ok (.bipush 10, 2) := by decide +kernel
theorem d_R_init_55 : decode b_R_init 55 = .ok (.newarray .int, 2) := by decide +kernel
theorem d_R_init_57 : decode b_R_init 57 = .ok (.putfield 28, 3) := by decide +kernel
theorem d_R_init_60 : decode b_R_init 60 = .ok (.aload_n 0, 1) := by decide +kernel
theorem d_R_init_61 : decode b_R_init 61 = .ok (.bipush 10, 2) := by decide +kernel
theorem d_R_init_63 : decode b_R_init 63 = .ok (.newarray .int, 2) := by decide +kernel
theorem d_R_init_65 : decode b_R_init 65 = .ok (.putfield 31, 3) := by decide +kernel
theorem d_R_init_68 : decode b_R_init 68 = .ok (.aload_n 0, 1) := by decide +kernel
theorem d_R_init_69 : decode b_R_init 69 = .ok (.bipush 10, 2) := by decide +kernel
theorem d_R_init_71 : decode b_R_init 71 = .ok (.newarray .int, 2) := by decide +kernel
theorem d_R_init_73 : decode b_R_init 73 = .ok (.putfield 34, 3) := by decide +kernel
theorem d_R_init_76 : decode b_R_init 76 = .ok (.aload_n 0, 1) := by decide +kernel
theorem d_R_init_77 : decode b_R_init 77 = .ok (.bipush 10, 2) := by decide +kernel
theorem d_R_init_79 : decode b_R_init 79 = .ok (.newarray .int, 2) := by decide +kernel
theorem d_R_init_81 : decode b_R_init 81 = .ok (.putfield 37, 3) := by decide +kernel
theorem d_R_init_84 : decode b_R_init 84 = .ok (.aload_n 0, 1) := by decide +kernel
theorem d_R_init_85 : decode b_R_init 85 = .ok (.bipush 10, 2) := by decide +kernel
theorem d_R_init_87 : decode b_R_init 87 = .ok (.newarray .int, 2) := by decide +kernel
theorem d_R_init_89 : decode b_R_init 89 = .ok (.putfield 40, 3) := by decide +kernel
theorem d_R_init_92 : decode b_R_init 92 = .ok (.aload_n 0, 1) := by decide +kernel
theorem d_R_init_93 : decode b_R_init 93 = .ok (.bipush 10, 2) := by decide +kernel
theorem d_R_init_95 : decode b_R_init 95 = .ok (.newarray .int, 2) := by decide +kernel
theorem d_R_init_97 : decode b_R_init 97 = .ok (.putfield 43, 3) := by decide +kernel
theorem d_R_init_100 : decode b_R_init 100 = .ok (.aload_n 0, 1) := by decide +kernel
theorem d_R_init_101 : decode b_R_init 101 = .ok (.bipush 10, 2) := by decide +kernel
theorem d_R_init_103 : decode b_R_init 103 = .ok (.newarray .int, 2) := by decide +kernel
theorem d_R_init_105 : decode b_R_init 105 = .ok (.putfield 46, 3) := by decide +kernel
theorem d_R_init_108 : decode b_R_init 108 = .ok (.aload_n 0, 1) := by decide +kernel
theorem d_R_init_109 : decode b_R_init 109 = .ok (.sipush 130, 3) := by decide +kernel
theorem d_R_init_112 : decode b_R_init 112 = .ok (.newarray .int, 2) := by decide +kernel
theorem d_R_init_114 : decode b_R_init 114 = .ok (.putfield 49, 3) := by decide +kernel
theorem d_R_init_117 : decode b_R_init 117 = .ok (.aload_n 0, 1) := by decide +kernel
theorem d_R_init_118 : decode b_R_init 118 = .ok (.sipush 130, 3) := by decide +kernel
theorem d_R_init_121 : decode b_R_init 121 = .ok (.newarray .int, 2) := by decide +kernel
theorem d_R_init_123 : decode b_R_init 123 = .ok (.putfield 52, 3) := by decide +kernel
theorem d_R_init_126 : decode b_R_init 126 = .ok (.aload_n 0, 1) := by decide +kernel
theorem d_R_init_127 : decode b_R_init 127 = .ok (.bipush 60, 2) := by decide +kernel
theorem d_R_init_129 : decode b_R_init 129 = .ok (.newarray .int, 2) := by decide +kernel
theorem d_R_init_131 : decode b_R_init 131 = .ok (.putfield 55, 3) := by decide +kernel
theorem d_R_init_134 : decode b_R_init 134 = .ok (.aload_n 0, 1) := by decide +kernel
theorem d_R_init_135 : decode b_R_init 135 = .ok (.bipush 60, 2) := by decide +kernel
theorem d_R_init_137 : decode b_R_init 137 = .ok (.newarray .int, 2) := by decide +kernel
theorem d_R_init_139 : decode b_R_init 139 = .ok (.putfield 58, 3) := by decide +kernel
theorem d_R_init_142 : decode b_R_init 142 = .ok (.aload_n 0, 1) := by decide +kernel
theorem d_R_init_143 : decode b_R_init 143 = .ok (.bipush 60, 2) := by decide +kernel
theorem d_R_init_145 : decode b_R_init 145 = .ok (.newarray .int, 2) := by decide +kernel
theorem d_R_init_147 : decode b_R_init 147 = .ok (.putfield 61, 3) := by decide +kernel
theorem d_R_init_150 : decode b_R_init 150 = .ok (.aload_n 0, 1) := by decide +kernel
theorem d_R_init_151 : decode b_R_init 151 = .ok (.bipush 60, 2) := by decide +kernel
theorem d_R_init_153 : decode b_R_init 153 = .ok (.newarray .int, 2) := by decide +kernel
theorem d_R_init_155 : decode b_R_init 155 = .ok (.putfield 64, 3) := by decide +kernel
theorem d_R_init_158 : decode b_R_init 158 = .ok (.aload_n 0, 1) := by decide +kernel
theorem d_R_init_159 : decode b_R_init 159 = .ok (.bipush 10, 2) := by decide +kernel
theorem d_R_init_161 : decode b_R_init 161 = .ok (.newarray .int, 2) := by decide +kernel
theorem d_R_init_163 : decode b_R_init 163 = .ok (.putfield 67, 3) := by decide +kernel
theorem d_R_init_166 : decode b_R_init 166 = .ok (.aload_n 0, 1) := by decide +kernel
theorem d_R_init_167 : decode b_R_init 167 = .ok (.bipush 60, 2) := by decide +kernel
theorem d_R_init_169 : decode b_R_init 169 = .ok (.newarray .int, 2) := by decide +kernel
theorem d_R_init_171 : decode b_R_init 171 = .ok (.putfield 70, 3) := by decide +kernel
theorem d_R_init_174 : decode b_R_init 174 = .ok (.aload_n 0, 1) := by decide +kernel
theorem d_R_init_175 : decode b_R_init 175 = .ok (.bipush 12, 2) := by decide +kernel
theorem d_R_init_177 : decode b_R_init 177 = .ok (.newarray .int, 2) := by decide +kernel
theorem d_R_init_179 : decode b_R_init 179 = .ok (.putfield 73, 3) := by decide +kernel
theorem d_R_init_182 : decode b_R_init 182 = .ok (.aload_n 0, 1) := by decide +kernel
theorem d_R_init_183 : decode b_R_init 183 = .ok (.bipush 10, 2) := by decide +kernel
theorem d_R_init_185 : decode b_R_init 185 = .ok (.newarray .int, 2) := by decide +kernel
theorem d_R_init_187 : decode b_R_init 187 = .ok (.putfield 76, 3) := by decide +kernel
theorem d_R_init_190 : decode b_R_init 190 = .ok (.aload_n 0, 1) := by decide +kernel
theorem d_R_init_191 : decode b_R_init 191 = .ok (.sipush 130, 3) := by decide +kernel
theorem d_R_init_194 : decode b_R_init 194 = .ok (.newarray .int, 2) := by decide +kernel
theorem d_R_init_196 : decode b_R_init 196 = .ok (.putfield 79, 3) := by decide +kernel
theorem d_R_init_199 : decode b_R_init 199 = .ok (.aload_n 0, 1) := by decide +kernel
theorem d_R_init_200 : decode b_R_init 200 = .ok (.sipush 130, 3) := by decide +kernel
theorem d_R_init_203 : decode b_R_init 203 = .ok (.newarray .int, 2) := by decide +kernel
theorem d_R_init_205 : decode b_R_init 205 = .ok (.putfield 82, 3) := by decide +kernel
theorem d_R_init_208 : decode b_R_init 208 = .ok (.aload_n 0, 1) := by decide +kernel
theorem d_R_init_209 : decode b_R_init 209 = .ok (.sipush 130, 3) := by decide +kernel
theorem d_R_init_212 : decode b_R_init 212 = .ok (.newarray .boolean, 2) := by decide +kernel
theorem d_R_init_214 : decode b_R_init 214 = .ok (.putfield 85, 3) := by decide +kernel
theorem d_R_init_217 : decode b_R_init 217 = .ok (.aload_n 0, 1) := by decide +kernel
theorem d_R_init_218 : decode b_R_init 218 = .ok (.bipush 16, 2) := by decide +kernel
theorem d_R_init_220 : decode b_R_init 220 = .ok (.newarray .int, 2) := by decide +kernel
theorem d_R_init_222 : decode b_R_init 222 = .ok (.putfield 89, 3) := by decide +kernel
theorem d_R_init_225 : decode b_R_init 225 = .ok (.aload_n 0, 1) := by decide +kernel
theorem d_R_init_226 : decode b_R_init 226 = .ok (.bipush 40, 2) := by decide +kernel
theorem d_R_init_228 : decode b_R_init 228 = .ok (.newarray .int, 2) := by decide +kernel
theorem d_R_init_230 : decode b_R_init 230 = .ok (.putfield 92, 3) := by decide +kernel
theorem d_R_init_233 : decode b_R_init 233 = .ok (.aload_n 0, 1) := by decide +kernel
theorem d_R_init_234 : decode b_R_init 234 = .ok (.sipush 130, 3) := by decide +kernel
theorem d_R_init_237 : decode b_R_init 237 = .ok (.newarray .int, 2) := by decide +kernel
theorem d_R_init_239 : decode b_R_init 239 = .ok (.putfield 95, 3) := by decide +kernel
theorem d_R_init_242 : decode b_R_init 242 = .ok (.aload_n 0, 1) := by decide +kernel
theorem d_R_init_243 : decode b_R_init 243 = .ok (.bipush 6, 2) := by decide +kernel
theorem d_R_init_245 : decode b_R_init 245 = .ok (.newarray .int, 2) := by decide +kernel
theorem d_R_init_247 : decode b_R_init 247 = .ok (.putfield 98, 3) := by decide +kernel
theorem d_R_init_250 : decode b_R_init 250 = .ok (.return_, 1) := by decide +kernel
theorem d_K_init_0 : decode b_K_init 0 = .ok (.aload_n 0, 1) := by decide +kernel
theorem d_K_init_1 : decode b_K_init 1 = .ok (.invokespecial 3, 3) := by decide +kernel
theorem d_K_init_4 : decode b_K_init 4 = .ok (.aload_n 0, 1) := by decide +kernel
theorem d_K_init_5 : decode b_K_init 5 = .ok (.bipush 10, 2) := by decide +kernel
theorem d_K_init_7 : decode b_K_init 7 = .ok (.newarray .int, 2) := by decide +kernel
theorem d_K_init_9 : decode b_K_init 9 = .ok (.putfield 9, 3) := by decide +kernel
theorem d_K_init_12 : decode b_K_init 12 = .ok (.aload_n 0, 1) := by decide +kernel
theorem d_K_init_13 : decode b_K_init 13 = .ok (.bipush 126, 2) := by decide +kernel
theorem d_K_init_15 : decode b_K_init 15 = .ok (.newarray .int, 2) := by decide +kernel
theorem d_K_init_17 : decode b_K_init 17 = .ok (.putfield 15, 3) := by decide +kernel
theorem d_K_init_20 : decode b_K_init 20 = .ok (.aload_n 0, 1) := by decide +kernel
theorem d_K_init_21 : decode b_K_init 21 = .ok (.bipush 126, 2) := by decide +kernel
theorem d_K_init_23 : decode b_K_init 23 = .ok (.newarray .int, 2) := by decide +kernel
theorem d_K_init_25 : decode b_K_init 25 = .ok (.putfield 18, 3) := by decide +kernel
theorem d_K_init_28 : decode b_K_init 28 = .ok (.aload_n 0, 1) := by decide +kernel
theorem d_K_init_29 : decode b_K_init 29 = .ok (.aload_n 1, 1) := by decide +kernel
theorem d_K_init_30 : decode b_K_init 30 = .ok (.putfield 21, 3) := by decide +kernel
theorem d_K_init_33 : decode b_K_init 33 = .ok (.aload_n 0, 1) := by decide +kernel
theorem d_K_init_34 : decode b_K_init 34 = .ok (.aload_n 2, 1) := by decide +kernel
theorem d_K_init_35 : decode b_K_init 35 = .ok (.putfield 25, 3) := by decide +kernel
theorem d_K_init_38 : decode b_K_init 38 = .ok (.aload_n 0, 1) := by decide +kernel
theorem d_K_init_39 : decode b_K_init 39 = .ok (.aload_n 3, 1) := by decide +kernel
theorem d_K_init_40 : decode b_K_init 40 = .ok (.putfield 29, 3) := by decide +kernel
theorem d_K_init_43 : decode b_K_init 43 = .ok (.return_, 1) := by decide +kernel
theorem d_A_init_0 : decode b_A_init 0 = .ok (.aload_n 0, 1) := by decide +kernel
theorem d_A_init_1 : decode b_A_init 1 = .ok (.invokespecial 3, 3) := by decide +kernel
theorem d_A_init_4 : decode b_A_init 4 = .ok (.aload_n 0, 1) := by decide +kernel
theorem d_A_init_5 : decode b_A_init 5 = .ok (.bipush 16, 2) := by decide +kernel
theorem d_A_init_7 : decode b_A_init 7 = .ok (.newarray .int, 2) := by decide +kernel
theorem d_A_init_9 : decode b_A_init 9 = .ok (.putfield 9, 3) := by decide +kernel
theorem d_A_init_12 : decode b_A_init 12 = .ok (.aload_n 0, 1) := by decide +kernel
theorem d_A_init_13 : decode b_A_init 13 = .ok (.bipush 6, 2) := by decide +kernel
theorem d_A_init_15 : decode b_A_init 15 = .ok (.newarray .int, 2) := by decide +kernel
theorem d_A_init_17 : decode b_A_init 17 = .ok (.putfield 15, 3) := by decide +kernel
theorem d_A_init_20 : decode b_A_init 20 = .ok (.aload_n 0, 1) := by decide +kernel
theorem d_A_init_21 : decode b_A_init 21 = .ok (.bipush 126, 2) := by decide +kernel
theorem d_A_init_23 : decode b_A_init 23 = .ok (.newarray .int, 2) := by decide +kernel
theorem d_A_init_25 : decode b_A_init 25 = .ok (.putfield 18, 3) := by decide +kernel
theorem d_A_init_28 : decode b_A_init 28 = .ok (.aload_n 0, 1) := by decide +kernel
theorem d_A_init_29 : decode b_A_init 29 = .ok (.bipush 6, 2) := by decide +kernel
theorem d_A_init_31 : decode b_A_init 31 = .ok (.newarray .int, 2) := by decide +kernel
theorem d_A_init_33 : decode b_A_init 33 = .ok (.putfield 21, 3) := by decide +kernel
theorem d_A_init_36 : decode b_A_init 36 = .ok (.aload_n 0, 1) := by decide +kernel
theorem d_A_init_37 : decode b_A_init 37 = .ok (.bipush 40, 2) := by decide +kernel
theorem d_A_init_39 : decode b_A_init 39 = .ok (.newarray .int, 2) := by decide +kernel
theorem d_A_init_41 : decode b_A_init 41 = .ok (.putfield 24, 3) := by decide +kernel
theorem d_A_init_44 : decode b_A_init 44 = .ok (.aload_n 0, 1) := by decide +kernel
theorem d_A_init_45 : decode b_A_init 45 = .ok (.aload_n 1, 1) := by decide +kernel
theorem d_A_init_46 : decode b_A_init 46 = .ok (.putfield 27, 3) := by decide +kernel
theorem d_A_init_49 : decode b_A_init 49 = .ok (.aload_n 0, 1) := by decide +kernel
theorem d_A_init_50 : decode b_A_init 50 = .ok (.aload_n 2, 1) := by decide +kernel
theorem d_A_init_51 : decode b_A_init 51 = .ok (.putfield 31, 3) := by decide +kernel
theorem d_A_init_54 : decode b_A_init 54 = .ok (.aload_n 0, 1) := by decide +kernel
theorem d_A_init_55 : decode b_A_init 55 = .ok (.aload_n 3, 1) := by decide +kernel
theorem d_A_init_56 : decode b_A_init 56 = .ok (.putfield 35, 3) := by decide +kernel
theorem d_A_init_59 : decode b_A_init 59 = .ok (.aload_n 0, 1) := by decide +kernel
theorem d_A_init_60 : decode b_A_init 60 = .ok (.aload 4, 2) := by decide +kernel
theorem d_A_init_62 : decode b_A_init 62 = .ok (.putfield 39, 3) := by decide +kernel
theorem d_A_init_65 : decode b_A_init 65 = .ok (.return_, 1) := by decide +kernel
theorem d_G_init_0 : decode b_G_init 0 = .ok (.aload_n 0, 1) := by decide +kernel
theorem d_G_init_1 : decode b_G_init 1 = .ok (.invokespecial 3, 3) := by decide +kernel
theorem d_G_init_4 : decode b_G_init 4 = .ok (.aload_n 0, 1) := by decide +kernel
theorem d_G_init_5 : decode b_G_init 5 = .ok (.bipush 10, 2) := by decide +kernel
theorem d_G_init_7 : decode b_G_init 7 = .ok (.newarray .int, 2) := by decide +kernel
theorem d_G_init_9 : decode b_G_init 9 = .ok (.putfield 9, 3) := by decide +kernel
theorem d_G_init_12 : decode b_G_init 12 = .ok (.aload_n 0, 1) := by decide +kernel
theorem d_G_init_13 : decode b_G_init 13 = .ok (.bipush 10, 2) := by decide +kernel
theorem d_G_init_15 : decode b_G_init 15 = .ok (.newarray .int, 2) := by decide +kernel
theorem d_G_init_17 : decode b_G_init 17 = .ok (.putfield 15, 3) := by decide +kernel
theorem d_G_init_20 : decode b_G_init 20 = .ok (.aload_n 0, 1) := by decide +kernel
theorem d_G_init_21 : decode b_G_init 21 = .ok (.bipush 10, 2) := by decide +kernel
theorem d_G_init_23 : decode b_G_init 23 = .ok (.bipush 6, 2) := by decide +kernel
theorem d_G_init_25 : decode b_G_init 25 = .ok (.multianewarray 18 2, 4) := by decide +kernel
theorem d_G_init_29 : decode b_G_init 29 = .ok (.putfield 20, 3) := by decide +kernel
theorem d_G_init_32 : decode b_G_init 32 = .ok (.aload_n 0, 1) := by decide +kernel
theorem d_G_init_33 : decode b_G_init 33 = .ok (.bipush 10, 2) := by decide +kernel
theorem d_G_init_35 : decode b_G_init 35 = .ok (.bipush 6, 2) := by decide +kernel
theorem d_G_init_37 : decode b_G_init 37 = .ok (.multianewarray 18 2, 4) := by decide +kernel
theorem d_G_init_41 : decode b_G_init 41 = .ok (.putfield 23, 3) := by decide +kernel
theorem d_G_init_44 : decode b_G_init 44 = .ok (.aload_n 0, 1) := by decide +kernel
theorem d_G_init_45 : decode b_G_init 45 = .ok (.bipush 10, 2) := by decide +kernel
theorem d_G_init_47 : decode b_G_init 47 = .ok (.bipush 6, 2) := by decide +kernel
theorem d_G_init_49 : decode b_G_init 49 = .ok (.multianewarray 18 2, 4) := by decide +kernel
theorem d_G_init_53 : decode b_G_init 53 = .ok (.putfield 26, 3) := by decide +kernel
theorem d_G_init_56 : decode b_G_init 56 = .ok (.aload_n 0, 1) := by decide +kernel
theorem d_G_init_57 : decode b_G_init 57 = .ok (.bipush 10, 2) := by decide +kernel
theorem d_G_init_59 : decode b_G_init 59 = .ok (.bipush 6, 2) := by decide +kernel
theorem d_G_init_61 : decode b_G_init 61 = .ok (.multianewarray 18 2, 4) := by decide +kernel
theorem d_G_init_65 : decode b_G_init 65 = .ok (.putfield 29, 3) := by decide +kernel
theorem d_G_init_68 : decode b_G_init 68 = .ok (.aload_n 0, 1) := by decide +kernel
theorem d_G_init_69 : decode b_G_init 69 = .ok (.bipush 10, 2) := by decide +kernel
theorem d_G_init_71 : decode b_G_init 71 = .ok (.bipush 6, 2) := by decide +kernel
theorem d_G_init_73 : decode b_G_init 73 = .ok (.multianewarray 18 2, 4) := by decide +kernel
theorem d_G_init_77 : decode b_G_init 77 = .ok (.putfield 32, 3) := by decide +kernel
theorem d_G_init_80 : decode b_G_init 80 = .ok (.aload_n 0, 1) := by decide +kernel
theorem d_G_init_81 : decode b_G_init 81 = .ok (.bipush 10, 2) := by decide +kernel
theorem d_G_init_83 : decode b_G_init 83 = .ok (.newarray .int, 2) := by decide +kernel
theorem d_G_init_85 : decode b_G_init 85 = .ok (.putfield 35, 3) := by decide +kernel
theorem d_G_init_88 : decode b_G_init 88 = .ok (.aload_n 0, 1) := by decide +kernel
theorem d_G_init_89 : decode b_G_init 89 = .ok (.bipush 126, 2) := by decide +kernel
theorem d_G_init_91 : decode b_G_init 91 = .ok (.newarray .int, 2) := by decide +kernel
theorem d_G_init_93 : decode b_G_init 93 = .ok (.putfield 38, 3) := by decide +kernel
theorem d_G_init_96 : decode b_G_init 96 = .ok (.aload_n 0, 1) := by decide +kernel
theorem d_G_init_97 : decode b_G_init 97 = .ok (.bipush 126, 2) := by decide +kernel
theorem d_G_init_99 : decode b_G_init 99 = .ok (.newarray .int, 2) := by decide +kernel
theorem d_G_init_101 : decode b_G_init 101 = .ok (.putfield 41, 3) := by decide +kernel
theorem d_G_init_104 : decode b_G_init 104 = .ok (.aload_n 0, 1) := by decide +kernel
theorem d_G_init_105 : decode b_G_init 105 = .ok (.bipush 126, 2) := by decide +kernel
theorem d_G_init_107 : decode b_G_init 107 = .ok (.newarray .int, 2) := by decide +kernel
theorem d_G_init_109 : decode b_G_init 109 = .ok (.putfield 44, 3) := by decide +kernel
theorem d_G_init_112 : decode b_G_init 112 = .ok (.aload_n 0, 1) := by decide +kernel
theorem d_G_init_113 : decode b_G_init 113 = .ok (.aload_n 1, 1) := by decide +kernel
theorem d_G_init_114 : decode b_G_init 114 = .ok (.putfield 47, 3) := by decide +kernel
theorem d_G_init_117 : decode b_G_init 117 = .ok (.aload_n 0, 1) := by decide +kernel
theorem d_G_init_118 : decode b_G_init 118 = .ok (.aload_n 2, 1) := by decide +kernel
theorem d_G_init_119 : decode b_G_init 119 = .ok (.putfield 51, 3) := by decide +kernel
theorem d_G_init_122 : decode b_G_init 122 = .ok (.return_, 1) := by decide +kernel
theorem d_D_init_0 : decode b_D_init 0 = .ok (.aload_n 0, 1) := by decide +kernel
theorem d_D_init_1 : decode b_D_init 1 = .ok (.invokespecial 3, 3) := by decide +kernel
theorem d_D_init_4 : decode b_D_init 4 = .ok (.aload_n 0, 1) := by decide +kernel
theorem d_D_init_5 : decode b_D_init 5 = .ok (.bipush 126, 2) := by decide +kernel
theorem d_D_init_7 : decode b_D_init 7 = .ok (.newarray .boolean, 2) := by decide +kernel
theorem d_D_init_9 : decode b_D_init 9 = .ok (.putfield 9, 3) := by decide +kernel
theorem d_D_init_12 : decode b_D_init 12 = .ok (.aload_n 0, 1) := by decide +kernel
theorem d_D_init_13 : decode b_D_init 13 = .ok (.bipush 126, 2) := by decide +kernel
theorem d_D_init_15 : decode b_D_init 15 = .ok (.newarray .int, 2) := by decide +kernel
theorem d_D_init_17 : decode b_D_init 17 = .ok (.putfield 15, 3) := by decide +kernel
theorem d_D_init_20 : decode b_D_init 20 = .ok (.aload_n 0, 1) := by decide +kernel
theorem d_D_init_21 : decode b_D_init 21 = .ok (.aload_n 1, 1) := by decide +kernel
theorem d_D_init_22 : decode b_D_init 22 = .ok (.putfield 19, 3) := by decide +kernel
theorem d_D_init_25 : decode b_D_init 25 = .ok (.aload_n 0, 1) := by decide +kernel
theorem d_D_init_26 : decode b_D_init 26 = .ok (.aload_n 2, 1) := by decide +kernel
theorem d_D_init_27 : decode b_D_init 27 = .ok (.putfield 23, 3) := by decide +kernel
theorem d_D_init_30 : decode b_D_init 30 = .ok (.aload_n 0, 1) := by decide +kernel
theorem d_D_init_31 : decode b_D_init 31 = .ok (.aload_n 3, 1) := by decide +kernel
theorem d_D_init_32 : decode b_D_init 32 = .ok (.putfield 27, 3) := by decide +kernel
theorem d_D_init_35 : decode b_D_init 35 = .ok (.return_, 1) := by decide +kernel
theorem d_P_init_0 : decode b_P_init 0 = .ok (.aload_n 0, 1) := by decide +kernel
theorem d_P_init_1 : decode b_P_init 1 = .ok (.invokespecial 3, 3) := by decide +kernel
theorem d_P_init_4 : decode b_P_init 4 = .ok (.aload_n 0, 1) := by decide +kernel
theorem d_P_init_5 : decode b_P_init 5 = .ok (.bipush 10, 2) := by decide +kernel
theorem d_P_init_7 : decode b_P_init 7 = .ok (.newarray .int, 2) := by decide +kernel
theorem d_P_init_9 : decode b_P_init 9 = .ok (.putfield 9, 3) := by decide +kernel
theorem d_P_init_12 : decode b_P_init 12 = .ok (.aload_n 0, 1) := by decide +kernel
theorem d_P_init_13 : decode b_P_init 13 = .ok (.bipush 10, 2) := by decide +kernel
theorem d_P_init_15 : decode b_P_init 15 = .ok (.bipush 6, 2) := by decide +kernel
theorem d_P_init_17 : decode b_P_init 17 = .ok (.multianewarray 15 2, 4) := by decide +kernel
theorem d_P_init_21 : decode b_P_init 21 = .ok (.putfield 17, 3) := by decide +kernel
theorem d_P_init_24 : decode b_P_init 24 = .ok (.aload_n 0, 1) := by decide +kernel
theorem d_P_init_25 : decode b_P_init 25 = .ok (.bipush 10, 2) := by decide +kernel
theorem d_P_init_27 : decode b_P_init 27 = .ok (.bipush 6, 2) := by decide +kernel
theorem d_P_init_29 : decode b_P_init 29 = .ok (.multianewarray 15 2, 4) := by decide +kernel
theorem d_P_init_33 : decode b_P_init 33 = .ok (.putfield 20, 3) := by decide +kernel
theorem d_P_init_36 : decode b_P_init 36 = .ok (.aload_n 0, 1) := by decide +kernel
theorem d_P_init_37 : decode b_P_init 37 = .ok (.bipush 10, 2) := by decide +kernel
theorem d_P_init_39 : decode b_P_init 39 = .ok (.bipush 6, 2) := by decide +kernel
theorem d_P_init_41 : decode b_P_init 41 = .ok (.multianewarray 15 2, 4) := by decide +kernel
theorem d_P_init_45 : decode b_P_init 45 = .ok (.putfield 23, 3) := by decide +kernel
theorem d_P_init_48 : decode b_P_init 48 = .ok (.aload_n 0, 1) := by decide +kernel
theorem d_P_init_49 : decode b_P_init 49 = .ok (.bipush 10, 2) := by decide +kernel
theorem d_P_init_51 : decode b_P_init 51 = .ok (.bipush 6, 2) := by decide +kernel
theorem d_P_init_53 : decode b_P_init 53 = .ok (.multianewarray 15 2, 4) := by decide +kernel
theorem d_P_init_57 : decode b_P_init 57 = .ok (.putfield 26, 3) := by decide +kernel
theorem d_P_init_60 : decode b_P_init 60 = .ok (.aload_n 0, 1) := by decide +kernel
theorem d_P_init_61 : decode b_P_init 61 = .ok (.bipush 10, 2) := by decide +kernel
theorem d_P_init_63 : decode b_P_init 63 = .ok (.newarray .int, 2) := by decide +kernel
theorem d_P_init_65 : decode b_P_init 65 = .ok (.putfield 29, 3) := by decide +kernel
theorem d_P_init_68 : decode b_P_init 68 = .ok (.aload_n 0, 1) := by decide +kernel
theorem d_P_init_69 : decode b_P_init 69 = .ok (.bipush 10, 2) := by decide +kernel
theorem d_P_init_71 : decode b_P_init 71 = .ok (.newarray .int, 2) := by decide +kernel
theorem d_P_init_73 : decode b_P_init 73 = .ok (.putfield 32, 3) := by decide +kernel
theorem d_P_init_76 : decode b_P_init 76 = .ok (.aload_n 0, 1) := by decide +kernel
theorem d_P_init_77 : decode b_P_init 77 = .ok (.bipush 10, 2) := by decide +kernel
theorem d_P_init_79 : decode b_P_init 79 = .ok (.newarray .int, 2) := by decide +kernel
theorem d_P_init_81 : decode b_P_init 81 = .ok (.putfield 35, 3) := by decide +kernel
theorem d_P_init_84 : decode b_P_init 84 = .ok (.aload_n 0, 1) := by decide +kernel
theorem d_P_init_85 : decode b_P_init 85 = .ok (.bipush 10, 2) := by decide +kernel
theorem d_P_init_87 : decode b_P_init 87 = .ok (.newarray .int, 2) := by decide +kernel
theorem d_P_init_89 : decode b_P_init 89 = .ok (.putfield 38, 3) := by decide +kernel
theorem d_P_init_92 : decode b_P_init 92 = .ok (.return_, 1) := by decide +kernel
theorem d_S_init_0 : decode b_S_init 0 = .ok (.aload_n 0, 1) := by decide +kernel
theorem d_S_init_1 : decode b_S_init 1 = .ok (.invokespecial 3, 3) := by decide +kernel
theorem d_S_init_4 : decode b_S_init 4 = .ok (.aload_n 0, 1) := by decide +kernel
theorem d_S_init_5 : decode b_S_init 5 = .ok (.bipush 10, 2) := by decide +kernel
theorem d_S_init_7 : decode b_S_init 7 = .ok (.newarray .int, 2) := by decide +kernel
theorem d_S_init_9 : decode b_S_init 9 = .ok (.putfield 9, 3) := by decide +kernel
theorem d_S_init_12 : decode b_S_init 12 = .ok (.aload_n 0, 1) := by decide +kernel
theorem d_S_init_13 : decode b_S_init 13 = .ok (.bipush 10, 2) := by decide +kernel
theorem d_S_init_15 : decode b_S_init 15 = .ok (.newarray .int, 2) := by decide +kernel
theorem d_S_init_17 : decode b_S_init 17 = .ok (.putfield 15, 3) := by decide +kernel
theorem d_S_init_20 : decode b_S_init 20 = .ok (.aload_n 0, 1) := by decide +kernel
theorem d_S_init_21 : decode b_S_init 21 = .ok (.bipush 10, 2) := by decide +kernel
theorem d_S_init_23 : decode b_S_init 23 = .ok (.newarray .int, 2) := by decide +kernel
theorem d_S_init_25 : decode b_S_init 25 = .ok (.putfield 18, 3) := by decide +kernel
theorem d_S_init_28 : decode b_S_init 28 = .ok (.aload_n 0, 1) := by decide +kernel
theorem d_S_init_29 : decode b_S_init 29 = .ok (.bipush 10, 2) := by decide +kernel
theorem d_S_init_31 : decode b_S_init 31 = .ok (.newarray .int, 2) := by decide +kernel
theorem d_S_init_33 : decode b_S_init 33 = .ok (.putfield 21, 3) := by decide +kernel
theorem d_S_init_36 : decode b_S_init 36 = .ok (.aload_n 0, 1) := by decide +kernel
theorem d_S_init_37 : decode b_S_init 37 = .ok (.bipush 10, 2) := by decide +kernel
theorem d_S_init_39 : decode b_S_init 39 = .ok (.newarray .int, 2) := by decide +kernel
theorem d_S_init_41 : decode b_S_init 41 = .ok (.putfield 24, 3) := by decide +kernel
theorem d_S_init_44 : decode b_S_init 44 = .ok (.aload_n 0, 1) := by decide +kernel
theorem d_S_init_45 : decode b_S_init 45 = .ok (.bipush 10, 2) := by decide +kernel
theorem d_S_init_47 : decode b_S_init 47 = .ok (.newarray .int, 2) := by decide +kernel
theorem d_S_init_49 : decode b_S_init 49 = .ok (.putfield 27, 3) := by decide +kernel
theorem d_S_init_52 : decode b_S_init 52 = .ok (.aload_n 0, 1) := by decide +kernel
theorem d_S_init_53 : decode b_S_init 53 = .ok (.aload_n 1, 1) := by decide +kernel
theorem d_S_init_54 : decode b_S_init 54 = .ok (.putfield 30, 3) := by decide +kernel
theorem d_S_init_57 : decode b_S_init 57 = .ok (.return_, 1) := by decide +kernel
