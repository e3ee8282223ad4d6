def wT : List Cond := lw_tbl.filter goodWord
theorem wT_good : ∀ w ∈ wT, goodWord w = true := fun w h => (List.mem_filter.mp h).2
theorem wT_tbl : ∀ w ∈ wT, w ∈ lw_tbl := fun w h => (List.mem_filter.mp h).1
theorem wT_in {w : Cond} (h : w ∈ lw_tbl) (hg : goodWord w = true) : w ∈ wT := List.mem_filter.mpr ⟨h, hg⟩
theorem tb_0 : ∀ w ∈ tables_1_1, w ∈ lw_tbl := fun w h => List.mem_append_right _ (List.mem_append_left _ h)
theorem tb_1 : ∀ w ∈ tables_1_2, w ∈ lw_tbl := fun w h => List.mem_append_right _ (List.mem_append_right _ (List.mem_append_left _ h))
theorem tb_2 : ∀ w ∈ tables_1_3, w ∈ lw_tbl := fun w h => List.mem_append_right _ (List.mem_append_right _ (List.mem_append_right _ (List.mem_append_left _ h)))
theorem tb_3 : ∀ w ∈ tables_1_4, w ∈ lw_tbl := fun w h => List.mem_append_right _ (List.mem_append_right _ (List.mem_append_right _ (List.mem_append_right _ (List.mem_append_left _ h))))
theorem tb_4 : ∀ w ∈ tables_1_5, w ∈ lw_tbl := fun w h => List.mem_append_right _ (List.mem_append_right _ (List.mem_append_right _ (List.mem_append_right _ (List.mem_append_right _ (h)))))
def RN : String := "NameForge"
def TN : u_T := fun k => match k with
  | 0 => ("NameForge", "program", "LNameForge$Program;", true)
  | 1 => ("NameForge", "shape", "LNameForge$Shape;", true)
  | 2 => ("NameForge", "naming", "LNameForge$Naming;", true)
  | 3 => ("NameForge", "known", "LNameForge$Known;", true)
  | 4 => ("NameForge", "needed", "LNameForge$Needed;", true)
  | 5 => ("NameForge", "machine", "LNameForge$Machine;", true)
  | _ => ("NameForge", "built", "Z", false)
def tyN : Nat → FieldType := fun k => match k with
  | 0 => .object "NameForge$Program"
  | 1 => .object "NameForge$Shape"
  | 2 => .object "NameForge$Naming"
  | 3 => .object "NameForge$Known"
  | 4 => .object "NameForge$Needed"
  | 5 => .object "NameForge$Machine"
  | _ => .boolean
theorem nmN : ∀ a, a < 7 → ∀ b, b < 7 → a ≠ b → (TN a).2.1 ≠ (TN b).2.1 := by decide +kernel
theorem tyN_ok : ∀ k, k < 7 → parseFieldDescriptor (TN k).2.2.1 = some (tyN k) := by decide +kernel
def RP : String := "NameForge$Program"
def TP : u_T := fun k => match k with
  | 0 => ("NameForge$Program", "blocks", "I", false)
  | 1 => ("NameForge$Program", "length", "[I", true)
  | 2 => ("NameForge$Program", "kind", "[[I", true)
  | 3 => ("NameForge$Program", "d", "[[I", true)
  | 4 => ("NameForge$Program", "x", "[[I", true)
  | 5 => ("NameForge$Program", "y", "[[I", true)
  | 6 => ("NameForge$Program", "end", "[I", true)
  | 7 => ("NameForge$Program", "test", "[I", true)
  | 8 => ("NameForge$Program", "yes", "[I", true)
  | _ => ("NameForge$Program", "no", "[I", true)
def tyP : Nat → FieldType := fun k => match k with
  | 0 => .int
  | 1 => .array .int
  | 2 => .array (.array .int)
  | 3 => .array (.array .int)
  | 4 => .array (.array .int)
  | 5 => .array (.array .int)
  | 6 => .array .int
  | 7 => .array .int
  | 8 => .array .int
  | _ => .array .int
theorem nmP : ∀ a, a < 10 → ∀ b, b < 10 → a ≠ b → (TP a).2.1 ≠ (TP b).2.1 := by decide +kernel
theorem tyP_ok : ∀ k, k < 10 → parseFieldDescriptor (TP k).2.2.1 = some (tyP k) := by decide +kernel
def RS : String := "NameForge$Shape"
def TS : u_T := fun k => match k with
  | 0 => ("NameForge$Shape", "program", "LNameForge$Program;", true)
  | 1 => ("NameForge$Shape", "reached", "I", false)
  | 2 => ("NameForge$Shape", "before", "[I", true)
  | 3 => ("NameForge$Shape", "under", "[I", true)
  | 4 => ("NameForge$Shape", "parent", "[I", true)
  | 5 => ("NameForge$Shape", "frontier", "[I", true)
  | 6 => ("NameForge$Shape", "order", "[I", true)
  | 7 => ("NameForge$Shape", "ordered", "I", false)
  | _ => ("NameForge$Shape", "waiting", "[I", true)
def tyS : Nat → FieldType := fun k => match k with
  | 0 => .object "NameForge$Program"
  | 1 => .int
  | 2 => .array .int
  | 3 => .array .int
  | 4 => .array .int
  | 5 => .array .int
  | 6 => .array .int
  | 7 => .int
  | _ => .array .int
theorem nmS : ∀ a, a < 9 → ∀ b, b < 9 → a ≠ b → (TS a).2.1 ≠ (TS b).2.1 := by decide +kernel
theorem tyS_ok : ∀ k, k < 9 → parseFieldDescriptor (TS k).2.2.1 = some (tyS k) := by decide +kernel
def RG : String := "NameForge$Naming"
def TG : u_T := fun k => match k with
  | 0 => ("NameForge$Naming", "program", "LNameForge$Program;", true)
  | 1 => ("NameForge$Naming", "shape", "LNameForge$Shape;", true)
  | 2 => ("NameForge$Naming", "names", "I", false)
  | 3 => ("NameForge$Naming", "phis", "[I", true)
  | 4 => ("NameForge$Naming", "defined", "[I", true)
  | 5 => ("NameForge$Naming", "phiName", "[[I", true)
  | 6 => ("NameForge$Naming", "atEnd", "[[I", true)
  | 7 => ("NameForge$Naming", "made", "[[I", true)
  | 8 => ("NameForge$Naming", "usedX", "[[I", true)
  | 9 => ("NameForge$Naming", "usedY", "[[I", true)
  | 10 => ("NameForge$Naming", "tested", "[I", true)
  | 11 => ("NameForge$Naming", "home", "[I", true)
  | 12 => ("NameForge$Naming", "row", "[I", true)
  | _ => ("NameForge$Naming", "variable", "[I", true)
def tyG : Nat → FieldType := fun k => match k with
  | 0 => .object "NameForge$Program"
  | 1 => .object "NameForge$Shape"
  | 2 => .int
  | 3 => .array .int
  | 4 => .array .int
  | 5 => .array (.array .int)
  | 6 => .array (.array .int)
  | 7 => .array (.array .int)
  | 8 => .array (.array .int)
  | 9 => .array (.array .int)
  | 10 => .array .int
  | 11 => .array .int
  | 12 => .array .int
  | _ => .array .int
theorem nmG : ∀ a, a < 14 → ∀ b, b < 14 → a ≠ b → (TG a).2.1 ≠ (TG b).2.1 := by decide +kernel
theorem tyG_ok : ∀ k, k < 14 → parseFieldDescriptor (TG k).2.2.1 = some (tyG k) := by decide +kernel
def RK : String := "NameForge$Known"
def TK : u_T := fun k => match k with
  | 0 => ("NameForge$Known", "program", "LNameForge$Program;", true)
  | 1 => ("NameForge$Known", "shape", "LNameForge$Shape;", true)
  | 2 => ("NameForge$Known", "naming", "LNameForge$Naming;", true)
  | 3 => ("NameForge$Known", "comeTo", "I", false)
  | 4 => ("NameForge$Known", "taken", "[I", true)
  | 5 => ("NameForge$Known", "state", "[I", true)
  | 6 => ("NameForge$Known", "number", "[I", true)
  | _ => ("NameForge$Known", "changed", "Z", false)
def tyK : Nat → FieldType := fun k => match k with
  | 0 => .object "NameForge$Program"
  | 1 => .object "NameForge$Shape"
  | 2 => .object "NameForge$Naming"
  | 3 => .int
  | 4 => .array .int
  | 5 => .array .int
  | 6 => .array .int
  | _ => .boolean
theorem nmK : ∀ a, a < 8 → ∀ b, b < 8 → a ≠ b → (TK a).2.1 ≠ (TK b).2.1 := by decide +kernel
theorem tyK_ok : ∀ k, k < 8 → parseFieldDescriptor (TK k).2.2.1 = some (tyK k) := by decide +kernel
def RD : String := "NameForge$Needed"
def TD : u_T := fun k => match k with
  | 0 => ("NameForge$Needed", "program", "LNameForge$Program;", true)
  | 1 => ("NameForge$Needed", "naming", "LNameForge$Naming;", true)
  | 2 => ("NameForge$Needed", "known", "LNameForge$Known;", true)
  | 3 => ("NameForge$Needed", "isNeeded", "[Z", true)
  | 4 => ("NameForge$Needed", "list", "[I", true)
  | _ => ("NameForge$Needed", "listed", "I", false)
def tyD : Nat → FieldType := fun k => match k with
  | 0 => .object "NameForge$Program"
  | 1 => .object "NameForge$Naming"
  | 2 => .object "NameForge$Known"
  | 3 => .array .boolean
  | 4 => .array .int
  | _ => .int
theorem nmD : ∀ a, a < 6 → ∀ b, b < 6 → a ≠ b → (TD a).2.1 ≠ (TD b).2.1 := by decide +kernel
theorem tyD_ok : ∀ k, k < 6 → parseFieldDescriptor (TD k).2.2.1 = some (tyD k) := by decide +kernel
def RA : String := "NameForge$Machine"
def TA : u_T := fun k => match k with
  | 0 => ("NameForge$Machine", "program", "LNameForge$Program;", true)
  | 1 => ("NameForge$Machine", "naming", "LNameForge$Naming;", true)
  | 2 => ("NameForge$Machine", "known", "LNameForge$Known;", true)
  | 3 => ("NameForge$Machine", "needed", "LNameForge$Needed;", true)
  | 4 => ("NameForge$Machine", "inputs", "I", false)
  | 5 => ("NameForge$Machine", "input", "[I", true)
  | 6 => ("NameForge$Machine", "ofVariable", "[I", true)
  | 7 => ("NameForge$Machine", "ofName", "[I", true)
  | 8 => ("NameForge$Machine", "chosen", "[I", true)
  | 9 => ("NameForge$Machine", "tellings", "I", false)
  | 10 => ("NameForge$Machine", "kept", "[I", true)
  | 11 => ("NameForge$Machine", "blocksRun", "I", false)
  | 12 => ("NameForge$Machine", "instructionsDone", "I", false)
  | _ => ("NameForge$Machine", "inputsAsked", "I", false)
def tyA : Nat → FieldType := fun k => match k with
  | 0 => .object "NameForge$Program"
  | 1 => .object "NameForge$Naming"
  | 2 => .object "NameForge$Known"
  | 3 => .object "NameForge$Needed"
  | 4 => .int
  | 5 => .array .int
  | 6 => .array .int
  | 7 => .array .int
  | 8 => .array .int
  | 9 => .int
  | 10 => .array .int
  | 11 => .int
  | 12 => .int
  | _ => .int
theorem nmA : ∀ a, a < 14 → ∀ b, b < 14 → a ≠ b → (TA a).2.1 ≠ (TA b).2.1 := by decide +kernel
theorem tyA_ok : ∀ k, k < 14 → parseFieldDescriptor (TA k).2.2.1 = some (tyA k) := by decide +kernel
def RR : String := "NameForgeModel"
def TR : u_T := fun k => match k with
  | 0 => ("NameForgeModel", "thrown", "I", false)
  | 1 => ("NameForgeModel", "blocks", "I", false)
  | 2 => ("NameForgeModel", "counts", "[I", true)
  | 3 => ("NameForgeModel", "kinds", "[I", true)
  | 4 => ("NameForgeModel", "targets", "[I", true)
  | 5 => ("NameForgeModel", "firsts", "[I", true)
  | 6 => ("NameForgeModel", "seconds", "[I", true)
  | 7 => ("NameForgeModel", "ends", "[I", true)
  | 8 => ("NameForgeModel", "tests", "[I", true)
  | 9 => ("NameForgeModel", "thens", "[I", true)
  | 10 => ("NameForgeModel", "elses", "[I", true)
  | 11 => ("NameForgeModel", "built", "Z", false)
  | 12 => ("NameForgeModel", "reached", "I", false)
  | 13 => ("NameForgeModel", "over", "[I", true)
  | 14 => ("NameForgeModel", "before", "[I", true)
  | 15 => ("NameForgeModel", "parent", "[I", true)
  | 16 => ("NameForgeModel", "phis", "[I", true)
  | 17 => ("NameForgeModel", "names", "I", false)
  | 18 => ("NameForgeModel", "blockOf", "[I", true)
  | 19 => ("NameForgeModel", "madeBy", "[I", true)
  | 20 => ("NameForgeModel", "phiName", "[I", true)
  | 21 => ("NameForgeModel", "sets", "[I", true)
  | 22 => ("NameForgeModel", "usesX", "[I", true)
  | 23 => ("NameForgeModel", "usesY", "[I", true)
  | 24 => ("NameForgeModel", "testName", "[I", true)
  | 25 => ("NameForgeModel", "atEnd", "[I", true)
  | 26 => ("NameForgeModel", "walk", "[I", true)
  | 27 => ("NameForgeModel", "comeTo", "I", false)
  | 28 => ("NameForgeModel", "taken", "[I", true)
  | 29 => ("NameForgeModel", "state", "[I", true)
  | 30 => ("NameForgeModel", "number", "[I", true)
  | 31 => ("NameForgeModel", "needed", "[Z", true)
  | 32 => ("NameForgeModel", "given", "I", false)
  | 33 => ("NameForgeModel", "input", "[I", true)
  | 34 => ("NameForgeModel", "asked", "I", false)
  | 35 => ("NameForgeModel", "told", "I", false)
  | 36 => ("NameForgeModel", "heard", "[I", true)
  | 37 => ("NameForgeModel", "ran", "I", false)
  | 38 => ("NameForgeModel", "done", "I", false)
  | 39 => ("NameForgeModel", "now", "[I", true)
  | _ => ("NameForgeModel", "next", "[I", true)
def tyR : Nat → FieldType := fun k => match k with
  | 0 => .int
  | 1 => .int
  | 2 => .array .int
  | 3 => .array .int
  | 4 => .array .int
  | 5 => .array .int
  | 6 => .array .int
  | 7 => .array .int
  | 8 => .array .int
  | 9 => .array .int
  | 10 => .array .int
  | 11 => .boolean
  | 12 => .int
  | 13 => .array .int
  | 14 => .array .int
  | 15 => .array .int
  | 16 => .array .int
  | 17 => .int
  | 18 => .array .int
  | 19 => .array .int
  | 20 => .array .int
  | 21 => .array .int
  | 22 => .array .int
  | 23 => .array .int
  | 24 => .array .int
  | 25 => .array .int
  | 26 => .array .int
  | 27 => .int
  | 28 => .array .int
  | 29 => .array .int
  | 30 => .array .int
  | 31 => .array .boolean
  | 32 => .int
  | 33 => .array .int
  | 34 => .int
  | 35 => .int
  | 36 => .array .int
  | 37 => .int
  | 38 => .int
  | 39 => .array .int
  | _ => .array .int
theorem nmR : ∀ a, a < 41 → ∀ b, b < 41 → a ≠ b → (TR a).2.1 ≠ (TR b).2.1 := by decide +kernel
theorem tyR_ok : ∀ k, k < 41 → parseFieldDescriptor (TR k).2.2.1 = some (tyR k) := by decide +kernel
abbrev vCl : List vw_C := [(RN, TN, 7), (RP, TP, 10), (RS, TS, 9), (RG, TG, 14), (RK, TK, 8), (RD, TD, 6), (RA, TA, 14), (RR, TR, 41)]
abbrev b_N_block : ByteArray := prog_1_method_2_code
def y_N_block : MethodName := ⟨"NameForge", "block", "()I"⟩
abbrev b_N_put : ByteArray := prog_1_method_3_code
def y_N_put : MethodName := ⟨"NameForge", "put", "(IIIII)I"⟩
abbrev b_N_go : ByteArray := prog_1_method_4_code
def y_N_go : MethodName := ⟨"NameForge", "go", "(II)V"⟩
abbrev b_N_fork : ByteArray := prog_1_method_5_code
def y_N_fork : MethodName := ⟨"NameForge", "fork", "(IIII)V"⟩
abbrev b_N_stop : ByteArray := prog_1_method_6_code
def y_N_stop : MethodName := ⟨"NameForge", "stop", "(I)V"⟩
abbrev b_N_clear : ByteArray := prog_1_method_7_code
def y_N_clear : MethodName := ⟨"NameForge", "clear", "()V"⟩
abbrev b_N_build : ByteArray := prog_1_method_8_code
def y_N_build : MethodName := ⟨"NameForge", "build", "()I"⟩
abbrev b_N_look : ByteArray := prog_1_method_9_code
def y_N_look : MethodName := ⟨"NameForge", "look", "(II)I"⟩
abbrev b_N_phi : ByteArray := prog_1_method_10_code
def y_N_phi : MethodName := ⟨"NameForge", "phi", "(III)I"⟩
abbrev b_N_uses : ByteArray := prog_1_method_11_code
def y_N_uses : MethodName := ⟨"NameForge", "uses", "(III)I"⟩
abbrev b_N_name : ByteArray := prog_1_method_12_code
def y_N_name : MethodName := ⟨"NameForge", "name", "(II)I"⟩
abbrev b_N_give : ByteArray := prog_1_method_13_code
def y_N_give : MethodName := ⟨"NameForge", "give", "(I)Z"⟩
abbrev b_N_take : ByteArray := prog_1_method_14_code
def y_N_take : MethodName := ⟨"NameForge", "take", "()V"⟩
abbrev b_N_run : ByteArray := prog_1_method_15_code
def y_N_run : MethodName := ⟨"NameForge", "run", "(ZI)I"⟩
abbrev b_N_told : ByteArray := prog_1_method_16_code
def y_N_told : MethodName := ⟨"NameForge", "told", "()I"⟩
abbrev b_N_heard : ByteArray := prog_1_method_17_code
def y_N_heard : MethodName := ⟨"NameForge", "heard", "(I)I"⟩
abbrev b_N_spent : ByteArray := prog_1_method_18_code
def y_N_spent : MethodName := ⟨"NameForge", "spent", "(I)I"⟩
abbrev b_N_isPhiWhat : ByteArray := prog_1_method_19_code
def y_N_isPhiWhat : MethodName := ⟨"NameForge", "isPhiWhat", "(II)Z"⟩
abbrev b_N_isReachedInstruction : ByteArray := prog_1_method_20_code
def y_N_isReachedInstruction : MethodName := ⟨"NameForge", "isReachedInstruction", "(II)Z"⟩
abbrev b_N_isInstruction : ByteArray := prog_1_method_21_code
def y_N_isInstruction : MethodName := ⟨"NameForge", "isInstruction", "(IIII)Z"⟩
abbrev b_N_isVariable : ByteArray := prog_1_method_22_code
def y_N_isVariable : MethodName := ⟨"NameForge", "isVariable", "(I)Z"⟩
abbrev b_N_setsVariable : ByteArray := prog_1_method_23_code
def y_N_setsVariable : MethodName := ⟨"NameForge", "setsVariable", "(I)Z"⟩
abbrev b_N_readsX : ByteArray := prog_1_method_24_code
def y_N_readsX : MethodName := ⟨"NameForge", "readsX", "(I)Z"⟩
abbrev b_N_readsY : ByteArray := prog_1_method_25_code
def y_N_readsY : MethodName := ⟨"NameForge", "readsY", "(I)Z"⟩
abbrev b_N_calculate : ByteArray := prog_1_method_26_code
def y_N_calculate : MethodName := ⟨"NameForge", "calculate", "(III)I"⟩
abbrev b_N_bit : ByteArray := prog_1_method_27_code
def y_N_bit : MethodName := ⟨"NameForge", "bit", "(I)I"⟩
abbrev b_N_holds : ByteArray := prog_1_method_28_code
def y_N_holds : MethodName := ⟨"NameForge", "holds", "(II)Z"⟩
abbrev b_R_thrown : ByteArray := prog_9_method_2_code
def y_R_thrown : MethodName := ⟨"NameForgeModel", "thrown", "()I"⟩
abbrev b_R_fails : ByteArray := prog_9_method_3_code
def y_R_fails : MethodName := ⟨"NameForgeModel", "fails", "(ZI)Z"⟩
abbrev b_R_noBlock : ByteArray := prog_9_method_4_code
def y_R_noBlock : MethodName := ⟨"NameForgeModel", "noBlock", "(I)Z"⟩
abbrev b_R_noVariable : ByteArray := prog_9_method_5_code
def y_R_noVariable : MethodName := ⟨"NameForgeModel", "noVariable", "(I)Z"⟩
abbrev b_R_setsOne : ByteArray := prog_9_method_6_code
def y_R_setsOne : MethodName := ⟨"NameForgeModel", "setsOne", "(I)Z"⟩
abbrev b_R_usesFirst : ByteArray := prog_9_method_7_code
def y_R_usesFirst : MethodName := ⟨"NameForgeModel", "usesFirst", "(I)Z"⟩
abbrev b_R_usesSecond : ByteArray := prog_9_method_8_code
def y_R_usesSecond : MethodName := ⟨"NameForgeModel", "usesSecond", "(I)Z"⟩
abbrev b_R_block : ByteArray := prog_9_method_9_code
def y_R_block : MethodName := ⟨"NameForgeModel", "block", "()I"⟩
abbrev b_R_put : ByteArray := prog_9_method_10_code
def y_R_put : MethodName := ⟨"NameForgeModel", "put", "(IIIII)I"⟩
abbrev b_R_noTarget : ByteArray := prog_9_method_11_code
def y_R_noTarget : MethodName := ⟨"NameForgeModel", "noTarget", "(I)Z"⟩
abbrev b_R_go : ByteArray := prog_9_method_12_code
def y_R_go : MethodName := ⟨"NameForgeModel", "go", "(II)V"⟩
abbrev b_R_fork : ByteArray := prog_9_method_13_code
def y_R_fork : MethodName := ⟨"NameForgeModel", "fork", "(IIII)V"⟩
abbrev b_R_stop : ByteArray := prog_9_method_14_code
def y_R_stop : MethodName := ⟨"NameForgeModel", "stop", "(I)V"⟩
abbrev b_R_clear : ByteArray := prog_9_method_15_code
def y_R_clear : MethodName := ⟨"NameForgeModel", "clear", "()V"⟩
abbrev b_R_has : ByteArray := prog_9_method_16_code
def y_R_has : MethodName := ⟨"NameForgeModel", "has", "(II)Z"⟩
abbrev b_R_leadsTo : ByteArray := prog_9_method_17_code
def y_R_leadsTo : MethodName := ⟨"NameForgeModel", "leadsTo", "(I)I"⟩
abbrev b_R_reaches : ByteArray := prog_9_method_18_code
def y_R_reaches : MethodName := ⟨"NameForgeModel", "reaches", "()V"⟩
abbrev b_R_ones : ByteArray := prog_9_method_19_code
def y_R_ones : MethodName := ⟨"NameForgeModel", "ones", "(I)I"⟩
abbrev b_R_dominates : ByteArray := prog_9_method_20_code
def y_R_dominates : MethodName := ⟨"NameForgeModel", "dominates", "()V"⟩
abbrev b_R_isInFrontier : ByteArray := prog_9_method_21_code
def y_R_isInFrontier : MethodName := ⟨"NameForgeModel", "isInFrontier", "(II)Z"⟩
abbrev b_R_defined : ByteArray := prog_9_method_22_code
def y_R_defined : MethodName := ⟨"NameForgeModel", "defined", "(I)I"⟩
abbrev b_R_placePhis : ByteArray := prog_9_method_23_code
def y_R_placePhis : MethodName := ⟨"NameForgeModel", "placePhis", "()V"⟩
abbrev b_R_named : ByteArray := prog_9_method_24_code
def y_R_named : MethodName := ⟨"NameForgeModel", "named", "(II)I"⟩
abbrev b_R_nameBlock : ByteArray := prog_9_method_25_code
def y_R_nameBlock : MethodName := ⟨"NameForgeModel", "nameBlock", "(I)V"⟩
abbrev b_R_nameAll : ByteArray := prog_9_method_26_code
def y_R_nameAll : MethodName := ⟨"NameForgeModel", "nameAll", "()V"⟩
abbrev b_R_reckon : ByteArray := prog_9_method_27_code
def y_R_reckon : MethodName := ⟨"NameForgeModel", "reckon", "(III)I"⟩
abbrev b_R_becomes : ByteArray := prog_9_method_28_code
def y_R_becomes : MethodName := ⟨"NameForgeModel", "becomes", "(III)Z"⟩
abbrev b_R_meet : ByteArray := prog_9_method_29_code
def y_R_meet : MethodName := ⟨"NameForgeModel", "meet", "(III)Z"⟩
abbrev b_R_knows : ByteArray := prog_9_method_30_code
def y_R_knows : MethodName := ⟨"NameForgeModel", "knows", "(I)Z"⟩
abbrev b_R_ways : ByteArray := prog_9_method_31_code
def y_R_ways : MethodName := ⟨"NameForgeModel", "ways", "(I)I"⟩
abbrev b_R_pass : ByteArray := prog_9_method_32_code
def y_R_pass : MethodName := ⟨"NameForgeModel", "pass", "()Z"⟩
abbrev b_R_findKnown : ByteArray := prog_9_method_33_code
def y_R_findKnown : MethodName := ⟨"NameForgeModel", "findKnown", "()V"⟩
abbrev b_R_needs : ByteArray := prog_9_method_34_code
def y_R_needs : MethodName := ⟨"NameForgeModel", "needs", "(I)Z"⟩
abbrev b_R_needsParts : ByteArray := prog_9_method_35_code
def y_R_needsParts : MethodName := ⟨"NameForgeModel", "needsParts", "(I)Z"⟩
abbrev b_R_findNeeded : ByteArray := prog_9_method_36_code
def y_R_findNeeded : MethodName := ⟨"NameForgeModel", "findNeeded", "()V"⟩
abbrev b_R_build : ByteArray := prog_9_method_37_code
def y_R_build : MethodName := ⟨"NameForgeModel", "build", "()I"⟩
abbrev b_R_look : ByteArray := prog_9_method_38_code
def y_R_look : MethodName := ⟨"NameForgeModel", "look", "(II)I"⟩
abbrev b_R_phiOf : ByteArray := prog_9_method_39_code
def y_R_phiOf : MethodName := ⟨"NameForgeModel", "phiOf", "(II)I"⟩
abbrev b_R_phi : ByteArray := prog_9_method_40_code
def y_R_phi : MethodName := ⟨"NameForgeModel", "phi", "(III)I"⟩
abbrev b_R_uses : ByteArray := prog_9_method_41_code
def y_R_uses : MethodName := ⟨"NameForgeModel", "uses", "(III)I"⟩
abbrev b_R_name : ByteArray := prog_9_method_42_code
def y_R_name : MethodName := ⟨"NameForgeModel", "name", "(II)I"⟩
abbrev b_R_give : ByteArray := prog_9_method_43_code
def y_R_give : MethodName := ⟨"NameForgeModel", "give", "(I)Z"⟩
abbrev b_R_take : ByteArray := prog_9_method_44_code
def y_R_take : MethodName := ⟨"NameForgeModel", "take", "()V"⟩
abbrev b_R_tell : ByteArray := prog_9_method_45_code
def y_R_tell : MethodName := ⟨"NameForgeModel", "tell", "(I)V"⟩
abbrev b_R_ask : ByteArray := prog_9_method_46_code
def y_R_ask : MethodName := ⟨"NameForgeModel", "ask", "()I"⟩
abbrev b_R_plainValue : ByteArray := prog_9_method_47_code
def y_R_plainValue : MethodName := ⟨"NameForgeModel", "plainValue", "(I)I"⟩
abbrev b_R_plainBlock : ByteArray := prog_9_method_48_code
def y_R_plainBlock : MethodName := ⟨"NameForgeModel", "plainBlock", "(I)V"⟩
abbrev b_R_value : ByteArray := prog_9_method_49_code
def y_R_value : MethodName := ⟨"NameForgeModel", "value", "(I)I"⟩
abbrev b_R_formedBlock : ByteArray := prog_9_method_50_code
def y_R_formedBlock : MethodName := ⟨"NameForgeModel", "formedBlock", "(II)V"⟩
abbrev b_R_behind : ByteArray := prog_9_method_51_code
def y_R_behind : MethodName := ⟨"NameForgeModel", "behind", "(IZ)I"⟩
abbrev b_R_run : ByteArray := prog_9_method_52_code
def y_R_run : MethodName := ⟨"NameForgeModel", "run", "(ZI)I"⟩
abbrev b_R_told : ByteArray := prog_9_method_53_code
def y_R_told : MethodName := ⟨"NameForgeModel", "told", "()I"⟩
abbrev b_R_heard : ByteArray := prog_9_method_54_code
def y_R_heard : MethodName := ⟨"NameForgeModel", "heard", "(I)I"⟩
abbrev b_R_spent : ByteArray := prog_9_method_55_code
def y_R_spent : MethodName := ⟨"NameForgeModel", "spent", "(I)I"⟩
abbrev b_K_settle : ByteArray := prog_2_method_2_code
def y_K_settle : MethodName := ⟨"NameForge$Known", "settle", "()V"⟩
abbrev b_K_isWayTaken : ByteArray := prog_2_method_3_code
def y_K_isWayTaken : MethodName := ⟨"NameForge$Known", "isWayTaken", "(II)Z"⟩
abbrev b_K_passBlock : ByteArray := prog_2_method_4_code
def y_K_passBlock : MethodName := ⟨"NameForge$Known", "passBlock", "(I)V"⟩
abbrev b_K_passPhi : ByteArray := prog_2_method_5_code
def y_K_passPhi : MethodName := ⟨"NameForge$Known", "passPhi", "(II)V"⟩
abbrev b_K_passInstruction : ByteArray := prog_2_method_6_code
def y_K_passInstruction : MethodName := ⟨"NameForge$Known", "passInstruction", "(II)V"⟩
abbrev b_K_raise : ByteArray := prog_2_method_7_code
def y_K_raise : MethodName := ⟨"NameForge$Known", "raise", "(III)V"⟩
abbrev b_K_passEnd : ByteArray := prog_2_method_8_code
def y_K_passEnd : MethodName := ⟨"NameForge$Known", "passEnd", "(I)V"⟩
abbrev b_K_waysTaken : ByteArray := prog_2_method_9_code
def y_K_waysTaken : MethodName := ⟨"NameForge$Known", "waysTaken", "(I)I"⟩
abbrev b_A_addInput : ByteArray := prog_3_method_2_code
def y_A_addInput : MethodName := ⟨"NameForge$Machine", "addInput", "(I)Z"⟩
abbrev b_A_execute : ByteArray := prog_3_method_3_code
def y_A_execute : MethodName := ⟨"NameForge$Machine", "execute", "(ZI)Z"⟩
abbrev b_A_begin : ByteArray := prog_3_method_4_code
def y_A_begin : MethodName := ⟨"NameForge$Machine", "begin", "()V"⟩
abbrev b_A_passPlain : ByteArray := prog_3_method_5_code
def y_A_passPlain : MethodName := ⟨"NameForge$Machine", "passPlain", "(I)I"⟩
abbrev b_A_passBecome : ByteArray := prog_3_method_6_code
def y_A_passBecome : MethodName := ⟨"NameForge$Machine", "passBecome", "(II)I"⟩
abbrev b_A_choose : ByteArray := prog_3_method_7_code
def y_A_choose : MethodName := ⟨"NameForge$Machine", "choose", "(II)V"⟩
abbrev b_A_isKept : ByteArray := prog_3_method_8_code
def y_A_isKept : MethodName := ⟨"NameForge$Machine", "isKept", "(I)Z"⟩
abbrev b_A_valueOf : ByteArray := prog_3_method_9_code
def y_A_valueOf : MethodName := ⟨"NameForge$Machine", "valueOf", "(I)I"⟩
abbrev b_A_perform : ByteArray := prog_3_method_10_code
def y_A_perform : MethodName := ⟨"NameForge$Machine", "perform", "(III)I"⟩
abbrev b_A_keep : ByteArray := prog_3_method_11_code
def y_A_keep : MethodName := ⟨"NameForge$Machine", "keep", "(I)V"⟩
abbrev b_A_nextInput : ByteArray := prog_3_method_12_code
def y_A_nextInput : MethodName := ⟨"NameForge$Machine", "nextInput", "()I"⟩
abbrev b_A_nextOf : ByteArray := prog_3_method_13_code
def y_A_nextOf : MethodName := ⟨"NameForge$Machine", "nextOf", "(II)I"⟩
abbrev b_G_nameAll : ByteArray := prog_4_method_2_code
def y_G_nameAll : MethodName := ⟨"NameForge$Naming", "nameAll", "()V"⟩
abbrev b_G_phiVariable : ByteArray := prog_4_method_3_code
def y_G_phiVariable : MethodName := ⟨"NameForge$Naming", "phiVariable", "(II)I"⟩
abbrev b_G_findDefined : ByteArray := prog_4_method_4_code
def y_G_findDefined : MethodName := ⟨"NameForge$Naming", "findDefined", "()V"⟩
abbrev b_G_placePhis : ByteArray := prog_4_method_5_code
def y_G_placePhis : MethodName := ⟨"NameForge$Naming", "placePhis", "()V"⟩
abbrev b_G_spread : ByteArray := prog_4_method_6_code
def y_G_spread : MethodName := ⟨"NameForge$Naming", "spread", "(II)Z"⟩
abbrev b_G_nameBlock : ByteArray := prog_4_method_7_code
def y_G_nameBlock : MethodName := ⟨"NameForge$Naming", "nameBlock", "(I)V"⟩
abbrev b_G_nameInstruction : ByteArray := prog_4_method_8_code
def y_G_nameInstruction : MethodName := ⟨"NameForge$Naming", "nameInstruction", "(II[I)V"⟩
abbrev b_G_newName : ByteArray := prog_4_method_9_code
def y_G_newName : MethodName := ⟨"NameForge$Naming", "newName", "(III)I"⟩
abbrev b_D_collect : ByteArray := prog_5_method_2_code
def y_D_collect : MethodName := ⟨"NameForge$Needed", "collect", "()V"⟩
abbrev b_D_needByBlock : ByteArray := prog_5_method_3_code
def y_D_needByBlock : MethodName := ⟨"NameForge$Needed", "needByBlock", "(I)V"⟩
abbrev b_D_needPartsOf : ByteArray := prog_5_method_4_code
def y_D_needPartsOf : MethodName := ⟨"NameForge$Needed", "needPartsOf", "(I)V"⟩
abbrev b_D_needPartsOfPhi : ByteArray := prog_5_method_5_code
def y_D_needPartsOfPhi : MethodName := ⟨"NameForge$Needed", "needPartsOfPhi", "(II)V"⟩
abbrev b_D_need : ByteArray := prog_5_method_6_code
def y_D_need : MethodName := ⟨"NameForge$Needed", "need", "(I)V"⟩
abbrev b_P_has : ByteArray := prog_6_method_2_code
def y_P_has : MethodName := ⟨"NameForge$Program", "has", "(I)Z"⟩
abbrev b_P_isTarget : ByteArray := prog_6_method_3_code
def y_P_isTarget : MethodName := ⟨"NameForge$Program", "isTarget", "(I)Z"⟩
abbrev b_P_addBlock : ByteArray := prog_6_method_4_code
def y_P_addBlock : MethodName := ⟨"NameForge$Program", "addBlock", "()I"⟩
abbrev b_P_append : ByteArray := prog_6_method_5_code
def y_P_append : MethodName := ⟨"NameForge$Program", "append", "(IIIII)I"⟩
abbrev b_P_setEnd : ByteArray := prog_6_method_6_code
def y_P_setEnd : MethodName := ⟨"NameForge$Program", "setEnd", "(IIIII)V"⟩
abbrev b_P_ways : ByteArray := prog_6_method_7_code
def y_P_ways : MethodName := ⟨"NameForge$Program", "ways", "(I)I"⟩
abbrev b_S_survey : ByteArray := prog_7_method_2_code
def y_S_survey : MethodName := ⟨"NameForge$Shape", "survey", "()V"⟩
abbrev b_S_comeBy : ByteArray := prog_7_method_3_code
def y_S_comeBy : MethodName := ⟨"NameForge$Shape", "comeBy", "(I)I"⟩
abbrev b_S_findBefore : ByteArray := prog_7_method_4_code
def y_S_findBefore : MethodName := ⟨"NameForge$Shape", "findBefore", "(I)I"⟩
abbrev b_S_findParent : ByteArray := prog_7_method_5_code
def y_S_findParent : MethodName := ⟨"NameForge$Shape", "findParent", "(I)I"⟩
abbrev b_S_findFrontier : ByteArray := prog_7_method_6_code
def y_S_findFrontier : MethodName := ⟨"NameForge$Shape", "findFrontier", "(I)I"⟩
abbrev b_S_putInOrder : ByteArray := prog_7_method_7_code
def y_S_putInOrder : MethodName := ⟨"NameForge$Shape", "putInOrder", "()V"⟩
theorem wd_1 : (.initialized "NameForge" : Cond) ∈ wT := wT_in (tb_0 _ (List.mem_of_getElem? (i := 1) rfl)) rfl
theorem wd_2 : (.initialized "NameForge$Program" : Cond) ∈ wT := wT_in (tb_0 _ (List.mem_of_getElem? (i := 2) rfl)) rfl
theorem wd_3 : (.initialized "NameForge$Shape" : Cond) ∈ wT := wT_in (tb_0 _ (List.mem_of_getElem? (i := 3) rfl)) rfl
theorem wd_4 : (.initialized "NameForge$Naming" : Cond) ∈ wT := wT_in (tb_0 _ (List.mem_of_getElem? (i := 4) rfl)) rfl
theorem wd_5 : (.initialized "NameForge$Known" : Cond) ∈ wT := wT_in (tb_0 _ (List.mem_of_getElem? (i := 5) rfl)) rfl
theorem wd_6 : (.initialized "NameForge$Needed" : Cond) ∈ wT := wT_in (tb_0 _ (List.mem_of_getElem? (i := 6) rfl)) rfl
theorem wd_7 : (.initialized "NameForge$Machine" : Cond) ∈ wT := wT_in (tb_0 _ (List.mem_of_getElem? (i := 7) rfl)) rfl
theorem wd_8 : (.initialized "NameForgeModel" : Cond) ∈ wT := wT_in (tb_0 _ (List.mem_of_getElem? (i := 8) rfl)) rfl
theorem wd_12 : (.initialized "java/lang/IllegalStateException" : Cond) ∈ wT := wT_in (tb_0 _ (List.mem_of_getElem? (i := 12) rfl)) rfl
theorem wd_13 : (.initialized "java/lang/IllegalArgumentException" : Cond) ∈ wT := wT_in (tb_0 _ (List.mem_of_getElem? (i := 13) rfl)) rfl
theorem wd_14 : (.initialized "java/util/Arrays" : Cond) ∈ wT := wT_in (tb_0 _ (List.mem_of_getElem? (i := 14) rfl)) rfl
theorem wd_15 : (.initialized "java/util/NoSuchElementException" : Cond) ∈ wT := wT_in (tb_0 _ (List.mem_of_getElem? (i := 15) rfl)) rfl
theorem wd_16 : (.initialized "java/lang/Integer" : Cond) ∈ wT := wT_in (tb_0 _ (List.mem_of_getElem? (i := 16) rfl)) rfl
theorem wd_33 : (.fieldLink "NameForge" 65 "NameForge$Program" "blocks" "I" : Cond) ∈ wT := wT_in (tb_0 _ (List.mem_of_getElem? (i := 33) rfl)) rfl
theorem wd_34 : (.fieldLink "NameForge$Program" 41 "NameForge$Program" "blocks" "I" : Cond) ∈ wT := wT_in (tb_0 _ (List.mem_of_getElem? (i := 34) rfl)) rfl
theorem wd_35 : (.fieldLink "NameForge$Shape" 42 "NameForge$Program" "blocks" "I" : Cond) ∈ wT := wT_in (tb_0 _ (List.mem_of_getElem? (i := 35) rfl)) rfl
theorem wd_36 : (.fieldLink "NameForge$Needed" 35 "NameForge$Program" "blocks" "I" : Cond) ∈ wT := wT_in (tb_0 _ (List.mem_of_getElem? (i := 36) rfl)) rfl
theorem wd_37 : (.fieldLink "NameForge$Naming" 91 "NameForge$Program" "blocks" "I" : Cond) ∈ wT := wT_in (tb_0 _ (List.mem_of_getElem? (i := 37) rfl)) rfl
theorem wd_38 : (.fieldLink "NameForge$Known" 91 "NameForge$Program" "blocks" "I" : Cond) ∈ wT := wT_in (tb_0 _ (List.mem_of_getElem? (i := 38) rfl)) rfl
theorem wd_39 : (.fieldLink "NameForge$Program" 9 "NameForge$Program" "length" "[I" : Cond) ∈ wT := wT_in (tb_0 _ (List.mem_of_getElem? (i := 39) rfl)) rfl
theorem wd_40 : (.fieldLink "NameForge$Needed" 59 "NameForge$Program" "length" "[I" : Cond) ∈ wT := wT_in (tb_0 _ (List.mem_of_getElem? (i := 40) rfl)) rfl
theorem wd_41 : (.fieldLink "NameForge" 93 "NameForge$Program" "length" "[I" : Cond) ∈ wT := wT_in (tb_0 _ (List.mem_of_getElem? (i := 41) rfl)) rfl
theorem wd_42 : (.fieldLink "NameForge$Naming" 96 "NameForge$Program" "length" "[I" : Cond) ∈ wT := wT_in (tb_0 _ (List.mem_of_getElem? (i := 42) rfl)) rfl
theorem wd_43 : (.fieldLink "NameForge$Known" 76 "NameForge$Program" "length" "[I" : Cond) ∈ wT := wT_in (tb_0 _ (List.mem_of_getElem? (i := 43) rfl)) rfl
theorem wd_44 : (.fieldLink "NameForge$Machine" 76 "NameForge$Program" "length" "[I" : Cond) ∈ wT := wT_in (tb_0 _ (List.mem_of_getElem? (i := 44) rfl)) rfl
theorem wd_45 : (.fieldLink "NameForge$Program" 17 "NameForge$Program" "kind" "[[I" : Cond) ∈ wT := wT_in (tb_0 _ (List.mem_of_getElem? (i := 45) rfl)) rfl
theorem wd_46 : (.fieldLink "NameForge$Needed" 62 "NameForge$Program" "kind" "[[I" : Cond) ∈ wT := wT_in (tb_0 _ (List.mem_of_getElem? (i := 46) rfl)) rfl
theorem wd_47 : (.fieldLink "NameForge$Naming" 99 "NameForge$Program" "kind" "[[I" : Cond) ∈ wT := wT_in (tb_0 _ (List.mem_of_getElem? (i := 47) rfl)) rfl
theorem wd_48 : (.fieldLink "NameForge$Machine" 81 "NameForge$Program" "kind" "[[I" : Cond) ∈ wT := wT_in (tb_0 _ (List.mem_of_getElem? (i := 48) rfl)) rfl
theorem wd_49 : (.fieldLink "NameForge$Known" 107 "NameForge$Program" "kind" "[[I" : Cond) ∈ wT := wT_in (tb_0 _ (List.mem_of_getElem? (i := 49) rfl)) rfl
theorem wd_50 : (.fieldLink "NameForge$Program" 20 "NameForge$Program" "d" "[[I" : Cond) ∈ wT := wT_in (tb_0 _ (List.mem_of_getElem? (i := 50) rfl)) rfl
theorem wd_51 : (.fieldLink "NameForge$Naming" 106 "NameForge$Program" "d" "[[I" : Cond) ∈ wT := wT_in (tb_0 _ (List.mem_of_getElem? (i := 51) rfl)) rfl
theorem wd_52 : (.fieldLink "NameForge$Machine" 105 "NameForge$Program" "d" "[[I" : Cond) ∈ wT := wT_in (tb_0 _ (List.mem_of_getElem? (i := 52) rfl)) rfl
theorem wd_53 : (.fieldLink "NameForge$Program" 23 "NameForge$Program" "x" "[[I" : Cond) ∈ wT := wT_in (tb_0 _ (List.mem_of_getElem? (i := 53) rfl)) rfl
theorem wd_54 : (.fieldLink "NameForge$Machine" 85 "NameForge$Program" "x" "[[I" : Cond) ∈ wT := wT_in (tb_0 _ (List.mem_of_getElem? (i := 54) rfl)) rfl
theorem wd_55 : (.fieldLink "NameForge$Known" 116 "NameForge$Program" "x" "[[I" : Cond) ∈ wT := wT_in (tb_0 _ (List.mem_of_getElem? (i := 55) rfl)) rfl
theorem wd_56 : (.fieldLink "NameForge$Naming" 135 "NameForge$Program" "x" "[[I" : Cond) ∈ wT := wT_in (tb_0 _ (List.mem_of_getElem? (i := 56) rfl)) rfl
theorem wd_57 : (.fieldLink "NameForge$Program" 26 "NameForge$Program" "y" "[[I" : Cond) ∈ wT := wT_in (tb_0 _ (List.mem_of_getElem? (i := 57) rfl)) rfl
theorem wd_58 : (.fieldLink "NameForge$Machine" 88 "NameForge$Program" "y" "[[I" : Cond) ∈ wT := wT_in (tb_0 _ (List.mem_of_getElem? (i := 58) rfl)) rfl
theorem wd_59 : (.fieldLink "NameForge$Naming" 141 "NameForge$Program" "y" "[[I" : Cond) ∈ wT := wT_in (tb_0 _ (List.mem_of_getElem? (i := 59) rfl)) rfl
theorem wd_60 : (.fieldLink "NameForge$Program" 29 "NameForge$Program" "end" "[I" : Cond) ∈ wT := wT_in (tb_0 _ (List.mem_of_getElem? (i := 60) rfl)) rfl
theorem wd_61 : (.fieldLink "NameForge$Naming" 126 "NameForge$Program" "end" "[I" : Cond) ∈ wT := wT_in (tb_0 _ (List.mem_of_getElem? (i := 61) rfl)) rfl
theorem wd_62 : (.fieldLink "NameForge$Machine" 176 "NameForge$Program" "end" "[I" : Cond) ∈ wT := wT_in (tb_0 _ (List.mem_of_getElem? (i := 62) rfl)) rfl
theorem wd_63 : (.fieldLink "NameForge$Program" 32 "NameForge$Program" "test" "[I" : Cond) ∈ wT := wT_in (tb_0 _ (List.mem_of_getElem? (i := 63) rfl)) rfl
theorem wd_64 : (.fieldLink "NameForge$Machine" 108 "NameForge$Program" "test" "[I" : Cond) ∈ wT := wT_in (tb_0 _ (List.mem_of_getElem? (i := 64) rfl)) rfl
theorem wd_65 : (.fieldLink "NameForge$Naming" 129 "NameForge$Program" "test" "[I" : Cond) ∈ wT := wT_in (tb_0 _ (List.mem_of_getElem? (i := 65) rfl)) rfl
theorem wd_66 : (.fieldLink "NameForge$Program" 35 "NameForge$Program" "yes" "[I" : Cond) ∈ wT := wT_in (tb_0 _ (List.mem_of_getElem? (i := 66) rfl)) rfl
theorem wd_67 : (.fieldLink "NameForge$Known" 132 "NameForge$Program" "yes" "[I" : Cond) ∈ wT := wT_in (tb_0 _ (List.mem_of_getElem? (i := 67) rfl)) rfl
theorem wd_68 : (.fieldLink "NameForge$Machine" 179 "NameForge$Program" "yes" "[I" : Cond) ∈ wT := wT_in (tb_0 _ (List.mem_of_getElem? (i := 68) rfl)) rfl
theorem wd_69 : (.fieldLink "NameForge$Program" 38 "NameForge$Program" "no" "[I" : Cond) ∈ wT := wT_in (tb_0 _ (List.mem_of_getElem? (i := 69) rfl)) rfl
theorem wd_70 : (.fieldLink "NameForge$Known" 135 "NameForge$Program" "no" "[I" : Cond) ∈ wT := wT_in (tb_0 _ (List.mem_of_getElem? (i := 70) rfl)) rfl
theorem wd_71 : (.fieldLink "NameForge$Machine" 182 "NameForge$Program" "no" "[I" : Cond) ∈ wT := wT_in (tb_0 _ (List.mem_of_getElem? (i := 71) rfl)) rfl
theorem wd_72 : (.lays "NameForge$Program" "NameForge$Program" "blocks" "I" : Cond) ∈ wT := wT_in (tb_0 _ (List.mem_of_getElem? (i := 72) rfl)) rfl
theorem wd_74 : (.laysFinal "NameForge$Program" "NameForge$Program" "length" "[I" : Cond) ∈ wT := wT_in (tb_0 _ (List.mem_of_getElem? (i := 74) rfl)) rfl
theorem wd_76 : (.laysFinal "NameForge$Program" "NameForge$Program" "kind" "[[I" : Cond) ∈ wT := wT_in (tb_0 _ (List.mem_of_getElem? (i := 76) rfl)) rfl
theorem wd_78 : (.laysFinal "NameForge$Program" "NameForge$Program" "d" "[[I" : Cond) ∈ wT := wT_in (tb_0 _ (List.mem_of_getElem? (i := 78) rfl)) rfl
theorem wd_80 : (.laysFinal "NameForge$Program" "NameForge$Program" "x" "[[I" : Cond) ∈ wT := wT_in (tb_0 _ (List.mem_of_getElem? (i := 80) rfl)) rfl
theorem wd_82 : (.laysFinal "NameForge$Program" "NameForge$Program" "y" "[[I" : Cond) ∈ wT := wT_in (tb_0 _ (List.mem_of_getElem? (i := 82) rfl)) rfl
theorem wd_84 : (.laysFinal "NameForge$Program" "NameForge$Program" "end" "[I" : Cond) ∈ wT := wT_in (tb_0 _ (List.mem_of_getElem? (i := 84) rfl)) rfl
theorem wd_86 : (.laysFinal "NameForge$Program" "NameForge$Program" "test" "[I" : Cond) ∈ wT := wT_in (tb_0 _ (List.mem_of_getElem? (i := 86) rfl)) rfl
theorem wd_88 : (.laysFinal "NameForge$Program" "NameForge$Program" "yes" "[I" : Cond) ∈ wT := wT_in (tb_0 _ (List.mem_of_getElem? (i := 88) rfl)) rfl
theorem wd_90 : (.laysFinal "NameForge$Program" "NameForge$Program" "no" "[I" : Cond) ∈ wT := wT_in (tb_0 _ (List.mem_of_getElem? (i := 90) rfl)) rfl
theorem wd_100 : (.fieldLink "NameForge$Shape" 30 "NameForge$Shape" "program" "LNameForge$Program;" : Cond) ∈ wT := wT_in (tb_0 _ (List.mem_of_getElem? (i := 100) rfl)) rfl
theorem wd_101 : (.fieldLink "NameForge$Shape" 38 "NameForge$Shape" "reached" "I" : Cond) ∈ wT := wT_in (tb_0 _ (List.mem_of_getElem? (i := 101) rfl)) rfl
theorem wd_102 : (.fieldLink "NameForge" 143 "NameForge$Shape" "reached" "I" : Cond) ∈ wT := wT_in (tb_0 _ (List.mem_of_getElem? (i := 102) rfl)) rfl
theorem wd_103 : (.fieldLink "NameForge$Shape" 9 "NameForge$Shape" "before" "[I" : Cond) ∈ wT := wT_in (tb_0 _ (List.mem_of_getElem? (i := 103) rfl)) rfl
theorem wd_104 : (.fieldLink "NameForge" 242 "NameForge$Shape" "before" "[I" : Cond) ∈ wT := wT_in (tb_0 _ (List.mem_of_getElem? (i := 104) rfl)) rfl
theorem wd_105 : (.fieldLink "NameForge$Shape" 15 "NameForge$Shape" "under" "[I" : Cond) ∈ wT := wT_in (tb_0 _ (List.mem_of_getElem? (i := 105) rfl)) rfl
theorem wd_106 : (.fieldLink "NameForge$Shape" 18 "NameForge$Shape" "parent" "[I" : Cond) ∈ wT := wT_in (tb_0 _ (List.mem_of_getElem? (i := 106) rfl)) rfl
theorem wd_107 : (.fieldLink "NameForge$Naming" 119 "NameForge$Shape" "parent" "[I" : Cond) ∈ wT := wT_in (tb_0 _ (List.mem_of_getElem? (i := 107) rfl)) rfl
theorem wd_108 : (.fieldLink "NameForge" 150 "NameForge$Shape" "parent" "[I" : Cond) ∈ wT := wT_in (tb_0 _ (List.mem_of_getElem? (i := 108) rfl)) rfl
theorem wd_109 : (.fieldLink "NameForge$Shape" 21 "NameForge$Shape" "frontier" "[I" : Cond) ∈ wT := wT_in (tb_0 _ (List.mem_of_getElem? (i := 109) rfl)) rfl
theorem wd_110 : (.fieldLink "NameForge$Naming" 113 "NameForge$Shape" "frontier" "[I" : Cond) ∈ wT := wT_in (tb_0 _ (List.mem_of_getElem? (i := 110) rfl)) rfl
theorem wd_111 : (.fieldLink "NameForge$Shape" 24 "NameForge$Shape" "order" "[I" : Cond) ∈ wT := wT_in (tb_0 _ (List.mem_of_getElem? (i := 111) rfl)) rfl
theorem wd_112 : (.fieldLink "NameForge$Naming" 80 "NameForge$Shape" "order" "[I" : Cond) ∈ wT := wT_in (tb_0 _ (List.mem_of_getElem? (i := 112) rfl)) rfl
theorem wd_113 : (.fieldLink "NameForge$Known" 56 "NameForge$Shape" "order" "[I" : Cond) ∈ wT := wT_in (tb_0 _ (List.mem_of_getElem? (i := 113) rfl)) rfl
theorem wd_114 : (.fieldLink "NameForge$Naming" 75 "NameForge$Shape" "ordered" "I" : Cond) ∈ wT := wT_in (tb_0 _ (List.mem_of_getElem? (i := 114) rfl)) rfl
theorem wd_115 : (.fieldLink "NameForge$Known" 51 "NameForge$Shape" "ordered" "I" : Cond) ∈ wT := wT_in (tb_0 _ (List.mem_of_getElem? (i := 115) rfl)) rfl
theorem wd_116 : (.fieldLink "NameForge$Shape" 69 "NameForge$Shape" "ordered" "I" : Cond) ∈ wT := wT_in (tb_0 _ (List.mem_of_getElem? (i := 116) rfl)) rfl
theorem wd_117 : (.fieldLink "NameForge$Shape" 27 "NameForge$Shape" "waiting" "[I" : Cond) ∈ wT := wT_in (tb_0 _ (List.mem_of_getElem? (i := 117) rfl)) rfl
theorem wd_118 : (.laysFinal "NameForge$Shape" "NameForge$Shape" "program" "LNameForge$Program;" : Cond) ∈ wT := wT_in (tb_0 _ (List.mem_of_getElem? (i := 118) rfl)) rfl
theorem wd_120 : (.lays "NameForge$Shape" "NameForge$Shape" "reached" "I" : Cond) ∈ wT := wT_in (tb_0 _ (List.mem_of_getElem? (i := 120) rfl)) rfl
theorem wd_122 : (.laysFinal "NameForge$Shape" "NameForge$Shape" "before" "[I" : Cond) ∈ wT := wT_in (tb_0 _ (List.mem_of_getElem? (i := 122) rfl)) rfl
theorem wd_124 : (.laysFinal "NameForge$Shape" "NameForge$Shape" "under" "[I" : Cond) ∈ wT := wT_in (tb_0 _ (List.mem_of_getElem? (i := 124) rfl)) rfl
theorem wd_126 : (.laysFinal "NameForge$Shape" "NameForge$Shape" "parent" "[I" : Cond) ∈ wT := wT_in (tb_0 _ (List.mem_of_getElem? (i := 126) rfl)) rfl
theorem wd_128 : (.laysFinal "NameForge$Shape" "NameForge$Shape" "frontier" "[I" : Cond) ∈ wT := wT_in (tb_0 _ (List.mem_of_getElem? (i := 128) rfl)) rfl
theorem wd_130 : (.laysFinal "NameForge$Shape" "NameForge$Shape" "order" "[I" : Cond) ∈ wT := wT_in (tb_0 _ (List.mem_of_getElem? (i := 130) rfl)) rfl
theorem wd_132 : (.lays "NameForge$Shape" "NameForge$Shape" "ordered" "I" : Cond) ∈ wT := wT_in (tb_0 _ (List.mem_of_getElem? (i := 132) rfl)) rfl
theorem wd_134 : (.laysFinal "NameForge$Shape" "NameForge$Shape" "waiting" "[I" : Cond) ∈ wT := wT_in (tb_0 _ (List.mem_of_getElem? (i := 134) rfl)) rfl
theorem wd_144 : (.fieldLink "NameForge$Naming" 47 "NameForge$Naming" "program" "LNameForge$Program;" : Cond) ∈ wT := wT_in (tb_0 _ (List.mem_of_getElem? (i := 144) rfl)) rfl
theorem wd_145 : (.fieldLink "NameForge$Naming" 51 "NameForge$Naming" "shape" "LNameForge$Shape;" : Cond) ∈ wT := wT_in (tb_0 _ (List.mem_of_getElem? (i := 145) rfl)) rfl
theorem wd_146 : (.fieldLink "NameForge$Naming" 67 "NameForge$Naming" "names" "I" : Cond) ∈ wT := wT_in (tb_0 _ (List.mem_of_getElem? (i := 146) rfl)) rfl
theorem wd_147 : (.fieldLink "NameForge" 133 "NameForge$Naming" "names" "I" : Cond) ∈ wT := wT_in (tb_0 _ (List.mem_of_getElem? (i := 147) rfl)) rfl
theorem wd_148 : (.fieldLink "NameForge$Naming" 9 "NameForge$Naming" "phis" "[I" : Cond) ∈ wT := wT_in (tb_0 _ (List.mem_of_getElem? (i := 148) rfl)) rfl
theorem wd_149 : (.fieldLink "NameForge$Known" 67 "NameForge$Naming" "phis" "[I" : Cond) ∈ wT := wT_in (tb_0 _ (List.mem_of_getElem? (i := 149) rfl)) rfl
theorem wd_150 : (.fieldLink "NameForge$Machine" 141 "NameForge$Naming" "phis" "[I" : Cond) ∈ wT := wT_in (tb_0 _ (List.mem_of_getElem? (i := 150) rfl)) rfl
theorem wd_151 : (.fieldLink "NameForge" 153 "NameForge$Naming" "phis" "[I" : Cond) ∈ wT := wT_in (tb_0 _ (List.mem_of_getElem? (i := 151) rfl)) rfl
theorem wd_152 : (.fieldLink "NameForge$Naming" 15 "NameForge$Naming" "defined" "[I" : Cond) ∈ wT := wT_in (tb_0 _ (List.mem_of_getElem? (i := 152) rfl)) rfl
theorem wd_153 : (.fieldLink "NameForge$Naming" 20 "NameForge$Naming" "phiName" "[[I" : Cond) ∈ wT := wT_in (tb_0 _ (List.mem_of_getElem? (i := 153) rfl)) rfl
theorem wd_154 : (.fieldLink "NameForge$Known" 100 "NameForge$Naming" "phiName" "[[I" : Cond) ∈ wT := wT_in (tb_0 _ (List.mem_of_getElem? (i := 154) rfl)) rfl
theorem wd_155 : (.fieldLink "NameForge$Machine" 148 "NameForge$Naming" "phiName" "[[I" : Cond) ∈ wT := wT_in (tb_0 _ (List.mem_of_getElem? (i := 155) rfl)) rfl
theorem wd_156 : (.fieldLink "NameForge" 177 "NameForge$Naming" "phiName" "[[I" : Cond) ∈ wT := wT_in (tb_0 _ (List.mem_of_getElem? (i := 156) rfl)) rfl
theorem wd_157 : (.fieldLink "NameForge$Naming" 23 "NameForge$Naming" "atEnd" "[[I" : Cond) ∈ wT := wT_in (tb_0 _ (List.mem_of_getElem? (i := 157) rfl)) rfl
theorem wd_158 : (.fieldLink "NameForge$Known" 97 "NameForge$Naming" "atEnd" "[[I" : Cond) ∈ wT := wT_in (tb_0 _ (List.mem_of_getElem? (i := 158) rfl)) rfl
theorem wd_159 : (.fieldLink "NameForge$Needed" 99 "NameForge$Naming" "atEnd" "[[I" : Cond) ∈ wT := wT_in (tb_0 _ (List.mem_of_getElem? (i := 159) rfl)) rfl
theorem wd_160 : (.fieldLink "NameForge$Machine" 138 "NameForge$Naming" "atEnd" "[[I" : Cond) ∈ wT := wT_in (tb_0 _ (List.mem_of_getElem? (i := 160) rfl)) rfl
theorem wd_161 : (.fieldLink "NameForge" 181 "NameForge$Naming" "atEnd" "[[I" : Cond) ∈ wT := wT_in (tb_0 _ (List.mem_of_getElem? (i := 161) rfl)) rfl
theorem wd_162 : (.fieldLink "NameForge$Naming" 26 "NameForge$Naming" "made" "[[I" : Cond) ∈ wT := wT_in (tb_0 _ (List.mem_of_getElem? (i := 162) rfl)) rfl
theorem wd_163 : (.fieldLink "NameForge$Needed" 74 "NameForge$Naming" "made" "[[I" : Cond) ∈ wT := wT_in (tb_0 _ (List.mem_of_getElem? (i := 163) rfl)) rfl
theorem wd_164 : (.fieldLink "NameForge$Known" 81 "NameForge$Naming" "made" "[[I" : Cond) ∈ wT := wT_in (tb_0 _ (List.mem_of_getElem? (i := 164) rfl)) rfl
theorem wd_165 : (.fieldLink "NameForge$Machine" 118 "NameForge$Naming" "made" "[[I" : Cond) ∈ wT := wT_in (tb_0 _ (List.mem_of_getElem? (i := 165) rfl)) rfl
theorem wd_166 : (.fieldLink "NameForge" 189 "NameForge$Naming" "made" "[[I" : Cond) ∈ wT := wT_in (tb_0 _ (List.mem_of_getElem? (i := 166) rfl)) rfl
theorem wd_167 : (.fieldLink "NameForge$Naming" 29 "NameForge$Naming" "usedX" "[[I" : Cond) ∈ wT := wT_in (tb_0 _ (List.mem_of_getElem? (i := 167) rfl)) rfl
theorem wd_168 : (.fieldLink "NameForge$Needed" 66 "NameForge$Naming" "usedX" "[[I" : Cond) ∈ wT := wT_in (tb_0 _ (List.mem_of_getElem? (i := 168) rfl)) rfl
theorem wd_169 : (.fieldLink "NameForge$Known" 110 "NameForge$Naming" "usedX" "[[I" : Cond) ∈ wT := wT_in (tb_0 _ (List.mem_of_getElem? (i := 169) rfl)) rfl
theorem wd_170 : (.fieldLink "NameForge$Machine" 126 "NameForge$Naming" "usedX" "[[I" : Cond) ∈ wT := wT_in (tb_0 _ (List.mem_of_getElem? (i := 170) rfl)) rfl
theorem wd_171 : (.fieldLink "NameForge" 192 "NameForge$Naming" "usedX" "[[I" : Cond) ∈ wT := wT_in (tb_0 _ (List.mem_of_getElem? (i := 171) rfl)) rfl
theorem wd_172 : (.fieldLink "NameForge$Naming" 32 "NameForge$Naming" "usedY" "[[I" : Cond) ∈ wT := wT_in (tb_0 _ (List.mem_of_getElem? (i := 172) rfl)) rfl
theorem wd_173 : (.fieldLink "NameForge$Needed" 93 "NameForge$Naming" "usedY" "[[I" : Cond) ∈ wT := wT_in (tb_0 _ (List.mem_of_getElem? (i := 173) rfl)) rfl
theorem wd_174 : (.fieldLink "NameForge$Known" 113 "NameForge$Naming" "usedY" "[[I" : Cond) ∈ wT := wT_in (tb_0 _ (List.mem_of_getElem? (i := 174) rfl)) rfl
theorem wd_175 : (.fieldLink "NameForge$Machine" 132 "NameForge$Naming" "usedY" "[[I" : Cond) ∈ wT := wT_in (tb_0 _ (List.mem_of_getElem? (i := 175) rfl)) rfl
theorem wd_176 : (.fieldLink "NameForge" 195 "NameForge$Naming" "usedY" "[[I" : Cond) ∈ wT := wT_in (tb_0 _ (List.mem_of_getElem? (i := 176) rfl)) rfl
theorem wd_177 : (.fieldLink "NameForge$Naming" 35 "NameForge$Naming" "tested" "[I" : Cond) ∈ wT := wT_in (tb_0 _ (List.mem_of_getElem? (i := 177) rfl)) rfl
theorem wd_178 : (.fieldLink "NameForge$Needed" 77 "NameForge$Naming" "tested" "[I" : Cond) ∈ wT := wT_in (tb_0 _ (List.mem_of_getElem? (i := 178) rfl)) rfl
theorem wd_179 : (.fieldLink "NameForge$Machine" 135 "NameForge$Naming" "tested" "[I" : Cond) ∈ wT := wT_in (tb_0 _ (List.mem_of_getElem? (i := 179) rfl)) rfl
theorem wd_180 : (.fieldLink "NameForge$Known" 126 "NameForge$Naming" "tested" "[I" : Cond) ∈ wT := wT_in (tb_0 _ (List.mem_of_getElem? (i := 180) rfl)) rfl
theorem wd_181 : (.fieldLink "NameForge" 165 "NameForge$Naming" "tested" "[I" : Cond) ∈ wT := wT_in (tb_0 _ (List.mem_of_getElem? (i := 181) rfl)) rfl
theorem wd_182 : (.fieldLink "NameForge$Naming" 38 "NameForge$Naming" "home" "[I" : Cond) ∈ wT := wT_in (tb_0 _ (List.mem_of_getElem? (i := 182) rfl)) rfl
theorem wd_183 : (.fieldLink "NameForge$Needed" 80 "NameForge$Naming" "home" "[I" : Cond) ∈ wT := wT_in (tb_0 _ (List.mem_of_getElem? (i := 183) rfl)) rfl
theorem wd_184 : (.fieldLink "NameForge" 210 "NameForge$Naming" "home" "[I" : Cond) ∈ wT := wT_in (tb_0 _ (List.mem_of_getElem? (i := 184) rfl)) rfl
theorem wd_185 : (.fieldLink "NameForge$Naming" 41 "NameForge$Naming" "row" "[I" : Cond) ∈ wT := wT_in (tb_0 _ (List.mem_of_getElem? (i := 185) rfl)) rfl
theorem wd_186 : (.fieldLink "NameForge$Needed" 83 "NameForge$Naming" "row" "[I" : Cond) ∈ wT := wT_in (tb_0 _ (List.mem_of_getElem? (i := 186) rfl)) rfl
theorem wd_187 : (.fieldLink "NameForge$Naming" 44 "NameForge$Naming" "variable" "[I" : Cond) ∈ wT := wT_in (tb_0 _ (List.mem_of_getElem? (i := 187) rfl)) rfl
theorem wd_188 : (.fieldLink "NameForge$Needed" 86 "NameForge$Naming" "variable" "[I" : Cond) ∈ wT := wT_in (tb_0 _ (List.mem_of_getElem? (i := 188) rfl)) rfl
theorem wd_189 : (.laysFinal "NameForge$Naming" "NameForge$Naming" "program" "LNameForge$Program;" : Cond) ∈ wT := wT_in (tb_0 _ (List.mem_of_getElem? (i := 189) rfl)) rfl
theorem wd_191 : (.laysFinal "NameForge$Naming" "NameForge$Naming" "shape" "LNameForge$Shape;" : Cond) ∈ wT := wT_in (tb_0 _ (List.mem_of_getElem? (i := 191) rfl)) rfl
theorem wd_193 : (.lays "NameForge$Naming" "NameForge$Naming" "names" "I" : Cond) ∈ wT := wT_in (tb_0 _ (List.mem_of_getElem? (i := 193) rfl)) rfl
theorem wd_195 : (.laysFinal "NameForge$Naming" "NameForge$Naming" "phis" "[I" : Cond) ∈ wT := wT_in (tb_0 _ (List.mem_of_getElem? (i := 195) rfl)) rfl
theorem wd_197 : (.laysFinal "NameForge$Naming" "NameForge$Naming" "defined" "[I" : Cond) ∈ wT := wT_in (tb_0 _ (List.mem_of_getElem? (i := 197) rfl)) rfl
theorem wd_199 : (.laysFinal "NameForge$Naming" "NameForge$Naming" "phiName" "[[I" : Cond) ∈ wT := wT_in (tb_0 _ (List.mem_of_getElem? (i := 199) rfl)) rfl
theorem wd_201 : (.laysFinal "NameForge$Naming" "NameForge$Naming" "atEnd" "[[I" : Cond) ∈ wT := wT_in (tb_0 _ (List.mem_of_getElem? (i := 201) rfl)) rfl
theorem wd_203 : (.laysFinal "NameForge$Naming" "NameForge$Naming" "made" "[[I" : Cond) ∈ wT := wT_in (tb_0 _ (List.mem_of_getElem? (i := 203) rfl)) rfl
theorem wd_205 : (.laysFinal "NameForge$Naming" "NameForge$Naming" "usedX" "[[I" : Cond) ∈ wT := wT_in (tb_0 _ (List.mem_of_getElem? (i := 205) rfl)) rfl
theorem wd_207 : (.laysFinal "NameForge$Naming" "NameForge$Naming" "usedY" "[[I" : Cond) ∈ wT := wT_in (tb_0 _ (List.mem_of_getElem? (i := 207) rfl)) rfl
theorem wd_209 : (.laysFinal "NameForge$Naming" "NameForge$Naming" "tested" "[I" : Cond) ∈ wT := wT_in (tb_0 _ (List.mem_of_getElem? (i := 209) rfl)) rfl
theorem wd_211 : (.laysFinal "NameForge$Naming" "NameForge$Naming" "home" "[I" : Cond) ∈ wT := wT_in (tb_0 _ (List.mem_of_getElem? (i := 211) rfl)) rfl
theorem wd_213 : (.laysFinal "NameForge$Naming" "NameForge$Naming" "row" "[I" : Cond) ∈ wT := wT_in (tb_0 _ (List.mem_of_getElem? (i := 213) rfl)) rfl
theorem wd_215 : (.laysFinal "NameForge$Naming" "NameForge$Naming" "variable" "[I" : Cond) ∈ wT := wT_in (tb_0 _ (List.mem_of_getElem? (i := 215) rfl)) rfl
theorem wd_224 : (.fieldLink "NameForge$Known" 21 "NameForge$Known" "program" "LNameForge$Program;" : Cond) ∈ wT := wT_in (tb_0 _ (List.mem_of_getElem? (i := 224) rfl)) rfl
theorem wd_225 : (.fieldLink "NameForge$Known" 25 "NameForge$Known" "shape" "LNameForge$Shape;" : Cond) ∈ wT := wT_in (tb_0 _ (List.mem_of_getElem? (i := 225) rfl)) rfl
theorem wd_226 : (.fieldLink "NameForge$Known" 29 "NameForge$Known" "naming" "LNameForge$Naming;" : Cond) ∈ wT := wT_in (tb_0 _ (List.mem_of_getElem? (i := 226) rfl)) rfl
theorem wd_227 : (.fieldLink "NameForge$Needed" 40 "NameForge$Known" "comeTo" "I" : Cond) ∈ wT := wT_in (tb_0 _ (List.mem_of_getElem? (i := 227) rfl)) rfl
theorem wd_228 : (.fieldLink "NameForge$Known" 43 "NameForge$Known" "comeTo" "I" : Cond) ∈ wT := wT_in (tb_0 _ (List.mem_of_getElem? (i := 228) rfl)) rfl
theorem wd_229 : (.fieldLink "NameForge" 162 "NameForge$Known" "comeTo" "I" : Cond) ∈ wT := wT_in (tb_0 _ (List.mem_of_getElem? (i := 229) rfl)) rfl
theorem wd_230 : (.fieldLink "NameForge$Known" 9 "NameForge$Known" "taken" "[I" : Cond) ∈ wT := wT_in (tb_0 _ (List.mem_of_getElem? (i := 230) rfl)) rfl
theorem wd_231 : (.fieldLink "NameForge$Known" 15 "NameForge$Known" "state" "[I" : Cond) ∈ wT := wT_in (tb_0 _ (List.mem_of_getElem? (i := 231) rfl)) rfl
theorem wd_232 : (.fieldLink "NameForge$Needed" 53 "NameForge$Known" "state" "[I" : Cond) ∈ wT := wT_in (tb_0 _ (List.mem_of_getElem? (i := 232) rfl)) rfl
theorem wd_233 : (.fieldLink "NameForge$Machine" 157 "NameForge$Known" "state" "[I" : Cond) ∈ wT := wT_in (tb_0 _ (List.mem_of_getElem? (i := 233) rfl)) rfl
theorem wd_234 : (.fieldLink "NameForge" 200 "NameForge$Known" "state" "[I" : Cond) ∈ wT := wT_in (tb_0 _ (List.mem_of_getElem? (i := 234) rfl)) rfl
theorem wd_235 : (.fieldLink "NameForge$Known" 18 "NameForge$Known" "number" "[I" : Cond) ∈ wT := wT_in (tb_0 _ (List.mem_of_getElem? (i := 235) rfl)) rfl
theorem wd_236 : (.fieldLink "NameForge$Machine" 162 "NameForge$Known" "number" "[I" : Cond) ∈ wT := wT_in (tb_0 _ (List.mem_of_getElem? (i := 236) rfl)) rfl
theorem wd_237 : (.fieldLink "NameForge" 203 "NameForge$Known" "number" "[I" : Cond) ∈ wT := wT_in (tb_0 _ (List.mem_of_getElem? (i := 237) rfl)) rfl
theorem wd_238 : (.fieldLink "NameForge$Known" 47 "NameForge$Known" "changed" "Z" : Cond) ∈ wT := wT_in (tb_0 _ (List.mem_of_getElem? (i := 238) rfl)) rfl
theorem wd_239 : (.laysFinal "NameForge$Known" "NameForge$Known" "program" "LNameForge$Program;" : Cond) ∈ wT := wT_in (tb_0 _ (List.mem_of_getElem? (i := 239) rfl)) rfl
theorem wd_241 : (.laysFinal "NameForge$Known" "NameForge$Known" "shape" "LNameForge$Shape;" : Cond) ∈ wT := wT_in (tb_1 _ (List.mem_of_getElem? (i := 1) rfl)) rfl
theorem wd_243 : (.laysFinal "NameForge$Known" "NameForge$Known" "naming" "LNameForge$Naming;" : Cond) ∈ wT := wT_in (tb_1 _ (List.mem_of_getElem? (i := 3) rfl)) rfl
theorem wd_245 : (.lays "NameForge$Known" "NameForge$Known" "comeTo" "I" : Cond) ∈ wT := wT_in (tb_1 _ (List.mem_of_getElem? (i := 5) rfl)) rfl
theorem wd_247 : (.laysFinal "NameForge$Known" "NameForge$Known" "taken" "[I" : Cond) ∈ wT := wT_in (tb_1 _ (List.mem_of_getElem? (i := 7) rfl)) rfl
theorem wd_249 : (.laysFinal "NameForge$Known" "NameForge$Known" "state" "[I" : Cond) ∈ wT := wT_in (tb_1 _ (List.mem_of_getElem? (i := 9) rfl)) rfl
theorem wd_251 : (.laysFinal "NameForge$Known" "NameForge$Known" "number" "[I" : Cond) ∈ wT := wT_in (tb_1 _ (List.mem_of_getElem? (i := 11) rfl)) rfl
theorem wd_253 : (.lays "NameForge$Known" "NameForge$Known" "changed" "Z" : Cond) ∈ wT := wT_in (tb_1 _ (List.mem_of_getElem? (i := 13) rfl)) rfl
theorem wd_262 : (.fieldLink "NameForge$Needed" 19 "NameForge$Needed" "program" "LNameForge$Program;" : Cond) ∈ wT := wT_in (tb_1 _ (List.mem_of_getElem? (i := 22) rfl)) rfl
theorem wd_263 : (.fieldLink "NameForge$Needed" 23 "NameForge$Needed" "naming" "LNameForge$Naming;" : Cond) ∈ wT := wT_in (tb_1 _ (List.mem_of_getElem? (i := 23) rfl)) rfl
theorem wd_264 : (.fieldLink "NameForge$Needed" 27 "NameForge$Needed" "known" "LNameForge$Known;" : Cond) ∈ wT := wT_in (tb_1 _ (List.mem_of_getElem? (i := 24) rfl)) rfl
theorem wd_265 : (.fieldLink "NameForge$Needed" 9 "NameForge$Needed" "isNeeded" "[Z" : Cond) ∈ wT := wT_in (tb_1 _ (List.mem_of_getElem? (i := 25) rfl)) rfl
theorem wd_266 : (.fieldLink "NameForge$Machine" 151 "NameForge$Needed" "isNeeded" "[Z" : Cond) ∈ wT := wT_in (tb_1 _ (List.mem_of_getElem? (i := 26) rfl)) rfl
theorem wd_267 : (.fieldLink "NameForge" 206 "NameForge$Needed" "isNeeded" "[Z" : Cond) ∈ wT := wT_in (tb_1 _ (List.mem_of_getElem? (i := 27) rfl)) rfl
theorem wd_268 : (.fieldLink "NameForge$Needed" 15 "NameForge$Needed" "list" "[I" : Cond) ∈ wT := wT_in (tb_1 _ (List.mem_of_getElem? (i := 28) rfl)) rfl
theorem wd_269 : (.fieldLink "NameForge$Needed" 31 "NameForge$Needed" "listed" "I" : Cond) ∈ wT := wT_in (tb_1 _ (List.mem_of_getElem? (i := 29) rfl)) rfl
theorem wd_270 : (.laysFinal "NameForge$Needed" "NameForge$Needed" "program" "LNameForge$Program;" : Cond) ∈ wT := wT_in (tb_1 _ (List.mem_of_getElem? (i := 30) rfl)) rfl
theorem wd_272 : (.laysFinal "NameForge$Needed" "NameForge$Needed" "naming" "LNameForge$Naming;" : Cond) ∈ wT := wT_in (tb_1 _ (List.mem_of_getElem? (i := 32) rfl)) rfl
theorem wd_274 : (.laysFinal "NameForge$Needed" "NameForge$Needed" "known" "LNameForge$Known;" : Cond) ∈ wT := wT_in (tb_1 _ (List.mem_of_getElem? (i := 34) rfl)) rfl
theorem wd_276 : (.laysFinal "NameForge$Needed" "NameForge$Needed" "isNeeded" "[Z" : Cond) ∈ wT := wT_in (tb_1 _ (List.mem_of_getElem? (i := 36) rfl)) rfl
theorem wd_278 : (.laysFinal "NameForge$Needed" "NameForge$Needed" "list" "[I" : Cond) ∈ wT := wT_in (tb_1 _ (List.mem_of_getElem? (i := 38) rfl)) rfl
theorem wd_280 : (.lays "NameForge$Needed" "NameForge$Needed" "listed" "I" : Cond) ∈ wT := wT_in (tb_1 _ (List.mem_of_getElem? (i := 40) rfl)) rfl
theorem wd_290 : (.fieldLink "NameForge$Machine" 27 "NameForge$Machine" "program" "LNameForge$Program;" : Cond) ∈ wT := wT_in (tb_1 _ (List.mem_of_getElem? (i := 50) rfl)) rfl
theorem wd_291 : (.fieldLink "NameForge$Machine" 31 "NameForge$Machine" "naming" "LNameForge$Naming;" : Cond) ∈ wT := wT_in (tb_1 _ (List.mem_of_getElem? (i := 51) rfl)) rfl
theorem wd_292 : (.fieldLink "NameForge$Machine" 35 "NameForge$Machine" "known" "LNameForge$Known;" : Cond) ∈ wT := wT_in (tb_1 _ (List.mem_of_getElem? (i := 52) rfl)) rfl
theorem wd_293 : (.fieldLink "NameForge$Machine" 39 "NameForge$Machine" "needed" "LNameForge$Needed;" : Cond) ∈ wT := wT_in (tb_1 _ (List.mem_of_getElem? (i := 53) rfl)) rfl
theorem wd_294 : (.fieldLink "NameForge$Machine" 43 "NameForge$Machine" "inputs" "I" : Cond) ∈ wT := wT_in (tb_1 _ (List.mem_of_getElem? (i := 54) rfl)) rfl
theorem wd_295 : (.fieldLink "NameForge" 216 "NameForge$Machine" "inputs" "I" : Cond) ∈ wT := wT_in (tb_1 _ (List.mem_of_getElem? (i := 55) rfl)) rfl
theorem wd_296 : (.fieldLink "NameForge$Machine" 9 "NameForge$Machine" "input" "[I" : Cond) ∈ wT := wT_in (tb_1 _ (List.mem_of_getElem? (i := 56) rfl)) rfl
theorem wd_297 : (.fieldLink "NameForge$Machine" 15 "NameForge$Machine" "ofVariable" "[I" : Cond) ∈ wT := wT_in (tb_1 _ (List.mem_of_getElem? (i := 57) rfl)) rfl
theorem wd_298 : (.fieldLink "NameForge$Machine" 18 "NameForge$Machine" "ofName" "[I" : Cond) ∈ wT := wT_in (tb_1 _ (List.mem_of_getElem? (i := 58) rfl)) rfl
theorem wd_299 : (.fieldLink "NameForge$Machine" 21 "NameForge$Machine" "chosen" "[I" : Cond) ∈ wT := wT_in (tb_1 _ (List.mem_of_getElem? (i := 59) rfl)) rfl
theorem wd_300 : (.fieldLink "NameForge$Machine" 67 "NameForge$Machine" "tellings" "I" : Cond) ∈ wT := wT_in (tb_1 _ (List.mem_of_getElem? (i := 60) rfl)) rfl
theorem wd_301 : (.fieldLink "NameForge" 225 "NameForge$Machine" "tellings" "I" : Cond) ∈ wT := wT_in (tb_1 _ (List.mem_of_getElem? (i := 61) rfl)) rfl
theorem wd_302 : (.fieldLink "NameForge$Machine" 24 "NameForge$Machine" "kept" "[I" : Cond) ∈ wT := wT_in (tb_1 _ (List.mem_of_getElem? (i := 62) rfl)) rfl
theorem wd_303 : (.fieldLink "NameForge" 230 "NameForge$Machine" "kept" "[I" : Cond) ∈ wT := wT_in (tb_1 _ (List.mem_of_getElem? (i := 63) rfl)) rfl
theorem wd_304 : (.fieldLink "NameForge$Machine" 50 "NameForge$Machine" "blocksRun" "I" : Cond) ∈ wT := wT_in (tb_1 _ (List.mem_of_getElem? (i := 64) rfl)) rfl
theorem wd_305 : (.fieldLink "NameForge" 233 "NameForge$Machine" "blocksRun" "I" : Cond) ∈ wT := wT_in (tb_1 _ (List.mem_of_getElem? (i := 65) rfl)) rfl
theorem wd_306 : (.fieldLink "NameForge$Machine" 70 "NameForge$Machine" "instructionsDone" "I" : Cond) ∈ wT := wT_in (tb_1 _ (List.mem_of_getElem? (i := 66) rfl)) rfl
theorem wd_307 : (.fieldLink "NameForge" 236 "NameForge$Machine" "instructionsDone" "I" : Cond) ∈ wT := wT_in (tb_1 _ (List.mem_of_getElem? (i := 67) rfl)) rfl
theorem wd_308 : (.fieldLink "NameForge$Machine" 73 "NameForge$Machine" "inputsAsked" "I" : Cond) ∈ wT := wT_in (tb_1 _ (List.mem_of_getElem? (i := 68) rfl)) rfl
theorem wd_309 : (.fieldLink "NameForge" 239 "NameForge$Machine" "inputsAsked" "I" : Cond) ∈ wT := wT_in (tb_1 _ (List.mem_of_getElem? (i := 69) rfl)) rfl
theorem wd_310 : (.laysFinal "NameForge$Machine" "NameForge$Machine" "program" "LNameForge$Program;" : Cond) ∈ wT := wT_in (tb_1 _ (List.mem_of_getElem? (i := 70) rfl)) rfl
theorem wd_312 : (.laysFinal "NameForge$Machine" "NameForge$Machine" "naming" "LNameForge$Naming;" : Cond) ∈ wT := wT_in (tb_1 _ (List.mem_of_getElem? (i := 72) rfl)) rfl
theorem wd_314 : (.laysFinal "NameForge$Machine" "NameForge$Machine" "known" "LNameForge$Known;" : Cond) ∈ wT := wT_in (tb_1 _ (List.mem_of_getElem? (i := 74) rfl)) rfl
theorem wd_316 : (.laysFinal "NameForge$Machine" "NameForge$Machine" "needed" "LNameForge$Needed;" : Cond) ∈ wT := wT_in (tb_1 _ (List.mem_of_getElem? (i := 76) rfl)) rfl
theorem wd_318 : (.lays "NameForge$Machine" "NameForge$Machine" "inputs" "I" : Cond) ∈ wT := wT_in (tb_1 _ (List.mem_of_getElem? (i := 78) rfl)) rfl
theorem wd_320 : (.laysFinal "NameForge$Machine" "NameForge$Machine" "input" "[I" : Cond) ∈ wT := wT_in (tb_1 _ (List.mem_of_getElem? (i := 80) rfl)) rfl
theorem wd_322 : (.laysFinal "NameForge$Machine" "NameForge$Machine" "ofVariable" "[I" : Cond) ∈ wT := wT_in (tb_1 _ (List.mem_of_getElem? (i := 82) rfl)) rfl
theorem wd_324 : (.laysFinal "NameForge$Machine" "NameForge$Machine" "ofName" "[I" : Cond) ∈ wT := wT_in (tb_1 _ (List.mem_of_getElem? (i := 84) rfl)) rfl
theorem wd_326 : (.laysFinal "NameForge$Machine" "NameForge$Machine" "chosen" "[I" : Cond) ∈ wT := wT_in (tb_1 _ (List.mem_of_getElem? (i := 86) rfl)) rfl
theorem wd_328 : (.lays "NameForge$Machine" "NameForge$Machine" "tellings" "I" : Cond) ∈ wT := wT_in (tb_1 _ (List.mem_of_getElem? (i := 88) rfl)) rfl
theorem wd_330 : (.laysFinal "NameForge$Machine" "NameForge$Machine" "kept" "[I" : Cond) ∈ wT := wT_in (tb_1 _ (List.mem_of_getElem? (i := 90) rfl)) rfl
theorem wd_332 : (.lays "NameForge$Machine" "NameForge$Machine" "blocksRun" "I" : Cond) ∈ wT := wT_in (tb_1 _ (List.mem_of_getElem? (i := 92) rfl)) rfl
theorem wd_334 : (.lays "NameForge$Machine" "NameForge$Machine" "instructionsDone" "I" : Cond) ∈ wT := wT_in (tb_1 _ (List.mem_of_getElem? (i := 94) rfl)) rfl
theorem wd_336 : (.lays "NameForge$Machine" "NameForge$Machine" "inputsAsked" "I" : Cond) ∈ wT := wT_in (tb_1 _ (List.mem_of_getElem? (i := 96) rfl)) rfl
theorem wd_339 : (.fieldLink "NameForge" 12 "NameForge" "program" "LNameForge$Program;" : Cond) ∈ wT := wT_in (tb_1 _ (List.mem_of_getElem? (i := 99) rfl)) rfl
theorem wd_340 : (.fieldLink "NameForge" 21 "NameForge" "shape" "LNameForge$Shape;" : Cond) ∈ wT := wT_in (tb_1 _ (List.mem_of_getElem? (i := 100) rfl)) rfl
theorem wd_341 : (.fieldLink "NameForge" 30 "NameForge" "naming" "LNameForge$Naming;" : Cond) ∈ wT := wT_in (tb_1 _ (List.mem_of_getElem? (i := 101) rfl)) rfl
theorem wd_342 : (.fieldLink "NameForge" 39 "NameForge" "known" "LNameForge$Known;" : Cond) ∈ wT := wT_in (tb_1 _ (List.mem_of_getElem? (i := 102) rfl)) rfl
theorem wd_343 : (.fieldLink "NameForge" 48 "NameForge" "needed" "LNameForge$Needed;" : Cond) ∈ wT := wT_in (tb_1 _ (List.mem_of_getElem? (i := 103) rfl)) rfl
theorem wd_344 : (.fieldLink "NameForge" 57 "NameForge" "machine" "LNameForge$Machine;" : Cond) ∈ wT := wT_in (tb_1 _ (List.mem_of_getElem? (i := 104) rfl)) rfl
theorem wd_345 : (.fieldLink "NameForge" 61 "NameForge" "built" "Z" : Cond) ∈ wT := wT_in (tb_1 _ (List.mem_of_getElem? (i := 105) rfl)) rfl
theorem wd_346 : (.laysFinal "NameForge" "NameForge" "program" "LNameForge$Program;" : Cond) ∈ wT := wT_in (tb_1 _ (List.mem_of_getElem? (i := 106) rfl)) rfl
theorem wd_348 : (.laysFinal "NameForge" "NameForge" "shape" "LNameForge$Shape;" : Cond) ∈ wT := wT_in (tb_1 _ (List.mem_of_getElem? (i := 108) rfl)) rfl
theorem wd_350 : (.laysFinal "NameForge" "NameForge" "naming" "LNameForge$Naming;" : Cond) ∈ wT := wT_in (tb_1 _ (List.mem_of_getElem? (i := 110) rfl)) rfl
theorem wd_352 : (.laysFinal "NameForge" "NameForge" "known" "LNameForge$Known;" : Cond) ∈ wT := wT_in (tb_1 _ (List.mem_of_getElem? (i := 112) rfl)) rfl
theorem wd_354 : (.laysFinal "NameForge" "NameForge" "needed" "LNameForge$Needed;" : Cond) ∈ wT := wT_in (tb_1 _ (List.mem_of_getElem? (i := 114) rfl)) rfl
theorem wd_356 : (.laysFinal "NameForge" "NameForge" "machine" "LNameForge$Machine;" : Cond) ∈ wT := wT_in (tb_1 _ (List.mem_of_getElem? (i := 116) rfl)) rfl
theorem wd_358 : (.lays "NameForge" "NameForge" "built" "Z" : Cond) ∈ wT := wT_in (tb_1 _ (List.mem_of_getElem? (i := 118) rfl)) rfl
theorem wd_369 : (.methodLink "NameForge" 213 ⟨"NameForge$Machine", "addInput", "(I)Z"⟩ : Cond) ∈ wT := wT_in (tb_1 _ (List.mem_of_getElem? (i := 129) rfl)) rfl
theorem wd_370 : (.instanceMethod ⟨"NameForge$Machine", "addInput", "(I)Z"⟩ : Cond) ∈ wT := wT_in (tb_1 _ (List.mem_of_getElem? (i := 130) rfl)) rfl
theorem wd_371 : (.selects "NameForge$Machine" ⟨"NameForge$Machine", "addInput", "(I)Z"⟩ ⟨"NameForge$Machine", "addInput", "(I)Z"⟩ : Cond) ∈ wT := wT_in (tb_1 _ (List.mem_of_getElem? (i := 131) rfl)) rfl
theorem wd_372 : (.code ⟨"NameForge$Machine", "addInput", "(I)Z"⟩ prog_3_method_2_code 2 (some .boolean) : Cond) ∈ wT := wT_in (tb_1 _ (List.mem_of_getElem? (i := 132) rfl)) rfl
theorem wd_393 : (.classLink "NameForge" 69 "java/lang/IllegalStateException" : Cond) ∈ wT := wT_in (tb_1 _ (List.mem_of_getElem? (i := 153) rfl)) rfl
theorem wd_394 : (.instantiable "java/lang/IllegalStateException" 6 : Cond) ∈ wT := wT_in (tb_1 _ (List.mem_of_getElem? (i := 154) rfl)) rfl
theorem wd_461 : (.methodLink "NameForge" 76 ⟨"NameForge$Program", "addBlock", "()I"⟩ : Cond) ∈ wT := wT_in (tb_1 _ (List.mem_of_getElem? (i := 221) rfl)) rfl
theorem wd_462 : (.instanceMethod ⟨"NameForge$Program", "addBlock", "()I"⟩ : Cond) ∈ wT := wT_in (tb_1 _ (List.mem_of_getElem? (i := 222) rfl)) rfl
theorem wd_463 : (.selects "NameForge$Program" ⟨"NameForge$Program", "addBlock", "()I"⟩ ⟨"NameForge$Program", "addBlock", "()I"⟩ : Cond) ∈ wT := wT_in (tb_1 _ (List.mem_of_getElem? (i := 223) rfl)) rfl
theorem wd_464 : (.code ⟨"NameForge$Program", "addBlock", "()I"⟩ prog_6_method_4_code 2 (some .int) : Cond) ∈ wT := wT_in (tb_1 _ (List.mem_of_getElem? (i := 224) rfl)) rfl
theorem wd_465 : (.methodLink "NameForge$Program" 49 ⟨"NameForge$Program", "setEnd", "(IIIII)V"⟩ : Cond) ∈ wT := wT_in (tb_1 _ (List.mem_of_getElem? (i := 225) rfl)) rfl
theorem wd_466 : (.instanceMethod ⟨"NameForge$Program", "setEnd", "(IIIII)V"⟩ : Cond) ∈ wT := wT_in (tb_1 _ (List.mem_of_getElem? (i := 226) rfl)) rfl
theorem wd_467 : (.selects "NameForge$Program" ⟨"NameForge$Program", "setEnd", "(IIIII)V"⟩ ⟨"NameForge$Program", "setEnd", "(IIIII)V"⟩ : Cond) ∈ wT := wT_in (tb_1 _ (List.mem_of_getElem? (i := 227) rfl)) rfl
theorem wd_468 : (.code ⟨"NameForge$Program", "setEnd", "(IIIII)V"⟩ prog_6_method_6_code 6 none : Cond) ∈ wT := wT_in (tb_1 _ (List.mem_of_getElem? (i := 228) rfl)) rfl
theorem wd_477 : (.methodLink "NameForge" 80 ⟨"NameForge$Program", "has", "(I)Z"⟩ : Cond) ∈ wT := wT_in (tb_1 _ (List.mem_of_getElem? (i := 237) rfl)) rfl
theorem wd_478 : (.instanceMethod ⟨"NameForge$Program", "has", "(I)Z"⟩ : Cond) ∈ wT := wT_in (tb_1 _ (List.mem_of_getElem? (i := 238) rfl)) rfl
theorem wd_479 : (.selects "NameForge$Program" ⟨"NameForge$Program", "has", "(I)Z"⟩ ⟨"NameForge$Program", "has", "(I)Z"⟩ : Cond) ∈ wT := wT_in (tb_1 _ (List.mem_of_getElem? (i := 239) rfl)) rfl
theorem wd_480 : (.code ⟨"NameForge$Program", "has", "(I)Z"⟩ prog_6_method_2_code 2 (some .boolean) : Cond) ∈ wT := wT_in (tb_2 _ (List.mem_of_getElem? (i := 0) rfl)) rfl
theorem wd_481 : (.methodLink "NameForge" 84 ⟨"NameForge", "isInstruction", "(IIII)Z"⟩ : Cond) ∈ wT := wT_in (tb_2 _ (List.mem_of_getElem? (i := 1) rfl)) rfl
theorem wd_482 : (.static ⟨"NameForge", "isInstruction", "(IIII)Z"⟩ : Cond) ∈ wT := wT_in (tb_2 _ (List.mem_of_getElem? (i := 2) rfl)) rfl
theorem wd_483 : (.code ⟨"NameForge", "isInstruction", "(IIII)Z"⟩ prog_1_method_21_code 4 (some .boolean) : Cond) ∈ wT := wT_in (tb_2 _ (List.mem_of_getElem? (i := 3) rfl)) rfl
theorem wd_484 : (.methodLink "NameForge" 245 ⟨"NameForge", "setsVariable", "(I)Z"⟩ : Cond) ∈ wT := wT_in (tb_2 _ (List.mem_of_getElem? (i := 4) rfl)) rfl
theorem wd_485 : (.static ⟨"NameForge", "setsVariable", "(I)Z"⟩ : Cond) ∈ wT := wT_in (tb_2 _ (List.mem_of_getElem? (i := 5) rfl)) rfl
theorem wd_486 : (.code ⟨"NameForge", "setsVariable", "(I)Z"⟩ prog_1_method_23_code 1 (some .boolean) : Cond) ∈ wT := wT_in (tb_2 _ (List.mem_of_getElem? (i := 6) rfl)) rfl
theorem wd_487 : (.methodLink "NameForge" 112 ⟨"NameForge", "isVariable", "(I)Z"⟩ : Cond) ∈ wT := wT_in (tb_2 _ (List.mem_of_getElem? (i := 7) rfl)) rfl
theorem wd_488 : (.static ⟨"NameForge", "isVariable", "(I)Z"⟩ : Cond) ∈ wT := wT_in (tb_2 _ (List.mem_of_getElem? (i := 8) rfl)) rfl
theorem wd_489 : (.code ⟨"NameForge", "isVariable", "(I)Z"⟩ prog_1_method_22_code 1 (some .boolean) : Cond) ∈ wT := wT_in (tb_2 _ (List.mem_of_getElem? (i := 9) rfl)) rfl
theorem wd_490 : (.methodLink "NameForge" 248 ⟨"NameForge", "readsX", "(I)Z"⟩ : Cond) ∈ wT := wT_in (tb_2 _ (List.mem_of_getElem? (i := 10) rfl)) rfl
theorem wd_491 : (.static ⟨"NameForge", "readsX", "(I)Z"⟩ : Cond) ∈ wT := wT_in (tb_2 _ (List.mem_of_getElem? (i := 11) rfl)) rfl
theorem wd_492 : (.code ⟨"NameForge", "readsX", "(I)Z"⟩ prog_1_method_24_code 1 (some .boolean) : Cond) ∈ wT := wT_in (tb_2 _ (List.mem_of_getElem? (i := 12) rfl)) rfl
theorem wd_493 : (.methodLink "NameForge" 251 ⟨"NameForge", "readsY", "(I)Z"⟩ : Cond) ∈ wT := wT_in (tb_2 _ (List.mem_of_getElem? (i := 13) rfl)) rfl
theorem wd_494 : (.static ⟨"NameForge", "readsY", "(I)Z"⟩ : Cond) ∈ wT := wT_in (tb_2 _ (List.mem_of_getElem? (i := 14) rfl)) rfl
theorem wd_495 : (.code ⟨"NameForge", "readsY", "(I)Z"⟩ prog_1_method_25_code 1 (some .boolean) : Cond) ∈ wT := wT_in (tb_2 _ (List.mem_of_getElem? (i := 15) rfl)) rfl
theorem wd_496 : (.classLink "NameForge" 88 "java/lang/IllegalArgumentException" : Cond) ∈ wT := wT_in (tb_2 _ (List.mem_of_getElem? (i := 16) rfl)) rfl
theorem wd_497 : (.instantiable "java/lang/IllegalArgumentException" 6 : Cond) ∈ wT := wT_in (tb_2 _ (List.mem_of_getElem? (i := 17) rfl)) rfl
theorem wd_513 : (.methodLink "NameForge" 99 ⟨"NameForge$Program", "append", "(IIIII)I"⟩ : Cond) ∈ wT := wT_in (tb_2 _ (List.mem_of_getElem? (i := 33) rfl)) rfl
theorem wd_514 : (.instanceMethod ⟨"NameForge$Program", "append", "(IIIII)I"⟩ : Cond) ∈ wT := wT_in (tb_2 _ (List.mem_of_getElem? (i := 34) rfl)) rfl
theorem wd_515 : (.selects "NameForge$Program" ⟨"NameForge$Program", "append", "(IIIII)I"⟩ ⟨"NameForge$Program", "append", "(IIIII)I"⟩ : Cond) ∈ wT := wT_in (tb_2 _ (List.mem_of_getElem? (i := 35) rfl)) rfl
theorem wd_516 : (.code ⟨"NameForge$Program", "append", "(IIIII)I"⟩ prog_6_method_5_code 7 (some .int) : Cond) ∈ wT := wT_in (tb_2 _ (List.mem_of_getElem? (i := 36) rfl)) rfl
theorem wd_524 : (.methodLink "NameForge" 103 ⟨"NameForge$Program", "isTarget", "(I)Z"⟩ : Cond) ∈ wT := wT_in (tb_2 _ (List.mem_of_getElem? (i := 44) rfl)) rfl
theorem wd_525 : (.instanceMethod ⟨"NameForge$Program", "isTarget", "(I)Z"⟩ : Cond) ∈ wT := wT_in (tb_2 _ (List.mem_of_getElem? (i := 45) rfl)) rfl
theorem wd_526 : (.selects "NameForge$Program" ⟨"NameForge$Program", "isTarget", "(I)Z"⟩ ⟨"NameForge$Program", "isTarget", "(I)Z"⟩ : Cond) ∈ wT := wT_in (tb_2 _ (List.mem_of_getElem? (i := 46) rfl)) rfl
theorem wd_527 : (.code ⟨"NameForge$Program", "isTarget", "(I)Z"⟩ prog_6_method_3_code 2 (some .boolean) : Cond) ∈ wT := wT_in (tb_2 _ (List.mem_of_getElem? (i := 47) rfl)) rfl
theorem wd_528 : (.methodLink "NameForge$Program" 45 ⟨"NameForge$Program", "has", "(I)Z"⟩ : Cond) ∈ wT := wT_in (tb_2 _ (List.mem_of_getElem? (i := 48) rfl)) rfl
theorem wd_530 : (.methodLink "NameForge" 108 ⟨"NameForge$Program", "setEnd", "(IIIII)V"⟩ : Cond) ∈ wT := wT_in (tb_2 _ (List.mem_of_getElem? (i := 50) rfl)) rfl
theorem wd_555 : (.methodLink "NameForge" 121 ⟨"NameForge$Shape", "survey", "()V"⟩ : Cond) ∈ wT := wT_in (tb_2 _ (List.mem_of_getElem? (i := 75) rfl)) rfl
theorem wd_556 : (.instanceMethod ⟨"NameForge$Shape", "survey", "()V"⟩ : Cond) ∈ wT := wT_in (tb_2 _ (List.mem_of_getElem? (i := 76) rfl)) rfl
theorem wd_557 : (.selects "NameForge$Shape" ⟨"NameForge$Shape", "survey", "()V"⟩ ⟨"NameForge$Shape", "survey", "()V"⟩ : Cond) ∈ wT := wT_in (tb_2 _ (List.mem_of_getElem? (i := 77) rfl)) rfl
theorem wd_558 : (.code ⟨"NameForge$Shape", "survey", "()V"⟩ prog_7_method_2_code 2 none : Cond) ∈ wT := wT_in (tb_2 _ (List.mem_of_getElem? (i := 78) rfl)) rfl
theorem wd_559 : (.methodLink "NameForge$Shape" 34 ⟨"NameForge$Shape", "comeBy", "(I)I"⟩ : Cond) ∈ wT := wT_in (tb_2 _ (List.mem_of_getElem? (i := 79) rfl)) rfl
theorem wd_561 : (.instanceMethod ⟨"NameForge$Shape", "comeBy", "(I)I"⟩ : Cond) ∈ wT := wT_in (tb_2 _ (List.mem_of_getElem? (i := 81) rfl)) rfl
theorem wd_562 : (.code ⟨"NameForge$Shape", "comeBy", "(I)I"⟩ prog_7_method_3_code 5 (some .int) : Cond) ∈ wT := wT_in (tb_2 _ (List.mem_of_getElem? (i := 82) rfl)) rfl
theorem wd_564 : (.static ⟨"NameForge", "bit", "(I)I"⟩ : Cond) ∈ wT := wT_in (tb_2 _ (List.mem_of_getElem? (i := 84) rfl)) rfl
theorem wd_565 : (.code ⟨"NameForge", "bit", "(I)I"⟩ prog_1_method_27_code 1 (some .int) : Cond) ∈ wT := wT_in (tb_2 _ (List.mem_of_getElem? (i := 85) rfl)) rfl
theorem wd_567 : (.static ⟨"NameForge", "holds", "(II)Z"⟩ : Cond) ∈ wT := wT_in (tb_2 _ (List.mem_of_getElem? (i := 87) rfl)) rfl
theorem wd_568 : (.code ⟨"NameForge", "holds", "(II)Z"⟩ prog_1_method_28_code 2 (some .boolean) : Cond) ∈ wT := wT_in (tb_2 _ (List.mem_of_getElem? (i := 88) rfl)) rfl
theorem wd_569 : (.methodLink "NameForge" 254 ⟨"NameForge", "bit", "(I)I"⟩ : Cond) ∈ wT := wT_in (tb_2 _ (List.mem_of_getElem? (i := 89) rfl)) rfl
theorem wd_570 : (.methodLink "NameForge$Shape" 66 ⟨"NameForge$Program", "ways", "(I)I"⟩ : Cond) ∈ wT := wT_in (tb_2 _ (List.mem_of_getElem? (i := 90) rfl)) rfl
theorem wd_571 : (.instanceMethod ⟨"NameForge$Program", "ways", "(I)I"⟩ : Cond) ∈ wT := wT_in (tb_2 _ (List.mem_of_getElem? (i := 91) rfl)) rfl
theorem wd_572 : (.selects "NameForge$Program" ⟨"NameForge$Program", "ways", "(I)I"⟩ ⟨"NameForge$Program", "ways", "(I)I"⟩ : Cond) ∈ wT := wT_in (tb_2 _ (List.mem_of_getElem? (i := 92) rfl)) rfl
theorem wd_573 : (.code ⟨"NameForge$Program", "ways", "(I)I"⟩ prog_6_method_7_code 2 (some .int) : Cond) ∈ wT := wT_in (tb_2 _ (List.mem_of_getElem? (i := 93) rfl)) rfl
theorem wd_575 : (.methodLink "NameForge$Shape" 47 ⟨"NameForge$Shape", "findBefore", "(I)I"⟩ : Cond) ∈ wT := wT_in (tb_2 _ (List.mem_of_getElem? (i := 95) rfl)) rfl
theorem wd_577 : (.instanceMethod ⟨"NameForge$Shape", "findBefore", "(I)I"⟩ : Cond) ∈ wT := wT_in (tb_2 _ (List.mem_of_getElem? (i := 97) rfl)) rfl
theorem wd_578 : (.code ⟨"NameForge$Shape", "findBefore", "(I)I"⟩ prog_7_method_4_code 4 (some .int) : Cond) ∈ wT := wT_in (tb_2 _ (List.mem_of_getElem? (i := 98) rfl)) rfl
theorem wd_579 : (.methodLink "NameForge$Shape" 57 ⟨"NameForge$Shape", "findParent", "(I)I"⟩ : Cond) ∈ wT := wT_in (tb_2 _ (List.mem_of_getElem? (i := 99) rfl)) rfl
theorem wd_581 : (.instanceMethod ⟨"NameForge$Shape", "findParent", "(I)I"⟩ : Cond) ∈ wT := wT_in (tb_2 _ (List.mem_of_getElem? (i := 101) rfl)) rfl
theorem wd_582 : (.code ⟨"NameForge$Shape", "findParent", "(I)I"⟩ prog_7_method_5_code 4 (some .int) : Cond) ∈ wT := wT_in (tb_2 _ (List.mem_of_getElem? (i := 102) rfl)) rfl
theorem wd_583 : (.methodLink "NameForge$Shape" 60 ⟨"NameForge$Shape", "findFrontier", "(I)I"⟩ : Cond) ∈ wT := wT_in (tb_2 _ (List.mem_of_getElem? (i := 103) rfl)) rfl
theorem wd_585 : (.instanceMethod ⟨"NameForge$Shape", "findFrontier", "(I)I"⟩ : Cond) ∈ wT := wT_in (tb_2 _ (List.mem_of_getElem? (i := 105) rfl)) rfl
theorem wd_586 : (.code ⟨"NameForge$Shape", "findFrontier", "(I)I"⟩ prog_7_method_6_code 5 (some .int) : Cond) ∈ wT := wT_in (tb_2 _ (List.mem_of_getElem? (i := 106) rfl)) rfl
theorem wd_587 : (.methodLink "NameForge$Shape" 63 ⟨"NameForge$Shape", "putInOrder", "()V"⟩ : Cond) ∈ wT := wT_in (tb_2 _ (List.mem_of_getElem? (i := 107) rfl)) rfl
theorem wd_589 : (.instanceMethod ⟨"NameForge$Shape", "putInOrder", "()V"⟩ : Cond) ∈ wT := wT_in (tb_2 _ (List.mem_of_getElem? (i := 109) rfl)) rfl
theorem wd_590 : (.code ⟨"NameForge$Shape", "putInOrder", "()V"⟩ prog_7_method_7_code 5 none : Cond) ∈ wT := wT_in (tb_2 _ (List.mem_of_getElem? (i := 110) rfl)) rfl
theorem wd_591 : (.methodLink "NameForge" 124 ⟨"NameForge$Naming", "nameAll", "()V"⟩ : Cond) ∈ wT := wT_in (tb_2 _ (List.mem_of_getElem? (i := 111) rfl)) rfl
theorem wd_592 : (.instanceMethod ⟨"NameForge$Naming", "nameAll", "()V"⟩ : Cond) ∈ wT := wT_in (tb_2 _ (List.mem_of_getElem? (i := 112) rfl)) rfl
theorem wd_593 : (.selects "NameForge$Naming" ⟨"NameForge$Naming", "nameAll", "()V"⟩ ⟨"NameForge$Naming", "nameAll", "()V"⟩ : Cond) ∈ wT := wT_in (tb_2 _ (List.mem_of_getElem? (i := 113) rfl)) rfl
theorem wd_594 : (.code ⟨"NameForge$Naming", "nameAll", "()V"⟩ prog_4_method_2_code 2 none : Cond) ∈ wT := wT_in (tb_2 _ (List.mem_of_getElem? (i := 114) rfl)) rfl
theorem wd_595 : (.methodLink "NameForge$Naming" 55 ⟨"NameForge$Naming", "findDefined", "()V"⟩ : Cond) ∈ wT := wT_in (tb_2 _ (List.mem_of_getElem? (i := 115) rfl)) rfl
theorem wd_597 : (.instanceMethod ⟨"NameForge$Naming", "findDefined", "()V"⟩ : Cond) ∈ wT := wT_in (tb_2 _ (List.mem_of_getElem? (i := 117) rfl)) rfl
theorem wd_598 : (.code ⟨"NameForge$Naming", "findDefined", "()V"⟩ prog_4_method_4_code 3 none : Cond) ∈ wT := wT_in (tb_2 _ (List.mem_of_getElem? (i := 118) rfl)) rfl
theorem wd_601 : (.methodLink "NameForge$Naming" 58 ⟨"NameForge$Naming", "placePhis", "()V"⟩ : Cond) ∈ wT := wT_in (tb_2 _ (List.mem_of_getElem? (i := 121) rfl)) rfl
theorem wd_603 : (.instanceMethod ⟨"NameForge$Naming", "placePhis", "()V"⟩ : Cond) ∈ wT := wT_in (tb_2 _ (List.mem_of_getElem? (i := 123) rfl)) rfl
theorem wd_604 : (.code ⟨"NameForge$Naming", "placePhis", "()V"⟩ prog_4_method_5_code 4 none : Cond) ∈ wT := wT_in (tb_2 _ (List.mem_of_getElem? (i := 124) rfl)) rfl
theorem wd_605 : (.methodLink "NameForge$Naming" 61 ⟨"java/util/Arrays", "fill", "([II)V"⟩ : Cond) ∈ wT := wT_in (tb_2 _ (List.mem_of_getElem? (i := 125) rfl)) rfl
theorem wd_606 : (.static ⟨"java/util/Arrays", "fill", "([II)V"⟩ : Cond) ∈ wT := wT_in (tb_2 _ (List.mem_of_getElem? (i := 126) rfl)) rfl
theorem wd_607 : (.code ⟨"java/util/Arrays", "fill", "([II)V"⟩ prog_17_method_103_code 4 none : Cond) ∈ wT := wT_in (tb_2 _ (List.mem_of_getElem? (i := 127) rfl)) rfl
theorem wd_608 : (.methodLink "NameForge$Naming" 116 ⟨"NameForge$Naming", "spread", "(II)Z"⟩ : Cond) ∈ wT := wT_in (tb_2 _ (List.mem_of_getElem? (i := 128) rfl)) rfl
theorem wd_610 : (.instanceMethod ⟨"NameForge$Naming", "spread", "(II)Z"⟩ : Cond) ∈ wT := wT_in (tb_2 _ (List.mem_of_getElem? (i := 130) rfl)) rfl
theorem wd_611 : (.code ⟨"NameForge$Naming", "spread", "(II)Z"⟩ prog_4_method_6_code 5 (some .boolean) : Cond) ∈ wT := wT_in (tb_2 _ (List.mem_of_getElem? (i := 131) rfl)) rfl
theorem wd_613 : (.methodLink "NameForge$Naming" 71 ⟨"NameForge$Naming", "newName", "(III)I"⟩ : Cond) ∈ wT := wT_in (tb_2 _ (List.mem_of_getElem? (i := 133) rfl)) rfl
theorem wd_615 : (.instanceMethod ⟨"NameForge$Naming", "newName", "(III)I"⟩ : Cond) ∈ wT := wT_in (tb_2 _ (List.mem_of_getElem? (i := 135) rfl)) rfl
theorem wd_616 : (.code ⟨"NameForge$Naming", "newName", "(III)I"⟩ prog_4_method_9_code 5 (some .int) : Cond) ∈ wT := wT_in (tb_2 _ (List.mem_of_getElem? (i := 136) rfl)) rfl
theorem wd_617 : (.methodLink "NameForge$Naming" 83 ⟨"NameForge$Naming", "nameBlock", "(I)V"⟩ : Cond) ∈ wT := wT_in (tb_2 _ (List.mem_of_getElem? (i := 137) rfl)) rfl
theorem wd_619 : (.instanceMethod ⟨"NameForge$Naming", "nameBlock", "(I)V"⟩ : Cond) ∈ wT := wT_in (tb_2 _ (List.mem_of_getElem? (i := 139) rfl)) rfl
theorem wd_620 : (.code ⟨"NameForge$Naming", "nameBlock", "(I)V"⟩ prog_4_method_7_code 5 none : Cond) ∈ wT := wT_in (tb_2 _ (List.mem_of_getElem? (i := 140) rfl)) rfl
theorem wd_621 : (.methodLink "NameForge$Naming" 122 ⟨"NameForge$Naming", "nameInstruction", "(II[I)V"⟩ : Cond) ∈ wT := wT_in (tb_2 _ (List.mem_of_getElem? (i := 141) rfl)) rfl
theorem wd_623 : (.instanceMethod ⟨"NameForge$Naming", "nameInstruction", "(II[I)V"⟩ : Cond) ∈ wT := wT_in (tb_2 _ (List.mem_of_getElem? (i := 143) rfl)) rfl
theorem wd_624 : (.code ⟨"NameForge$Naming", "nameInstruction", "(II[I)V"⟩ prog_4_method_8_code 6 none : Cond) ∈ wT := wT_in (tb_2 _ (List.mem_of_getElem? (i := 144) rfl)) rfl
theorem wd_627 : (.methodLink "NameForge" 127 ⟨"NameForge$Known", "settle", "()V"⟩ : Cond) ∈ wT := wT_in (tb_2 _ (List.mem_of_getElem? (i := 147) rfl)) rfl
theorem wd_628 : (.instanceMethod ⟨"NameForge$Known", "settle", "()V"⟩ : Cond) ∈ wT := wT_in (tb_2 _ (List.mem_of_getElem? (i := 148) rfl)) rfl
theorem wd_629 : (.selects "NameForge$Known" ⟨"NameForge$Known", "settle", "()V"⟩ ⟨"NameForge$Known", "settle", "()V"⟩ : Cond) ∈ wT := wT_in (tb_2 _ (List.mem_of_getElem? (i := 149) rfl)) rfl
theorem wd_630 : (.code ⟨"NameForge$Known", "settle", "()V"⟩ prog_2_method_2_code 3 none : Cond) ∈ wT := wT_in (tb_2 _ (List.mem_of_getElem? (i := 150) rfl)) rfl
theorem wd_631 : (.methodLink "NameForge$Known" 33 ⟨"java/util/Arrays", "fill", "([II)V"⟩ : Cond) ∈ wT := wT_in (tb_2 _ (List.mem_of_getElem? (i := 151) rfl)) rfl
theorem wd_634 : (.methodLink "NameForge$Known" 63 ⟨"NameForge$Known", "passBlock", "(I)V"⟩ : Cond) ∈ wT := wT_in (tb_2 _ (List.mem_of_getElem? (i := 154) rfl)) rfl
theorem wd_636 : (.instanceMethod ⟨"NameForge$Known", "passBlock", "(I)V"⟩ : Cond) ∈ wT := wT_in (tb_2 _ (List.mem_of_getElem? (i := 156) rfl)) rfl
theorem wd_637 : (.code ⟨"NameForge$Known", "passBlock", "(I)V"⟩ prog_2_method_4_code 3 none : Cond) ∈ wT := wT_in (tb_2 _ (List.mem_of_getElem? (i := 157) rfl)) rfl
theorem wd_638 : (.methodLink "NameForge$Known" 72 ⟨"NameForge$Known", "passPhi", "(II)V"⟩ : Cond) ∈ wT := wT_in (tb_2 _ (List.mem_of_getElem? (i := 158) rfl)) rfl
theorem wd_640 : (.instanceMethod ⟨"NameForge$Known", "passPhi", "(II)V"⟩ : Cond) ∈ wT := wT_in (tb_2 _ (List.mem_of_getElem? (i := 160) rfl)) rfl
theorem wd_641 : (.code ⟨"NameForge$Known", "passPhi", "(II)V"⟩ prog_2_method_5_code 5 none : Cond) ∈ wT := wT_in (tb_2 _ (List.mem_of_getElem? (i := 161) rfl)) rfl
theorem wd_642 : (.methodLink "NameForge$Known" 94 ⟨"NameForge$Known", "isWayTaken", "(II)Z"⟩ : Cond) ∈ wT := wT_in (tb_2 _ (List.mem_of_getElem? (i := 162) rfl)) rfl
theorem wd_643 : (.instanceMethod ⟨"NameForge$Known", "isWayTaken", "(II)Z"⟩ : Cond) ∈ wT := wT_in (tb_2 _ (List.mem_of_getElem? (i := 163) rfl)) rfl
theorem wd_644 : (.selects "NameForge$Known" ⟨"NameForge$Known", "isWayTaken", "(II)Z"⟩ ⟨"NameForge$Known", "isWayTaken", "(II)Z"⟩ : Cond) ∈ wT := wT_in (tb_2 _ (List.mem_of_getElem? (i := 164) rfl)) rfl
theorem wd_645 : (.code ⟨"NameForge$Known", "isWayTaken", "(II)Z"⟩ prog_2_method_3_code 3 (some .boolean) : Cond) ∈ wT := wT_in (tb_2 _ (List.mem_of_getElem? (i := 165) rfl)) rfl
theorem wd_646 : (.methodLink "NameForge$Known" 103 ⟨"NameForge$Known", "raise", "(III)V"⟩ : Cond) ∈ wT := wT_in (tb_2 _ (List.mem_of_getElem? (i := 166) rfl)) rfl
theorem wd_648 : (.instanceMethod ⟨"NameForge$Known", "raise", "(III)V"⟩ : Cond) ∈ wT := wT_in (tb_2 _ (List.mem_of_getElem? (i := 168) rfl)) rfl
theorem wd_649 : (.code ⟨"NameForge$Known", "raise", "(III)V"⟩ prog_2_method_7_code 4 none : Cond) ∈ wT := wT_in (tb_2 _ (List.mem_of_getElem? (i := 169) rfl)) rfl
theorem wd_650 : (.methodLink "NameForge$Known" 85 ⟨"NameForge$Known", "passInstruction", "(II)V"⟩ : Cond) ∈ wT := wT_in (tb_2 _ (List.mem_of_getElem? (i := 170) rfl)) rfl
theorem wd_652 : (.instanceMethod ⟨"NameForge$Known", "passInstruction", "(II)V"⟩ : Cond) ∈ wT := wT_in (tb_2 _ (List.mem_of_getElem? (i := 172) rfl)) rfl
theorem wd_653 : (.code ⟨"NameForge$Known", "passInstruction", "(II)V"⟩ prog_2_method_6_code 11 none : Cond) ∈ wT := wT_in (tb_2 _ (List.mem_of_getElem? (i := 173) rfl)) rfl
theorem wd_655 : (.static ⟨"NameForge", "calculate", "(III)I"⟩ : Cond) ∈ wT := wT_in (tb_2 _ (List.mem_of_getElem? (i := 175) rfl)) rfl
theorem wd_656 : (.code ⟨"NameForge", "calculate", "(III)I"⟩ prog_1_method_26_code 3 (some .int) : Cond) ∈ wT := wT_in (tb_2 _ (List.mem_of_getElem? (i := 176) rfl)) rfl
theorem wd_657 : (.methodLink "NameForge$Known" 88 ⟨"NameForge$Known", "passEnd", "(I)V"⟩ : Cond) ∈ wT := wT_in (tb_2 _ (List.mem_of_getElem? (i := 177) rfl)) rfl
theorem wd_659 : (.instanceMethod ⟨"NameForge$Known", "passEnd", "(I)V"⟩ : Cond) ∈ wT := wT_in (tb_2 _ (List.mem_of_getElem? (i := 179) rfl)) rfl
theorem wd_660 : (.code ⟨"NameForge$Known", "passEnd", "(I)V"⟩ prog_2_method_8_code 3 none : Cond) ∈ wT := wT_in (tb_2 _ (List.mem_of_getElem? (i := 180) rfl)) rfl
theorem wd_661 : (.methodLink "NameForge$Known" 123 ⟨"NameForge$Known", "waysTaken", "(I)I"⟩ : Cond) ∈ wT := wT_in (tb_2 _ (List.mem_of_getElem? (i := 181) rfl)) rfl
theorem wd_663 : (.instanceMethod ⟨"NameForge$Known", "waysTaken", "(I)I"⟩ : Cond) ∈ wT := wT_in (tb_2 _ (List.mem_of_getElem? (i := 183) rfl)) rfl
theorem wd_664 : (.code ⟨"NameForge$Known", "waysTaken", "(I)I"⟩ prog_2_method_9_code 3 (some .int) : Cond) ∈ wT := wT_in (tb_2 _ (List.mem_of_getElem? (i := 184) rfl)) rfl
theorem wd_665 : (.methodLink "NameForge$Known" 129 ⟨"NameForge$Program", "ways", "(I)I"⟩ : Cond) ∈ wT := wT_in (tb_2 _ (List.mem_of_getElem? (i := 185) rfl)) rfl
theorem wd_666 : (.methodLink "NameForge" 130 ⟨"NameForge$Needed", "collect", "()V"⟩ : Cond) ∈ wT := wT_in (tb_2 _ (List.mem_of_getElem? (i := 186) rfl)) rfl
theorem wd_667 : (.instanceMethod ⟨"NameForge$Needed", "collect", "()V"⟩ : Cond) ∈ wT := wT_in (tb_2 _ (List.mem_of_getElem? (i := 187) rfl)) rfl
theorem wd_668 : (.selects "NameForge$Needed" ⟨"NameForge$Needed", "collect", "()V"⟩ ⟨"NameForge$Needed", "collect", "()V"⟩ : Cond) ∈ wT := wT_in (tb_2 _ (List.mem_of_getElem? (i := 188) rfl)) rfl
theorem wd_669 : (.code ⟨"NameForge$Needed", "collect", "()V"⟩ prog_5_method_2_code 2 none : Cond) ∈ wT := wT_in (tb_2 _ (List.mem_of_getElem? (i := 189) rfl)) rfl
theorem wd_671 : (.methodLink "NameForge$Needed" 49 ⟨"NameForge$Needed", "needByBlock", "(I)V"⟩ : Cond) ∈ wT := wT_in (tb_2 _ (List.mem_of_getElem? (i := 191) rfl)) rfl
theorem wd_673 : (.instanceMethod ⟨"NameForge$Needed", "needByBlock", "(I)V"⟩ : Cond) ∈ wT := wT_in (tb_2 _ (List.mem_of_getElem? (i := 193) rfl)) rfl
theorem wd_674 : (.code ⟨"NameForge$Needed", "needByBlock", "(I)V"⟩ prog_5_method_3_code 4 none : Cond) ∈ wT := wT_in (tb_2 _ (List.mem_of_getElem? (i := 194) rfl)) rfl
theorem wd_675 : (.methodLink "NameForge$Needed" 71 ⟨"NameForge$Needed", "need", "(I)V"⟩ : Cond) ∈ wT := wT_in (tb_2 _ (List.mem_of_getElem? (i := 195) rfl)) rfl
theorem wd_677 : (.instanceMethod ⟨"NameForge$Needed", "need", "(I)V"⟩ : Cond) ∈ wT := wT_in (tb_2 _ (List.mem_of_getElem? (i := 197) rfl)) rfl
theorem wd_678 : (.code ⟨"NameForge$Needed", "need", "(I)V"⟩ prog_5_method_6_code 2 none : Cond) ∈ wT := wT_in (tb_2 _ (List.mem_of_getElem? (i := 198) rfl)) rfl
theorem wd_679 : (.methodLink "NameForge$Needed" 56 ⟨"NameForge$Needed", "needPartsOf", "(I)V"⟩ : Cond) ∈ wT := wT_in (tb_2 _ (List.mem_of_getElem? (i := 199) rfl)) rfl
theorem wd_681 : (.instanceMethod ⟨"NameForge$Needed", "needPartsOf", "(I)V"⟩ : Cond) ∈ wT := wT_in (tb_2 _ (List.mem_of_getElem? (i := 201) rfl)) rfl
theorem wd_682 : (.code ⟨"NameForge$Needed", "needPartsOf", "(I)V"⟩ prog_5_method_4_code 4 none : Cond) ∈ wT := wT_in (tb_2 _ (List.mem_of_getElem? (i := 202) rfl)) rfl
theorem wd_683 : (.methodLink "NameForge$Needed" 89 ⟨"NameForge$Needed", "needPartsOfPhi", "(II)V"⟩ : Cond) ∈ wT := wT_in (tb_2 _ (List.mem_of_getElem? (i := 203) rfl)) rfl
theorem wd_685 : (.instanceMethod ⟨"NameForge$Needed", "needPartsOfPhi", "(II)V"⟩ : Cond) ∈ wT := wT_in (tb_2 _ (List.mem_of_getElem? (i := 205) rfl)) rfl
theorem wd_686 : (.code ⟨"NameForge$Needed", "needPartsOfPhi", "(II)V"⟩ prog_5_method_5_code 4 none : Cond) ∈ wT := wT_in (tb_2 _ (List.mem_of_getElem? (i := 206) rfl)) rfl
theorem wd_687 : (.methodLink "NameForge$Needed" 96 ⟨"NameForge$Known", "isWayTaken", "(II)Z"⟩ : Cond) ∈ wT := wT_in (tb_2 _ (List.mem_of_getElem? (i := 207) rfl)) rfl
theorem wd_696 : (.classLink "NameForge" 136 "java/util/NoSuchElementException" : Cond) ∈ wT := wT_in (tb_2 _ (List.mem_of_getElem? (i := 216) rfl)) rfl
theorem wd_697 : (.instantiable "java/util/NoSuchElementException" 6 : Cond) ∈ wT := wT_in (tb_2 _ (List.mem_of_getElem? (i := 217) rfl)) rfl
theorem wd_713 : (.methodLink "NameForge" 146 ⟨"NameForge", "holds", "(II)Z"⟩ : Cond) ∈ wT := wT_in (tb_2 _ (List.mem_of_getElem? (i := 233) rfl)) rfl
theorem wd_714 : (.methodLink "NameForge" 156 ⟨"java/lang/Integer", "bitCount", "(I)I"⟩ : Cond) ∈ wT := wT_in (tb_2 _ (List.mem_of_getElem? (i := 234) rfl)) rfl
theorem wd_715 : (.static ⟨"java/lang/Integer", "bitCount", "(I)I"⟩ : Cond) ∈ wT := wT_in (tb_2 _ (List.mem_of_getElem? (i := 235) rfl)) rfl
theorem wd_716 : (.code ⟨"java/lang/Integer", "bitCount", "(I)I"⟩ prog_13_method_49_code 1 (some .int) : Cond) ∈ wT := wT_in (tb_2 _ (List.mem_of_getElem? (i := 236) rfl)) rfl
theorem wd_717 : (.constant "java/lang/Integer" 265 (1431655765 : Int32) : Cond) ∈ wT := wT_in (tb_2 _ (List.mem_of_getElem? (i := 237) rfl)) rfl
theorem wd_718 : (.constant "java/lang/Integer" 266 (858993459 : Int32) : Cond) ∈ wT := wT_in (tb_2 _ (List.mem_of_getElem? (i := 238) rfl)) rfl
theorem wd_719 : (.constant "java/lang/Integer" 267 (252645135 : Int32) : Cond) ∈ wT := wT_in (tb_2 _ (List.mem_of_getElem? (i := 239) rfl)) rfl
theorem wd_727 : (.methodLink "NameForge" 168 ⟨"NameForge$Naming", "phiVariable", "(II)I"⟩ : Cond) ∈ wT := wT_in (tb_3 _ (List.mem_of_getElem? (i := 7) rfl)) rfl
theorem wd_728 : (.instanceMethod ⟨"NameForge$Naming", "phiVariable", "(II)I"⟩ : Cond) ∈ wT := wT_in (tb_3 _ (List.mem_of_getElem? (i := 8) rfl)) rfl
theorem wd_729 : (.selects "NameForge$Naming" ⟨"NameForge$Naming", "phiVariable", "(II)I"⟩ ⟨"NameForge$Naming", "phiVariable", "(II)I"⟩ : Cond) ∈ wT := wT_in (tb_3 _ (List.mem_of_getElem? (i := 9) rfl)) rfl
theorem wd_730 : (.code ⟨"NameForge$Naming", "phiVariable", "(II)I"⟩ prog_4_method_3_code 5 (some .int) : Cond) ∈ wT := wT_in (tb_3 _ (List.mem_of_getElem? (i := 10) rfl)) rfl
theorem wd_731 : (.methodLink "NameForge" 172 ⟨"NameForge", "isPhiWhat", "(II)Z"⟩ : Cond) ∈ wT := wT_in (tb_3 _ (List.mem_of_getElem? (i := 11) rfl)) rfl
theorem wd_733 : (.instanceMethod ⟨"NameForge", "isPhiWhat", "(II)Z"⟩ : Cond) ∈ wT := wT_in (tb_3 _ (List.mem_of_getElem? (i := 13) rfl)) rfl
theorem wd_734 : (.code ⟨"NameForge", "isPhiWhat", "(II)Z"⟩ prog_1_method_19_code 3 (some .boolean) : Cond) ∈ wT := wT_in (tb_3 _ (List.mem_of_getElem? (i := 14) rfl)) rfl
theorem wd_743 : (.methodLink "NameForge" 184 ⟨"NameForge", "isReachedInstruction", "(II)Z"⟩ : Cond) ∈ wT := wT_in (tb_3 _ (List.mem_of_getElem? (i := 23) rfl)) rfl
theorem wd_745 : (.instanceMethod ⟨"NameForge", "isReachedInstruction", "(II)Z"⟩ : Cond) ∈ wT := wT_in (tb_3 _ (List.mem_of_getElem? (i := 25) rfl)) rfl
theorem wd_746 : (.code ⟨"NameForge", "isReachedInstruction", "(II)Z"⟩ prog_1_method_20_code 3 (some .boolean) : Cond) ∈ wT := wT_in (tb_3 _ (List.mem_of_getElem? (i := 26) rfl)) rfl
theorem wd_764 : (.methodLink "NameForge" 221 ⟨"NameForge$Machine", "execute", "(ZI)Z"⟩ : Cond) ∈ wT := wT_in (tb_3 _ (List.mem_of_getElem? (i := 44) rfl)) rfl
theorem wd_765 : (.instanceMethod ⟨"NameForge$Machine", "execute", "(ZI)Z"⟩ : Cond) ∈ wT := wT_in (tb_3 _ (List.mem_of_getElem? (i := 45) rfl)) rfl
theorem wd_766 : (.selects "NameForge$Machine" ⟨"NameForge$Machine", "execute", "(ZI)Z"⟩ ⟨"NameForge$Machine", "execute", "(ZI)Z"⟩ : Cond) ∈ wT := wT_in (tb_3 _ (List.mem_of_getElem? (i := 46) rfl)) rfl
theorem wd_767 : (.code ⟨"NameForge$Machine", "execute", "(ZI)Z"⟩ prog_3_method_3_code 7 (some .boolean) : Cond) ∈ wT := wT_in (tb_3 _ (List.mem_of_getElem? (i := 47) rfl)) rfl
theorem wd_768 : (.methodLink "NameForge$Machine" 47 ⟨"NameForge$Machine", "begin", "()V"⟩ : Cond) ∈ wT := wT_in (tb_3 _ (List.mem_of_getElem? (i := 48) rfl)) rfl
theorem wd_770 : (.instanceMethod ⟨"NameForge$Machine", "begin", "()V"⟩ : Cond) ∈ wT := wT_in (tb_3 _ (List.mem_of_getElem? (i := 50) rfl)) rfl
theorem wd_771 : (.code ⟨"NameForge$Machine", "begin", "()V"⟩ prog_3_method_4_code 1 none : Cond) ∈ wT := wT_in (tb_3 _ (List.mem_of_getElem? (i := 51) rfl)) rfl
theorem wd_772 : (.methodLink "NameForge$Machine" 61 ⟨"java/util/Arrays", "fill", "([II)V"⟩ : Cond) ∈ wT := wT_in (tb_3 _ (List.mem_of_getElem? (i := 52) rfl)) rfl
theorem wd_773 : (.methodLink "NameForge$Machine" 53 ⟨"NameForge$Machine", "passPlain", "(I)I"⟩ : Cond) ∈ wT := wT_in (tb_3 _ (List.mem_of_getElem? (i := 53) rfl)) rfl
theorem wd_775 : (.instanceMethod ⟨"NameForge$Machine", "passPlain", "(I)I"⟩ : Cond) ∈ wT := wT_in (tb_3 _ (List.mem_of_getElem? (i := 55) rfl)) rfl
theorem wd_776 : (.code ⟨"NameForge$Machine", "passPlain", "(I)I"⟩ prog_3_method_5_code 9 (some .int) : Cond) ∈ wT := wT_in (tb_3 _ (List.mem_of_getElem? (i := 56) rfl)) rfl
theorem wd_779 : (.methodLink "NameForge$Machine" 98 ⟨"NameForge$Machine", "perform", "(III)I"⟩ : Cond) ∈ wT := wT_in (tb_3 _ (List.mem_of_getElem? (i := 59) rfl)) rfl
theorem wd_781 : (.instanceMethod ⟨"NameForge$Machine", "perform", "(III)I"⟩ : Cond) ∈ wT := wT_in (tb_3 _ (List.mem_of_getElem? (i := 61) rfl)) rfl
theorem wd_782 : (.code ⟨"NameForge$Machine", "perform", "(III)I"⟩ prog_3_method_10_code 4 (some .int) : Cond) ∈ wT := wT_in (tb_3 _ (List.mem_of_getElem? (i := 62) rfl)) rfl
theorem wd_783 : (.methodLink "NameForge$Machine" 165 ⟨"NameForge$Machine", "keep", "(I)V"⟩ : Cond) ∈ wT := wT_in (tb_3 _ (List.mem_of_getElem? (i := 63) rfl)) rfl
theorem wd_785 : (.instanceMethod ⟨"NameForge$Machine", "keep", "(I)V"⟩ : Cond) ∈ wT := wT_in (tb_3 _ (List.mem_of_getElem? (i := 65) rfl)) rfl
theorem wd_786 : (.code ⟨"NameForge$Machine", "keep", "(I)V"⟩ prog_3_method_11_code 2 none : Cond) ∈ wT := wT_in (tb_3 _ (List.mem_of_getElem? (i := 66) rfl)) rfl
theorem wd_787 : (.methodLink "NameForge$Machine" 169 ⟨"NameForge$Machine", "nextInput", "()I"⟩ : Cond) ∈ wT := wT_in (tb_3 _ (List.mem_of_getElem? (i := 67) rfl)) rfl
theorem wd_789 : (.instanceMethod ⟨"NameForge$Machine", "nextInput", "()I"⟩ : Cond) ∈ wT := wT_in (tb_3 _ (List.mem_of_getElem? (i := 69) rfl)) rfl
theorem wd_790 : (.code ⟨"NameForge$Machine", "nextInput", "()I"⟩ prog_3_method_12_code 2 (some .int) : Cond) ∈ wT := wT_in (tb_3 _ (List.mem_of_getElem? (i := 70) rfl)) rfl
theorem wd_793 : (.methodLink "NameForge$Machine" 111 ⟨"NameForge$Machine", "nextOf", "(II)I"⟩ : Cond) ∈ wT := wT_in (tb_3 _ (List.mem_of_getElem? (i := 73) rfl)) rfl
theorem wd_795 : (.instanceMethod ⟨"NameForge$Machine", "nextOf", "(II)I"⟩ : Cond) ∈ wT := wT_in (tb_3 _ (List.mem_of_getElem? (i := 75) rfl)) rfl
theorem wd_796 : (.code ⟨"NameForge$Machine", "nextOf", "(II)I"⟩ prog_3_method_13_code 3 (some .int) : Cond) ∈ wT := wT_in (tb_3 _ (List.mem_of_getElem? (i := 76) rfl)) rfl
theorem wd_797 : (.methodLink "NameForge$Machine" 57 ⟨"NameForge$Machine", "passBecome", "(II)I"⟩ : Cond) ∈ wT := wT_in (tb_3 _ (List.mem_of_getElem? (i := 77) rfl)) rfl
theorem wd_799 : (.instanceMethod ⟨"NameForge$Machine", "passBecome", "(II)I"⟩ : Cond) ∈ wT := wT_in (tb_3 _ (List.mem_of_getElem? (i := 79) rfl)) rfl
theorem wd_800 : (.code ⟨"NameForge$Machine", "passBecome", "(II)I"⟩ prog_3_method_6_code 8 (some .int) : Cond) ∈ wT := wT_in (tb_3 _ (List.mem_of_getElem? (i := 80) rfl)) rfl
theorem wd_801 : (.methodLink "NameForge$Machine" 114 ⟨"NameForge$Machine", "choose", "(II)V"⟩ : Cond) ∈ wT := wT_in (tb_3 _ (List.mem_of_getElem? (i := 81) rfl)) rfl
theorem wd_803 : (.instanceMethod ⟨"NameForge$Machine", "choose", "(II)V"⟩ : Cond) ∈ wT := wT_in (tb_3 _ (List.mem_of_getElem? (i := 83) rfl)) rfl
theorem wd_804 : (.code ⟨"NameForge$Machine", "choose", "(II)V"⟩ prog_3_method_7_code 4 none : Cond) ∈ wT := wT_in (tb_3 _ (List.mem_of_getElem? (i := 84) rfl)) rfl
theorem wd_805 : (.methodLink "NameForge$Machine" 129 ⟨"NameForge$Machine", "valueOf", "(I)I"⟩ : Cond) ∈ wT := wT_in (tb_3 _ (List.mem_of_getElem? (i := 85) rfl)) rfl
theorem wd_807 : (.instanceMethod ⟨"NameForge$Machine", "valueOf", "(I)I"⟩ : Cond) ∈ wT := wT_in (tb_3 _ (List.mem_of_getElem? (i := 87) rfl)) rfl
theorem wd_808 : (.code ⟨"NameForge$Machine", "valueOf", "(I)I"⟩ prog_3_method_9_code 2 (some .int) : Cond) ∈ wT := wT_in (tb_3 _ (List.mem_of_getElem? (i := 88) rfl)) rfl
theorem wd_810 : (.methodLink "NameForge$Machine" 123 ⟨"NameForge$Machine", "isKept", "(I)Z"⟩ : Cond) ∈ wT := wT_in (tb_3 _ (List.mem_of_getElem? (i := 90) rfl)) rfl
theorem wd_812 : (.instanceMethod ⟨"NameForge$Machine", "isKept", "(I)Z"⟩ : Cond) ∈ wT := wT_in (tb_3 _ (List.mem_of_getElem? (i := 92) rfl)) rfl
theorem wd_813 : (.code ⟨"NameForge$Machine", "isKept", "(I)Z"⟩ prog_3_method_8_code 2 (some .boolean) : Cond) ∈ wT := wT_in (tb_3 _ (List.mem_of_getElem? (i := 93) rfl)) rfl
theorem wd_828 : (.fieldLink "NameForgeModel" 101 "NameForgeModel" "thrown" "I" : Cond) ∈ wT := wT_in (tb_3 _ (List.mem_of_getElem? (i := 108) rfl)) rfl
theorem wd_829 : (.fieldLink "NameForgeModel" 105 "NameForgeModel" "blocks" "I" : Cond) ∈ wT := wT_in (tb_3 _ (List.mem_of_getElem? (i := 109) rfl)) rfl
theorem wd_830 : (.fieldLink "NameForgeModel" 7 "NameForgeModel" "counts" "[I" : Cond) ∈ wT := wT_in (tb_3 _ (List.mem_of_getElem? (i := 110) rfl)) rfl
theorem wd_831 : (.fieldLink "NameForgeModel" 13 "NameForgeModel" "kinds" "[I" : Cond) ∈ wT := wT_in (tb_3 _ (List.mem_of_getElem? (i := 111) rfl)) rfl
theorem wd_832 : (.fieldLink "NameForgeModel" 16 "NameForgeModel" "targets" "[I" : Cond) ∈ wT := wT_in (tb_3 _ (List.mem_of_getElem? (i := 112) rfl)) rfl
theorem wd_833 : (.fieldLink "NameForgeModel" 19 "NameForgeModel" "firsts" "[I" : Cond) ∈ wT := wT_in (tb_3 _ (List.mem_of_getElem? (i := 113) rfl)) rfl
theorem wd_834 : (.fieldLink "NameForgeModel" 22 "NameForgeModel" "seconds" "[I" : Cond) ∈ wT := wT_in (tb_3 _ (List.mem_of_getElem? (i := 114) rfl)) rfl
theorem wd_835 : (.fieldLink "NameForgeModel" 25 "NameForgeModel" "ends" "[I" : Cond) ∈ wT := wT_in (tb_3 _ (List.mem_of_getElem? (i := 115) rfl)) rfl
theorem wd_836 : (.fieldLink "NameForgeModel" 28 "NameForgeModel" "tests" "[I" : Cond) ∈ wT := wT_in (tb_3 _ (List.mem_of_getElem? (i := 116) rfl)) rfl
theorem wd_837 : (.fieldLink "NameForgeModel" 31 "NameForgeModel" "thens" "[I" : Cond) ∈ wT := wT_in (tb_3 _ (List.mem_of_getElem? (i := 117) rfl)) rfl
theorem wd_838 : (.fieldLink "NameForgeModel" 34 "NameForgeModel" "elses" "[I" : Cond) ∈ wT := wT_in (tb_3 _ (List.mem_of_getElem? (i := 118) rfl)) rfl
theorem wd_839 : (.fieldLink "NameForgeModel" 112 "NameForgeModel" "built" "Z" : Cond) ∈ wT := wT_in (tb_3 _ (List.mem_of_getElem? (i := 119) rfl)) rfl
theorem wd_840 : (.fieldLink "NameForgeModel" 135 "NameForgeModel" "reached" "I" : Cond) ∈ wT := wT_in (tb_3 _ (List.mem_of_getElem? (i := 120) rfl)) rfl
theorem wd_841 : (.fieldLink "NameForgeModel" 37 "NameForgeModel" "over" "[I" : Cond) ∈ wT := wT_in (tb_3 _ (List.mem_of_getElem? (i := 121) rfl)) rfl
theorem wd_842 : (.fieldLink "NameForgeModel" 40 "NameForgeModel" "before" "[I" : Cond) ∈ wT := wT_in (tb_3 _ (List.mem_of_getElem? (i := 122) rfl)) rfl
theorem wd_843 : (.fieldLink "NameForgeModel" 43 "NameForgeModel" "parent" "[I" : Cond) ∈ wT := wT_in (tb_3 _ (List.mem_of_getElem? (i := 123) rfl)) rfl
theorem wd_844 : (.fieldLink "NameForgeModel" 46 "NameForgeModel" "phis" "[I" : Cond) ∈ wT := wT_in (tb_3 _ (List.mem_of_getElem? (i := 124) rfl)) rfl
theorem wd_845 : (.fieldLink "NameForgeModel" 155 "NameForgeModel" "names" "I" : Cond) ∈ wT := wT_in (tb_3 _ (List.mem_of_getElem? (i := 125) rfl)) rfl
theorem wd_846 : (.fieldLink "NameForgeModel" 49 "NameForgeModel" "blockOf" "[I" : Cond) ∈ wT := wT_in (tb_3 _ (List.mem_of_getElem? (i := 126) rfl)) rfl
theorem wd_847 : (.fieldLink "NameForgeModel" 52 "NameForgeModel" "madeBy" "[I" : Cond) ∈ wT := wT_in (tb_3 _ (List.mem_of_getElem? (i := 127) rfl)) rfl
theorem wd_848 : (.fieldLink "NameForgeModel" 55 "NameForgeModel" "phiName" "[I" : Cond) ∈ wT := wT_in (tb_3 _ (List.mem_of_getElem? (i := 128) rfl)) rfl
theorem wd_849 : (.fieldLink "NameForgeModel" 58 "NameForgeModel" "sets" "[I" : Cond) ∈ wT := wT_in (tb_3 _ (List.mem_of_getElem? (i := 129) rfl)) rfl
theorem wd_850 : (.fieldLink "NameForgeModel" 61 "NameForgeModel" "usesX" "[I" : Cond) ∈ wT := wT_in (tb_3 _ (List.mem_of_getElem? (i := 130) rfl)) rfl
theorem wd_851 : (.fieldLink "NameForgeModel" 64 "NameForgeModel" "usesY" "[I" : Cond) ∈ wT := wT_in (tb_3 _ (List.mem_of_getElem? (i := 131) rfl)) rfl
theorem wd_852 : (.fieldLink "NameForgeModel" 67 "NameForgeModel" "testName" "[I" : Cond) ∈ wT := wT_in (tb_3 _ (List.mem_of_getElem? (i := 132) rfl)) rfl
theorem wd_853 : (.fieldLink "NameForgeModel" 70 "NameForgeModel" "atEnd" "[I" : Cond) ∈ wT := wT_in (tb_3 _ (List.mem_of_getElem? (i := 133) rfl)) rfl
theorem wd_854 : (.fieldLink "NameForgeModel" 73 "NameForgeModel" "walk" "[I" : Cond) ∈ wT := wT_in (tb_3 _ (List.mem_of_getElem? (i := 134) rfl)) rfl
theorem wd_855 : (.fieldLink "NameForgeModel" 166 "NameForgeModel" "comeTo" "I" : Cond) ∈ wT := wT_in (tb_3 _ (List.mem_of_getElem? (i := 135) rfl)) rfl
theorem wd_856 : (.fieldLink "NameForgeModel" 76 "NameForgeModel" "taken" "[I" : Cond) ∈ wT := wT_in (tb_3 _ (List.mem_of_getElem? (i := 136) rfl)) rfl
theorem wd_857 : (.fieldLink "NameForgeModel" 79 "NameForgeModel" "state" "[I" : Cond) ∈ wT := wT_in (tb_3 _ (List.mem_of_getElem? (i := 137) rfl)) rfl
theorem wd_858 : (.fieldLink "NameForgeModel" 82 "NameForgeModel" "number" "[I" : Cond) ∈ wT := wT_in (tb_3 _ (List.mem_of_getElem? (i := 138) rfl)) rfl
theorem wd_859 : (.fieldLink "NameForgeModel" 85 "NameForgeModel" "needed" "[Z" : Cond) ∈ wT := wT_in (tb_3 _ (List.mem_of_getElem? (i := 139) rfl)) rfl
theorem wd_860 : (.fieldLink "NameForgeModel" 217 "NameForgeModel" "given" "I" : Cond) ∈ wT := wT_in (tb_3 _ (List.mem_of_getElem? (i := 140) rfl)) rfl
theorem wd_861 : (.fieldLink "NameForgeModel" 89 "NameForgeModel" "input" "[I" : Cond) ∈ wT := wT_in (tb_3 _ (List.mem_of_getElem? (i := 141) rfl)) rfl
theorem wd_862 : (.fieldLink "NameForgeModel" 223 "NameForgeModel" "asked" "I" : Cond) ∈ wT := wT_in (tb_3 _ (List.mem_of_getElem? (i := 142) rfl)) rfl
theorem wd_863 : (.fieldLink "NameForgeModel" 220 "NameForgeModel" "told" "I" : Cond) ∈ wT := wT_in (tb_3 _ (List.mem_of_getElem? (i := 143) rfl)) rfl
theorem wd_864 : (.fieldLink "NameForgeModel" 92 "NameForgeModel" "heard" "[I" : Cond) ∈ wT := wT_in (tb_3 _ (List.mem_of_getElem? (i := 144) rfl)) rfl
theorem wd_865 : (.fieldLink "NameForgeModel" 242 "NameForgeModel" "ran" "I" : Cond) ∈ wT := wT_in (tb_3 _ (List.mem_of_getElem? (i := 145) rfl)) rfl
theorem wd_866 : (.fieldLink "NameForgeModel" 230 "NameForgeModel" "done" "I" : Cond) ∈ wT := wT_in (tb_3 _ (List.mem_of_getElem? (i := 146) rfl)) rfl
theorem wd_867 : (.fieldLink "NameForgeModel" 95 "NameForgeModel" "now" "[I" : Cond) ∈ wT := wT_in (tb_3 _ (List.mem_of_getElem? (i := 147) rfl)) rfl
theorem wd_868 : (.fieldLink "NameForgeModel" 98 "NameForgeModel" "next" "[I" : Cond) ∈ wT := wT_in (tb_3 _ (List.mem_of_getElem? (i := 148) rfl)) rfl
theorem wd_869 : (.lays "NameForgeModel" "NameForgeModel" "thrown" "I" : Cond) ∈ wT := wT_in (tb_3 _ (List.mem_of_getElem? (i := 149) rfl)) rfl
theorem wd_871 : (.lays "NameForgeModel" "NameForgeModel" "blocks" "I" : Cond) ∈ wT := wT_in (tb_3 _ (List.mem_of_getElem? (i := 151) rfl)) rfl
theorem wd_873 : (.laysFinal "NameForgeModel" "NameForgeModel" "counts" "[I" : Cond) ∈ wT := wT_in (tb_3 _ (List.mem_of_getElem? (i := 153) rfl)) rfl
theorem wd_875 : (.laysFinal "NameForgeModel" "NameForgeModel" "kinds" "[I" : Cond) ∈ wT := wT_in (tb_3 _ (List.mem_of_getElem? (i := 155) rfl)) rfl
theorem wd_877 : (.laysFinal "NameForgeModel" "NameForgeModel" "targets" "[I" : Cond) ∈ wT := wT_in (tb_3 _ (List.mem_of_getElem? (i := 157) rfl)) rfl
theorem wd_879 : (.laysFinal "NameForgeModel" "NameForgeModel" "firsts" "[I" : Cond) ∈ wT := wT_in (tb_3 _ (List.mem_of_getElem? (i := 159) rfl)) rfl
theorem wd_881 : (.laysFinal "NameForgeModel" "NameForgeModel" "seconds" "[I" : Cond) ∈ wT := wT_in (tb_3 _ (List.mem_of_getElem? (i := 161) rfl)) rfl
theorem wd_883 : (.laysFinal "NameForgeModel" "NameForgeModel" "ends" "[I" : Cond) ∈ wT := wT_in (tb_3 _ (List.mem_of_getElem? (i := 163) rfl)) rfl
theorem wd_885 : (.laysFinal "NameForgeModel" "NameForgeModel" "tests" "[I" : Cond) ∈ wT := wT_in (tb_3 _ (List.mem_of_getElem? (i := 165) rfl)) rfl
theorem wd_887 : (.laysFinal "NameForgeModel" "NameForgeModel" "thens" "[I" : Cond) ∈ wT := wT_in (tb_3 _ (List.mem_of_getElem? (i := 167) rfl)) rfl
theorem wd_889 : (.laysFinal "NameForgeModel" "NameForgeModel" "elses" "[I" : Cond) ∈ wT := wT_in (tb_3 _ (List.mem_of_getElem? (i := 169) rfl)) rfl
theorem wd_891 : (.lays "NameForgeModel" "NameForgeModel" "built" "Z" : Cond) ∈ wT := wT_in (tb_3 _ (List.mem_of_getElem? (i := 171) rfl)) rfl
theorem wd_893 : (.lays "NameForgeModel" "NameForgeModel" "reached" "I" : Cond) ∈ wT := wT_in (tb_3 _ (List.mem_of_getElem? (i := 173) rfl)) rfl
theorem wd_895 : (.laysFinal "NameForgeModel" "NameForgeModel" "over" "[I" : Cond) ∈ wT := wT_in (tb_3 _ (List.mem_of_getElem? (i := 175) rfl)) rfl
theorem wd_897 : (.laysFinal "NameForgeModel" "NameForgeModel" "before" "[I" : Cond) ∈ wT := wT_in (tb_3 _ (List.mem_of_getElem? (i := 177) rfl)) rfl
theorem wd_899 : (.laysFinal "NameForgeModel" "NameForgeModel" "parent" "[I" : Cond) ∈ wT := wT_in (tb_3 _ (List.mem_of_getElem? (i := 179) rfl)) rfl
theorem wd_901 : (.laysFinal "NameForgeModel" "NameForgeModel" "phis" "[I" : Cond) ∈ wT := wT_in (tb_3 _ (List.mem_of_getElem? (i := 181) rfl)) rfl
theorem wd_903 : (.lays "NameForgeModel" "NameForgeModel" "names" "I" : Cond) ∈ wT := wT_in (tb_3 _ (List.mem_of_getElem? (i := 183) rfl)) rfl
theorem wd_905 : (.laysFinal "NameForgeModel" "NameForgeModel" "blockOf" "[I" : Cond) ∈ wT := wT_in (tb_3 _ (List.mem_of_getElem? (i := 185) rfl)) rfl
theorem wd_907 : (.laysFinal "NameForgeModel" "NameForgeModel" "madeBy" "[I" : Cond) ∈ wT := wT_in (tb_3 _ (List.mem_of_getElem? (i := 187) rfl)) rfl
theorem wd_909 : (.laysFinal "NameForgeModel" "NameForgeModel" "phiName" "[I" : Cond) ∈ wT := wT_in (tb_3 _ (List.mem_of_getElem? (i := 189) rfl)) rfl
theorem wd_911 : (.laysFinal "NameForgeModel" "NameForgeModel" "sets" "[I" : Cond) ∈ wT := wT_in (tb_3 _ (List.mem_of_getElem? (i := 191) rfl)) rfl
theorem wd_913 : (.laysFinal "NameForgeModel" "NameForgeModel" "usesX" "[I" : Cond) ∈ wT := wT_in (tb_3 _ (List.mem_of_getElem? (i := 193) rfl)) rfl
theorem wd_915 : (.laysFinal "NameForgeModel" "NameForgeModel" "usesY" "[I" : Cond) ∈ wT := wT_in (tb_3 _ (List.mem_of_getElem? (i := 195) rfl)) rfl
theorem wd_917 : (.laysFinal "NameForgeModel" "NameForgeModel" "testName" "[I" : Cond) ∈ wT := wT_in (tb_3 _ (List.mem_of_getElem? (i := 197) rfl)) rfl
theorem wd_919 : (.laysFinal "NameForgeModel" "NameForgeModel" "atEnd" "[I" : Cond) ∈ wT := wT_in (tb_3 _ (List.mem_of_getElem? (i := 199) rfl)) rfl
theorem wd_921 : (.laysFinal "NameForgeModel" "NameForgeModel" "walk" "[I" : Cond) ∈ wT := wT_in (tb_3 _ (List.mem_of_getElem? (i := 201) rfl)) rfl
theorem wd_923 : (.lays "NameForgeModel" "NameForgeModel" "comeTo" "I" : Cond) ∈ wT := wT_in (tb_3 _ (List.mem_of_getElem? (i := 203) rfl)) rfl
theorem wd_925 : (.laysFinal "NameForgeModel" "NameForgeModel" "taken" "[I" : Cond) ∈ wT := wT_in (tb_3 _ (List.mem_of_getElem? (i := 205) rfl)) rfl
theorem wd_927 : (.laysFinal "NameForgeModel" "NameForgeModel" "state" "[I" : Cond) ∈ wT := wT_in (tb_3 _ (List.mem_of_getElem? (i := 207) rfl)) rfl
theorem wd_929 : (.laysFinal "NameForgeModel" "NameForgeModel" "number" "[I" : Cond) ∈ wT := wT_in (tb_3 _ (List.mem_of_getElem? (i := 209) rfl)) rfl
theorem wd_931 : (.laysFinal "NameForgeModel" "NameForgeModel" "needed" "[Z" : Cond) ∈ wT := wT_in (tb_3 _ (List.mem_of_getElem? (i := 211) rfl)) rfl
theorem wd_933 : (.lays "NameForgeModel" "NameForgeModel" "given" "I" : Cond) ∈ wT := wT_in (tb_3 _ (List.mem_of_getElem? (i := 213) rfl)) rfl
theorem wd_935 : (.laysFinal "NameForgeModel" "NameForgeModel" "input" "[I" : Cond) ∈ wT := wT_in (tb_3 _ (List.mem_of_getElem? (i := 215) rfl)) rfl
theorem wd_937 : (.lays "NameForgeModel" "NameForgeModel" "asked" "I" : Cond) ∈ wT := wT_in (tb_3 _ (List.mem_of_getElem? (i := 217) rfl)) rfl
theorem wd_939 : (.lays "NameForgeModel" "NameForgeModel" "told" "I" : Cond) ∈ wT := wT_in (tb_3 _ (List.mem_of_getElem? (i := 219) rfl)) rfl
theorem wd_941 : (.laysFinal "NameForgeModel" "NameForgeModel" "heard" "[I" : Cond) ∈ wT := wT_in (tb_3 _ (List.mem_of_getElem? (i := 221) rfl)) rfl
theorem wd_943 : (.lays "NameForgeModel" "NameForgeModel" "ran" "I" : Cond) ∈ wT := wT_in (tb_3 _ (List.mem_of_getElem? (i := 223) rfl)) rfl
theorem wd_945 : (.lays "NameForgeModel" "NameForgeModel" "done" "I" : Cond) ∈ wT := wT_in (tb_3 _ (List.mem_of_getElem? (i := 225) rfl)) rfl
theorem wd_947 : (.laysFinal "NameForgeModel" "NameForgeModel" "now" "[I" : Cond) ∈ wT := wT_in (tb_3 _ (List.mem_of_getElem? (i := 227) rfl)) rfl
theorem wd_949 : (.laysFinal "NameForgeModel" "NameForgeModel" "next" "[I" : Cond) ∈ wT := wT_in (tb_3 _ (List.mem_of_getElem? (i := 229) rfl)) rfl
theorem wd_960 : (.methodLink "NameForgeModel" 108 ⟨"NameForgeModel", "fails", "(ZI)Z"⟩ : Cond) ∈ wT := wT_in (tb_4 _ (List.mem_of_getElem? (i := 0) rfl)) rfl
theorem wd_962 : (.instanceMethod ⟨"NameForgeModel", "fails", "(ZI)Z"⟩ : Cond) ∈ wT := wT_in (tb_4 _ (List.mem_of_getElem? (i := 2) rfl)) rfl
theorem wd_963 : (.code ⟨"NameForgeModel", "fails", "(ZI)Z"⟩ prog_9_method_3_code 3 (some .boolean) : Cond) ∈ wT := wT_in (tb_4 _ (List.mem_of_getElem? (i := 3) rfl)) rfl
theorem wd_968 : (.methodLink "NameForgeModel" 116 ⟨"NameForgeModel", "noBlock", "(I)Z"⟩ : Cond) ∈ wT := wT_in (tb_4 _ (List.mem_of_getElem? (i := 8) rfl)) rfl
theorem wd_970 : (.instanceMethod ⟨"NameForgeModel", "noBlock", "(I)Z"⟩ : Cond) ∈ wT := wT_in (tb_4 _ (List.mem_of_getElem? (i := 10) rfl)) rfl
theorem wd_971 : (.code ⟨"NameForgeModel", "noBlock", "(I)Z"⟩ prog_9_method_4_code 2 (some .boolean) : Cond) ∈ wT := wT_in (tb_4 _ (List.mem_of_getElem? (i := 11) rfl)) rfl
theorem wd_972 : (.methodLink "NameForgeModel" 120 ⟨"NameForgeModel", "setsOne", "(I)Z"⟩ : Cond) ∈ wT := wT_in (tb_4 _ (List.mem_of_getElem? (i := 12) rfl)) rfl
theorem wd_973 : (.static ⟨"NameForgeModel", "setsOne", "(I)Z"⟩ : Cond) ∈ wT := wT_in (tb_4 _ (List.mem_of_getElem? (i := 13) rfl)) rfl
theorem wd_974 : (.code ⟨"NameForgeModel", "setsOne", "(I)Z"⟩ prog_9_method_6_code 1 (some .boolean) : Cond) ∈ wT := wT_in (tb_4 _ (List.mem_of_getElem? (i := 14) rfl)) rfl
theorem wd_975 : (.methodLink "NameForgeModel" 123 ⟨"NameForgeModel", "noVariable", "(I)Z"⟩ : Cond) ∈ wT := wT_in (tb_4 _ (List.mem_of_getElem? (i := 15) rfl)) rfl
theorem wd_976 : (.static ⟨"NameForgeModel", "noVariable", "(I)Z"⟩ : Cond) ∈ wT := wT_in (tb_4 _ (List.mem_of_getElem? (i := 16) rfl)) rfl
theorem wd_977 : (.code ⟨"NameForgeModel", "noVariable", "(I)Z"⟩ prog_9_method_5_code 1 (some .boolean) : Cond) ∈ wT := wT_in (tb_4 _ (List.mem_of_getElem? (i := 17) rfl)) rfl
theorem wd_978 : (.methodLink "NameForgeModel" 126 ⟨"NameForgeModel", "usesFirst", "(I)Z"⟩ : Cond) ∈ wT := wT_in (tb_4 _ (List.mem_of_getElem? (i := 18) rfl)) rfl
theorem wd_979 : (.static ⟨"NameForgeModel", "usesFirst", "(I)Z"⟩ : Cond) ∈ wT := wT_in (tb_4 _ (List.mem_of_getElem? (i := 19) rfl)) rfl
theorem wd_980 : (.code ⟨"NameForgeModel", "usesFirst", "(I)Z"⟩ prog_9_method_7_code 1 (some .boolean) : Cond) ∈ wT := wT_in (tb_4 _ (List.mem_of_getElem? (i := 20) rfl)) rfl
theorem wd_981 : (.methodLink "NameForgeModel" 129 ⟨"NameForgeModel", "usesSecond", "(I)Z"⟩ : Cond) ∈ wT := wT_in (tb_4 _ (List.mem_of_getElem? (i := 21) rfl)) rfl
theorem wd_982 : (.static ⟨"NameForgeModel", "usesSecond", "(I)Z"⟩ : Cond) ∈ wT := wT_in (tb_4 _ (List.mem_of_getElem? (i := 22) rfl)) rfl
theorem wd_983 : (.code ⟨"NameForgeModel", "usesSecond", "(I)Z"⟩ prog_9_method_8_code 1 (some .boolean) : Cond) ∈ wT := wT_in (tb_4 _ (List.mem_of_getElem? (i := 23) rfl)) rfl
theorem wd_988 : (.methodLink "NameForgeModel" 132 ⟨"NameForgeModel", "noTarget", "(I)Z"⟩ : Cond) ∈ wT := wT_in (tb_4 _ (List.mem_of_getElem? (i := 28) rfl)) rfl
theorem wd_990 : (.instanceMethod ⟨"NameForgeModel", "noTarget", "(I)Z"⟩ : Cond) ∈ wT := wT_in (tb_4 _ (List.mem_of_getElem? (i := 30) rfl)) rfl
theorem wd_991 : (.code ⟨"NameForgeModel", "noTarget", "(I)Z"⟩ prog_9_method_11_code 2 (some .boolean) : Cond) ∈ wT := wT_in (tb_4 _ (List.mem_of_getElem? (i := 31) rfl)) rfl
theorem wd_1008 : (.methodLink "NameForgeModel" 196 ⟨"NameForgeModel", "reaches", "()V"⟩ : Cond) ∈ wT := wT_in (tb_4 _ (List.mem_of_getElem? (i := 48) rfl)) rfl
theorem wd_1010 : (.instanceMethod ⟨"NameForgeModel", "reaches", "()V"⟩ : Cond) ∈ wT := wT_in (tb_4 _ (List.mem_of_getElem? (i := 50) rfl)) rfl
theorem wd_1011 : (.code ⟨"NameForgeModel", "reaches", "()V"⟩ prog_9_method_18_code 3 none : Cond) ∈ wT := wT_in (tb_4 _ (List.mem_of_getElem? (i := 51) rfl)) rfl
theorem wd_1012 : (.methodLink "NameForgeModel" 138 ⟨"NameForgeModel", "has", "(II)Z"⟩ : Cond) ∈ wT := wT_in (tb_4 _ (List.mem_of_getElem? (i := 52) rfl)) rfl
theorem wd_1013 : (.static ⟨"NameForgeModel", "has", "(II)Z"⟩ : Cond) ∈ wT := wT_in (tb_4 _ (List.mem_of_getElem? (i := 53) rfl)) rfl
theorem wd_1014 : (.code ⟨"NameForgeModel", "has", "(II)Z"⟩ prog_9_method_16_code 2 (some .boolean) : Cond) ∈ wT := wT_in (tb_4 _ (List.mem_of_getElem? (i := 54) rfl)) rfl
theorem wd_1015 : (.methodLink "NameForgeModel" 142 ⟨"NameForgeModel", "leadsTo", "(I)I"⟩ : Cond) ∈ wT := wT_in (tb_4 _ (List.mem_of_getElem? (i := 55) rfl)) rfl
theorem wd_1017 : (.instanceMethod ⟨"NameForgeModel", "leadsTo", "(I)I"⟩ : Cond) ∈ wT := wT_in (tb_4 _ (List.mem_of_getElem? (i := 57) rfl)) rfl
theorem wd_1018 : (.code ⟨"NameForgeModel", "leadsTo", "(I)I"⟩ prog_9_method_17_code 2 (some .int) : Cond) ∈ wT := wT_in (tb_4 _ (List.mem_of_getElem? (i := 58) rfl)) rfl
theorem wd_1019 : (.methodLink "NameForgeModel" 199 ⟨"NameForgeModel", "dominates", "()V"⟩ : Cond) ∈ wT := wT_in (tb_4 _ (List.mem_of_getElem? (i := 59) rfl)) rfl
theorem wd_1021 : (.instanceMethod ⟨"NameForgeModel", "dominates", "()V"⟩ : Cond) ∈ wT := wT_in (tb_4 _ (List.mem_of_getElem? (i := 61) rfl)) rfl
theorem wd_1022 : (.code ⟨"NameForgeModel", "dominates", "()V"⟩ prog_9_method_20_code 5 none : Cond) ∈ wT := wT_in (tb_4 _ (List.mem_of_getElem? (i := 62) rfl)) rfl
theorem wd_1023 : (.methodLink "NameForgeModel" 146 ⟨"NameForgeModel", "ones", "(I)I"⟩ : Cond) ∈ wT := wT_in (tb_4 _ (List.mem_of_getElem? (i := 63) rfl)) rfl
theorem wd_1024 : (.static ⟨"NameForgeModel", "ones", "(I)I"⟩ : Cond) ∈ wT := wT_in (tb_4 _ (List.mem_of_getElem? (i := 64) rfl)) rfl
theorem wd_1025 : (.code ⟨"NameForgeModel", "ones", "(I)I"⟩ prog_9_method_19_code 3 (some .int) : Cond) ∈ wT := wT_in (tb_4 _ (List.mem_of_getElem? (i := 65) rfl)) rfl
theorem wd_1026 : (.methodLink "NameForgeModel" 202 ⟨"NameForgeModel", "placePhis", "()V"⟩ : Cond) ∈ wT := wT_in (tb_4 _ (List.mem_of_getElem? (i := 66) rfl)) rfl
theorem wd_1028 : (.instanceMethod ⟨"NameForgeModel", "placePhis", "()V"⟩ : Cond) ∈ wT := wT_in (tb_4 _ (List.mem_of_getElem? (i := 68) rfl)) rfl
theorem wd_1029 : (.code ⟨"NameForgeModel", "placePhis", "()V"⟩ prog_9_method_23_code 5 none : Cond) ∈ wT := wT_in (tb_4 _ (List.mem_of_getElem? (i := 69) rfl)) rfl
theorem wd_1030 : (.methodLink "NameForgeModel" 149 ⟨"NameForgeModel", "isInFrontier", "(II)Z"⟩ : Cond) ∈ wT := wT_in (tb_4 _ (List.mem_of_getElem? (i := 70) rfl)) rfl
theorem wd_1032 : (.instanceMethod ⟨"NameForgeModel", "isInFrontier", "(II)Z"⟩ : Cond) ∈ wT := wT_in (tb_4 _ (List.mem_of_getElem? (i := 72) rfl)) rfl
theorem wd_1033 : (.code ⟨"NameForgeModel", "isInFrontier", "(II)Z"⟩ prog_9_method_21_code 5 (some .boolean) : Cond) ∈ wT := wT_in (tb_4 _ (List.mem_of_getElem? (i := 73) rfl)) rfl
theorem wd_1034 : (.methodLink "NameForgeModel" 152 ⟨"NameForgeModel", "defined", "(I)I"⟩ : Cond) ∈ wT := wT_in (tb_4 _ (List.mem_of_getElem? (i := 74) rfl)) rfl
theorem wd_1036 : (.instanceMethod ⟨"NameForgeModel", "defined", "(I)I"⟩ : Cond) ∈ wT := wT_in (tb_4 _ (List.mem_of_getElem? (i := 76) rfl)) rfl
theorem wd_1037 : (.code ⟨"NameForgeModel", "defined", "(I)I"⟩ prog_9_method_22_code 4 (some .int) : Cond) ∈ wT := wT_in (tb_4 _ (List.mem_of_getElem? (i := 77) rfl)) rfl
theorem wd_1038 : (.methodLink "NameForgeModel" 205 ⟨"NameForgeModel", "nameAll", "()V"⟩ : Cond) ∈ wT := wT_in (tb_4 _ (List.mem_of_getElem? (i := 78) rfl)) rfl
theorem wd_1040 : (.instanceMethod ⟨"NameForgeModel", "nameAll", "()V"⟩ : Cond) ∈ wT := wT_in (tb_4 _ (List.mem_of_getElem? (i := 80) rfl)) rfl
theorem wd_1041 : (.code ⟨"NameForgeModel", "nameAll", "()V"⟩ prog_9_method_26_code 4 none : Cond) ∈ wT := wT_in (tb_4 _ (List.mem_of_getElem? (i := 81) rfl)) rfl
theorem wd_1042 : (.methodLink "NameForgeModel" 162 ⟨"NameForgeModel", "nameBlock", "(I)V"⟩ : Cond) ∈ wT := wT_in (tb_4 _ (List.mem_of_getElem? (i := 82) rfl)) rfl
theorem wd_1044 : (.instanceMethod ⟨"NameForgeModel", "nameBlock", "(I)V"⟩ : Cond) ∈ wT := wT_in (tb_4 _ (List.mem_of_getElem? (i := 84) rfl)) rfl
theorem wd_1045 : (.code ⟨"NameForgeModel", "nameBlock", "(I)V"⟩ prog_9_method_25_code 5 none : Cond) ∈ wT := wT_in (tb_4 _ (List.mem_of_getElem? (i := 85) rfl)) rfl
theorem wd_1046 : (.methodLink "NameForgeModel" 158 ⟨"NameForgeModel", "named", "(II)I"⟩ : Cond) ∈ wT := wT_in (tb_4 _ (List.mem_of_getElem? (i := 86) rfl)) rfl
theorem wd_1048 : (.instanceMethod ⟨"NameForgeModel", "named", "(II)I"⟩ : Cond) ∈ wT := wT_in (tb_4 _ (List.mem_of_getElem? (i := 88) rfl)) rfl
theorem wd_1049 : (.code ⟨"NameForgeModel", "named", "(II)I"⟩ prog_9_method_24_code 3 (some .int) : Cond) ∈ wT := wT_in (tb_4 _ (List.mem_of_getElem? (i := 89) rfl)) rfl
theorem wd_1050 : (.methodLink "NameForgeModel" 208 ⟨"NameForgeModel", "findKnown", "()V"⟩ : Cond) ∈ wT := wT_in (tb_4 _ (List.mem_of_getElem? (i := 90) rfl)) rfl
theorem wd_1052 : (.instanceMethod ⟨"NameForgeModel", "findKnown", "()V"⟩ : Cond) ∈ wT := wT_in (tb_4 _ (List.mem_of_getElem? (i := 92) rfl)) rfl
theorem wd_1053 : (.code ⟨"NameForgeModel", "findKnown", "()V"⟩ prog_9_method_33_code 2 none : Cond) ∈ wT := wT_in (tb_4 _ (List.mem_of_getElem? (i := 93) rfl)) rfl
theorem wd_1054 : (.methodLink "NameForgeModel" 186 ⟨"NameForgeModel", "pass", "()Z"⟩ : Cond) ∈ wT := wT_in (tb_4 _ (List.mem_of_getElem? (i := 94) rfl)) rfl
theorem wd_1056 : (.instanceMethod ⟨"NameForgeModel", "pass", "()Z"⟩ : Cond) ∈ wT := wT_in (tb_4 _ (List.mem_of_getElem? (i := 96) rfl)) rfl
theorem wd_1057 : (.code ⟨"NameForgeModel", "pass", "()Z"⟩ prog_9_method_32_code 4 (some .boolean) : Cond) ∈ wT := wT_in (tb_4 _ (List.mem_of_getElem? (i := 97) rfl)) rfl
theorem wd_1058 : (.methodLink "NameForgeModel" 177 ⟨"NameForgeModel", "meet", "(III)Z"⟩ : Cond) ∈ wT := wT_in (tb_4 _ (List.mem_of_getElem? (i := 98) rfl)) rfl
theorem wd_1060 : (.instanceMethod ⟨"NameForgeModel", "meet", "(III)Z"⟩ : Cond) ∈ wT := wT_in (tb_4 _ (List.mem_of_getElem? (i := 100) rfl)) rfl
theorem wd_1061 : (.code ⟨"NameForgeModel", "meet", "(III)Z"⟩ prog_9_method_29_code 8 (some .boolean) : Cond) ∈ wT := wT_in (tb_4 _ (List.mem_of_getElem? (i := 101) rfl)) rfl
theorem wd_1062 : (.methodLink "NameForgeModel" 169 ⟨"NameForgeModel", "becomes", "(III)Z"⟩ : Cond) ∈ wT := wT_in (tb_4 _ (List.mem_of_getElem? (i := 102) rfl)) rfl
theorem wd_1064 : (.instanceMethod ⟨"NameForgeModel", "becomes", "(III)Z"⟩ : Cond) ∈ wT := wT_in (tb_4 _ (List.mem_of_getElem? (i := 104) rfl)) rfl
theorem wd_1065 : (.code ⟨"NameForgeModel", "becomes", "(III)Z"⟩ prog_9_method_28_code 5 (some .boolean) : Cond) ∈ wT := wT_in (tb_4 _ (List.mem_of_getElem? (i := 105) rfl)) rfl
theorem wd_1066 : (.methodLink "NameForgeModel" 180 ⟨"NameForgeModel", "knows", "(I)Z"⟩ : Cond) ∈ wT := wT_in (tb_4 _ (List.mem_of_getElem? (i := 106) rfl)) rfl
theorem wd_1068 : (.instanceMethod ⟨"NameForgeModel", "knows", "(I)Z"⟩ : Cond) ∈ wT := wT_in (tb_4 _ (List.mem_of_getElem? (i := 108) rfl)) rfl
theorem wd_1069 : (.code ⟨"NameForgeModel", "knows", "(I)Z"⟩ prog_9_method_30_code 6 (some .boolean) : Cond) ∈ wT := wT_in (tb_4 _ (List.mem_of_getElem? (i := 109) rfl)) rfl
theorem wd_1070 : (.methodLink "NameForgeModel" 173 ⟨"NameForgeModel", "reckon", "(III)I"⟩ : Cond) ∈ wT := wT_in (tb_4 _ (List.mem_of_getElem? (i := 110) rfl)) rfl
theorem wd_1072 : (.instanceMethod ⟨"NameForgeModel", "reckon", "(III)I"⟩ : Cond) ∈ wT := wT_in (tb_4 _ (List.mem_of_getElem? (i := 112) rfl)) rfl
theorem wd_1073 : (.code ⟨"NameForgeModel", "reckon", "(III)I"⟩ prog_9_method_27_code 4 (some .int) : Cond) ∈ wT := wT_in (tb_4 _ (List.mem_of_getElem? (i := 113) rfl)) rfl
theorem wd_1074 : (.methodLink "NameForgeModel" 183 ⟨"NameForgeModel", "ways", "(I)I"⟩ : Cond) ∈ wT := wT_in (tb_4 _ (List.mem_of_getElem? (i := 114) rfl)) rfl
theorem wd_1076 : (.instanceMethod ⟨"NameForgeModel", "ways", "(I)I"⟩ : Cond) ∈ wT := wT_in (tb_4 _ (List.mem_of_getElem? (i := 116) rfl)) rfl
theorem wd_1077 : (.code ⟨"NameForgeModel", "ways", "(I)I"⟩ prog_9_method_31_code 3 (some .int) : Cond) ∈ wT := wT_in (tb_4 _ (List.mem_of_getElem? (i := 117) rfl)) rfl
theorem wd_1078 : (.methodLink "NameForgeModel" 211 ⟨"NameForgeModel", "findNeeded", "()V"⟩ : Cond) ∈ wT := wT_in (tb_4 _ (List.mem_of_getElem? (i := 118) rfl)) rfl
theorem wd_1080 : (.instanceMethod ⟨"NameForgeModel", "findNeeded", "()V"⟩ : Cond) ∈ wT := wT_in (tb_4 _ (List.mem_of_getElem? (i := 120) rfl)) rfl
theorem wd_1081 : (.code ⟨"NameForgeModel", "findNeeded", "()V"⟩ prog_9_method_36_code 3 none : Cond) ∈ wT := wT_in (tb_4 _ (List.mem_of_getElem? (i := 121) rfl)) rfl
theorem wd_1082 : (.methodLink "NameForgeModel" 190 ⟨"NameForgeModel", "needs", "(I)Z"⟩ : Cond) ∈ wT := wT_in (tb_4 _ (List.mem_of_getElem? (i := 122) rfl)) rfl
theorem wd_1084 : (.instanceMethod ⟨"NameForgeModel", "needs", "(I)Z"⟩ : Cond) ∈ wT := wT_in (tb_4 _ (List.mem_of_getElem? (i := 124) rfl)) rfl
theorem wd_1085 : (.code ⟨"NameForgeModel", "needs", "(I)Z"⟩ prog_9_method_34_code 3 (some .boolean) : Cond) ∈ wT := wT_in (tb_4 _ (List.mem_of_getElem? (i := 125) rfl)) rfl
theorem wd_1086 : (.methodLink "NameForgeModel" 193 ⟨"NameForgeModel", "needsParts", "(I)Z"⟩ : Cond) ∈ wT := wT_in (tb_4 _ (List.mem_of_getElem? (i := 126) rfl)) rfl
theorem wd_1088 : (.instanceMethod ⟨"NameForgeModel", "needsParts", "(I)Z"⟩ : Cond) ∈ wT := wT_in (tb_4 _ (List.mem_of_getElem? (i := 128) rfl)) rfl
theorem wd_1089 : (.code ⟨"NameForgeModel", "needsParts", "(I)Z"⟩ prog_9_method_35_code 7 (some .boolean) : Cond) ∈ wT := wT_in (tb_4 _ (List.mem_of_getElem? (i := 129) rfl)) rfl
theorem wd_1098 : (.methodLink "NameForgeModel" 214 ⟨"NameForgeModel", "phiOf", "(II)I"⟩ : Cond) ∈ wT := wT_in (tb_4 _ (List.mem_of_getElem? (i := 138) rfl)) rfl
theorem wd_1100 : (.instanceMethod ⟨"NameForgeModel", "phiOf", "(II)I"⟩ : Cond) ∈ wT := wT_in (tb_4 _ (List.mem_of_getElem? (i := 140) rfl)) rfl
theorem wd_1101 : (.code ⟨"NameForgeModel", "phiOf", "(II)I"⟩ prog_9_method_39_code 5 (some .int) : Cond) ∈ wT := wT_in (tb_4 _ (List.mem_of_getElem? (i := 141) rfl)) rfl
theorem wd_1122 : (.methodLink "NameForgeModel" 245 ⟨"NameForgeModel", "plainBlock", "(I)V"⟩ : Cond) ∈ wT := wT_in (tb_4 _ (List.mem_of_getElem? (i := 162) rfl)) rfl
theorem wd_1124 : (.instanceMethod ⟨"NameForgeModel", "plainBlock", "(I)V"⟩ : Cond) ∈ wT := wT_in (tb_4 _ (List.mem_of_getElem? (i := 164) rfl)) rfl
theorem wd_1125 : (.code ⟨"NameForgeModel", "plainBlock", "(I)V"⟩ prog_9_method_48_code 3 none : Cond) ∈ wT := wT_in (tb_4 _ (List.mem_of_getElem? (i := 165) rfl)) rfl
theorem wd_1126 : (.methodLink "NameForgeModel" 233 ⟨"NameForgeModel", "tell", "(I)V"⟩ : Cond) ∈ wT := wT_in (tb_4 _ (List.mem_of_getElem? (i := 166) rfl)) rfl
theorem wd_1128 : (.instanceMethod ⟨"NameForgeModel", "tell", "(I)V"⟩ : Cond) ∈ wT := wT_in (tb_4 _ (List.mem_of_getElem? (i := 168) rfl)) rfl
theorem wd_1129 : (.code ⟨"NameForgeModel", "tell", "(I)V"⟩ prog_9_method_45_code 2 none : Cond) ∈ wT := wT_in (tb_4 _ (List.mem_of_getElem? (i := 169) rfl)) rfl
theorem wd_1130 : (.methodLink "NameForgeModel" 236 ⟨"NameForgeModel", "plainValue", "(I)I"⟩ : Cond) ∈ wT := wT_in (tb_4 _ (List.mem_of_getElem? (i := 170) rfl)) rfl
theorem wd_1132 : (.instanceMethod ⟨"NameForgeModel", "plainValue", "(I)I"⟩ : Cond) ∈ wT := wT_in (tb_4 _ (List.mem_of_getElem? (i := 172) rfl)) rfl
theorem wd_1133 : (.code ⟨"NameForgeModel", "plainValue", "(I)I"⟩ prog_9_method_47_code 4 (some .int) : Cond) ∈ wT := wT_in (tb_4 _ (List.mem_of_getElem? (i := 173) rfl)) rfl
theorem wd_1134 : (.methodLink "NameForgeModel" 226 ⟨"NameForgeModel", "ask", "()I"⟩ : Cond) ∈ wT := wT_in (tb_4 _ (List.mem_of_getElem? (i := 174) rfl)) rfl
theorem wd_1136 : (.instanceMethod ⟨"NameForgeModel", "ask", "()I"⟩ : Cond) ∈ wT := wT_in (tb_4 _ (List.mem_of_getElem? (i := 176) rfl)) rfl
theorem wd_1137 : (.code ⟨"NameForgeModel", "ask", "()I"⟩ prog_9_method_46_code 1 (some .int) : Cond) ∈ wT := wT_in (tb_4 _ (List.mem_of_getElem? (i := 177) rfl)) rfl
theorem wd_1138 : (.methodLink "NameForgeModel" 248 ⟨"NameForgeModel", "formedBlock", "(II)V"⟩ : Cond) ∈ wT := wT_in (tb_4 _ (List.mem_of_getElem? (i := 178) rfl)) rfl
theorem wd_1140 : (.instanceMethod ⟨"NameForgeModel", "formedBlock", "(II)V"⟩ : Cond) ∈ wT := wT_in (tb_4 _ (List.mem_of_getElem? (i := 180) rfl)) rfl
theorem wd_1141 : (.code ⟨"NameForgeModel", "formedBlock", "(II)V"⟩ prog_9_method_50_code 7 none : Cond) ∈ wT := wT_in (tb_4 _ (List.mem_of_getElem? (i := 181) rfl)) rfl
theorem wd_1142 : (.methodLink "NameForgeModel" 239 ⟨"NameForgeModel", "value", "(I)I"⟩ : Cond) ∈ wT := wT_in (tb_4 _ (List.mem_of_getElem? (i := 182) rfl)) rfl
theorem wd_1144 : (.instanceMethod ⟨"NameForgeModel", "value", "(I)I"⟩ : Cond) ∈ wT := wT_in (tb_4 _ (List.mem_of_getElem? (i := 184) rfl)) rfl
theorem wd_1145 : (.code ⟨"NameForgeModel", "value", "(I)I"⟩ prog_9_method_49_code 2 (some .int) : Cond) ∈ wT := wT_in (tb_4 _ (List.mem_of_getElem? (i := 185) rfl)) rfl
theorem wd_1146 : (.methodLink "NameForgeModel" 252 ⟨"NameForgeModel", "behind", "(IZ)I"⟩ : Cond) ∈ wT := wT_in (tb_4 _ (List.mem_of_getElem? (i := 186) rfl)) rfl
theorem wd_1148 : (.instanceMethod ⟨"NameForgeModel", "behind", "(IZ)I"⟩ : Cond) ∈ wT := wT_in (tb_4 _ (List.mem_of_getElem? (i := 188) rfl)) rfl
theorem wd_1149 : (.code ⟨"NameForgeModel", "behind", "(IZ)I"⟩ prog_9_method_51_code 4 (some .int) : Cond) ∈ wT := wT_in (tb_4 _ (List.mem_of_getElem? (i := 189) rfl)) rfl
theorem inN : ∀ w ∈ u_ws RN TN 7, w ∈ wT := by
  intro w hw
  obtain ⟨k, hk, rfl⟩ := List.mem_map.mp hw
  have hk := List.mem_range.mp hk
  match k, hk with
  | 0, _ => exact wd_346
  | 1, _ => exact wd_348
  | 2, _ => exact wd_350
  | 3, _ => exact wd_352
  | 4, _ => exact wd_354
  | 5, _ => exact wd_356
  | 6, _ => exact wd_358
  | k + 7, h => omega
theorem inP : ∀ w ∈ u_ws RP TP 10, w ∈ wT := by
  intro w hw
  obtain ⟨k, hk, rfl⟩ := List.mem_map.mp hw
  have hk := List.mem_range.mp hk
  match k, hk with
  | 0, _ => exact wd_72
  | 1, _ => exact wd_74
  | 2, _ => exact wd_76
  | 3, _ => exact wd_78
  | 4, _ => exact wd_80
  | 5, _ => exact wd_82
  | 6, _ => exact wd_84
  | 7, _ => exact wd_86
  | 8, _ => exact wd_88
  | 9, _ => exact wd_90
  | k + 10, h => omega
theorem inS : ∀ w ∈ u_ws RS TS 9, w ∈ wT := by
  intro w hw
  obtain ⟨k, hk, rfl⟩ := List.mem_map.mp hw
  have hk := List.mem_range.mp hk
  match k, hk with
  | 0, _ => exact wd_118
  | 1, _ => exact wd_120
  | 2, _ => exact wd_122
  | 3, _ => exact wd_124
  | 4, _ => exact wd_126
  | 5, _ => exact wd_128
  | 6, _ => exact wd_130
  | 7, _ => exact wd_132
  | 8, _ => exact wd_134
  | k + 9, h => omega
theorem inG : ∀ w ∈ u_ws RG TG 14, w ∈ wT := by
  intro w hw
  obtain ⟨k, hk, rfl⟩ := List.mem_map.mp hw
  have hk := List.mem_range.mp hk
  match k, hk with
  | 0, _ => exact wd_189
  | 1, _ => exact wd_191
  | 2, _ => exact wd_193
  | 3, _ => exact wd_195
  | 4, _ => exact wd_197
  | 5, _ => exact wd_199
  | 6, _ => exact wd_201
  | 7, _ => exact wd_203
  | 8, _ => exact wd_205
  | 9, _ => exact wd_207
  | 10, _ => exact wd_209
  | 11, _ => exact wd_211
  | 12, _ => exact wd_213
  | 13, _ => exact wd_215
  | k + 14, h => omega
theorem inK : ∀ w ∈ u_ws RK TK 8, w ∈ wT := by
  intro w hw
  obtain ⟨k, hk, rfl⟩ := List.mem_map.mp hw
  have hk := List.mem_range.mp hk
  match k, hk with
  | 0, _ => exact wd_239
  | 1, _ => exact wd_241
  | 2, _ => exact wd_243
  | 3, _ => exact wd_245
  | 4, _ => exact wd_247
  | 5, _ => exact wd_249
  | 6, _ => exact wd_251
  | 7, _ => exact wd_253
  | k + 8, h => omega
theorem inD : ∀ w ∈ u_ws RD TD 6, w ∈ wT := by
  intro w hw
  obtain ⟨k, hk, rfl⟩ := List.mem_map.mp hw
  have hk := List.mem_range.mp hk
  match k, hk with
  | 0, _ => exact wd_270
  | 1, _ => exact wd_272
  | 2, _ => exact wd_274
  | 3, _ => exact wd_276
  | 4, _ => exact wd_278
  | 5, _ => exact wd_280
  | k + 6, h => omega
theorem inA : ∀ w ∈ u_ws RA TA 14, w ∈ wT := by
  intro w hw
  obtain ⟨k, hk, rfl⟩ := List.mem_map.mp hw
  have hk := List.mem_range.mp hk
  match k, hk with
  | 0, _ => exact wd_310
  | 1, _ => exact wd_312
  | 2, _ => exact wd_314
  | 3, _ => exact wd_316
  | 4, _ => exact wd_318
  | 5, _ => exact wd_320
  | 6, _ => exact wd_322
  | 7, _ => exact wd_324
  | 8, _ => exact wd_326
  | 9, _ => exact wd_328
  | 10, _ => exact wd_330
  | 11, _ => exact wd_332
  | 12, _ => exact wd_334
  | 13, _ => exact wd_336
  | k + 14, h => omega
theorem inR : ∀ w ∈ u_ws RR TR 41, w ∈ wT := by
  intro w hw
  obtain ⟨k, hk, rfl⟩ := List.mem_map.mp hw
  have hk := List.mem_range.mp hk
  match k, hk with
  | 0, _ => exact wd_869
  | 1, _ => exact wd_871
  | 2, _ => exact wd_873
  | 3, _ => exact wd_875
  | 4, _ => exact wd_877
  | 5, _ => exact wd_879
  | 6, _ => exact wd_881
  | 7, _ => exact wd_883
  | 8, _ => exact wd_885
  | 9, _ => exact wd_887
  | 10, _ => exact wd_889
  | 11, _ => exact wd_891
  | 12, _ => exact wd_893
  | 13, _ => exact wd_895
  | 14, _ => exact wd_897
  | 15, _ => exact wd_899
  | 16, _ => exact wd_901
  | 17, _ => exact wd_903
  | 18, _ => exact wd_905
  | 19, _ => exact wd_907
  | 20, _ => exact wd_909
  | 21, _ => exact wd_911
  | 22, _ => exact wd_913
  | 23, _ => exact wd_915
  | 24, _ => exact wd_917
  | 25, _ => exact wd_919
  | 26, _ => exact wd_921
  | 27, _ => exact wd_923
  | 28, _ => exact wd_925
  | 29, _ => exact wd_927
  | 30, _ => exact wd_929
  | 31, _ => exact wd_931
  | 32, _ => exact wd_933
  | 33, _ => exact wd_935
  | 34, _ => exact wd_937
  | 35, _ => exact wd_939
  | 36, _ => exact wd_941
  | 37, _ => exact wd_943
  | 38, _ => exact wd_945
  | 39, _ => exact wd_947
  | 40, _ => exact wd_949
  | k + 41, h => omega
abbrev ix_IllegalArgumentException : Nat := 7
abbrev rx_IllegalArgumentException : ByteArray := prog_11_method_2_code
abbrev up_IllegalArgumentException : List String := ["java/lang/RuntimeException", "java/lang/Exception"]
theorem xa_IllegalArgumentException : decode rx_IllegalArgumentException 0 = .ok (.aload_n 0, 1) := by decide +kernel
theorem xb_IllegalArgumentException : decode rx_IllegalArgumentException 1 = .ok (.aload_n 1, 1) := by decide +kernel
theorem xc_IllegalArgumentException : decode rx_IllegalArgumentException 2 = .ok (.invokespecial ix_IllegalArgumentException, 3) := by decide +kernel
theorem xd_IllegalArgumentException : decode rx_IllegalArgumentException 5 = .ok (.return_, 1) := by decide +kernel
abbrev ix_IllegalStateException : Nat := 7
abbrev rx_IllegalStateException : ByteArray := prog_12_method_2_code
abbrev up_IllegalStateException : List String := ["java/lang/RuntimeException", "java/lang/Exception"]
theorem xa_IllegalStateException : decode rx_IllegalStateException 0 = .ok (.aload_n 0, 1) := by decide +kernel
theorem xb_IllegalStateException : decode rx_IllegalStateException 1 = .ok (.aload_n 1, 1) := by decide +kernel
theorem xc_IllegalStateException : decode rx_IllegalStateException 2 = .ok (.invokespecial ix_IllegalStateException, 3) := by decide +kernel
theorem xd_IllegalStateException : decode rx_IllegalStateException 5 = .ok (.return_, 1) := by decide +kernel
abbrev ix_NoSuchElementException : Nat := 13
abbrev rx_NoSuchElementException : ByteArray := prog_18_method_4_code
abbrev up_NoSuchElementException : List String := ["java/lang/RuntimeException", "java/lang/Exception"]
theorem xa_NoSuchElementException : decode rx_NoSuchElementException 0 = .ok (.aload_n 0, 1) := by decide +kernel
theorem xb_NoSuchElementException : decode rx_NoSuchElementException 1 = .ok (.aload_n 1, 1) := by decide +kernel
theorem xc_NoSuchElementException : decode rx_NoSuchElementException 2 = .ok (.invokespecial ix_NoSuchElementException, 3) := by decide +kernel
theorem xd_NoSuchElementException : decode rx_NoSuchElementException 5 = .ok (.return_, 1) := by decide +kernel
def strs : List (Nat × String) := [(71, "there are 10 blocks"), (90, "no such block, kind or variable"), (97, "the block has 6 instructions"), (106, "no such block, or none to go to"), (115, "no such block or variable, or none to go to"), (117, "no such block"), (119, "there is no block"), (138, "no such block or what"), (141, "it is not built"), (175, "no such phi or what"), (187, "no such instruction or what"), (198, "no such name or what"), (219, "steps are 0 to 200"), (228, "not kept")]
def ncs : List (String × String) := [("java/lang/IllegalArgumentException", "java/lang/IllegalStateException"), ("java/lang/IllegalArgumentException", "java/util/NoSuchElementException"), ("java/lang/IllegalStateException", "java/lang/IllegalArgumentException"), ("java/lang/IllegalStateException", "java/util/NoSuchElementException"), ("java/util/NoSuchElementException", "java/lang/IllegalArgumentException"), ("java/util/NoSuchElementException", "java/lang/IllegalStateException")]
def cas : List (String × String) := [("java/lang/IllegalStateException", "java/lang/IllegalStateException"), ("java/lang/IllegalArgumentException", "java/lang/IllegalArgumentException"), ("java/util/NoSuchElementException", "java/util/NoSuchElementException")]
def dcl : List MethodName := [⟨"java/lang/RuntimeException", "<init>", "()V"⟩, ⟨"java/lang/RuntimeException", "<init>", "(Ljava/lang/String;)V"⟩, ⟨"java/lang/Exception", "<init>", "()V"⟩, ⟨"java/lang/Exception", "<init>", "(Ljava/lang/String;)V"⟩, ⟨"java/lang/Throwable", "<init>", "()V"⟩, ⟨"java/lang/Throwable", "<init>", "(Ljava/lang/String;)V"⟩]
abbrev ix_Pi : Nat := 11
theorem ws_1 : (.selects "NameForge$Shape" ⟨"NameForge$Shape", "comeBy", "(I)I"⟩ ⟨"NameForge$Shape", "comeBy", "(I)I"⟩ : Cond) ∈ wT := wT_in (List.mem_append_left _ (List.mem_map.mpr ⟨(⟨"NameForge$Shape", "comeBy", "(I)I"⟩, 9), List.mem_append_left _ (List.mem_of_getElem? (i := 1) rfl), rfl⟩)) rfl
theorem ws_2 : (.selects "NameForge$Shape" ⟨"NameForge$Shape", "findBefore", "(I)I"⟩ ⟨"NameForge$Shape", "findBefore", "(I)I"⟩ : Cond) ∈ wT := wT_in (List.mem_append_left _ (List.mem_map.mpr ⟨(⟨"NameForge$Shape", "findBefore", "(I)I"⟩, 9), List.mem_append_left _ (List.mem_of_getElem? (i := 2) rfl), rfl⟩)) rfl
theorem ws_3 : (.selects "NameForge$Shape" ⟨"NameForge$Shape", "findParent", "(I)I"⟩ ⟨"NameForge$Shape", "findParent", "(I)I"⟩ : Cond) ∈ wT := wT_in (List.mem_append_left _ (List.mem_map.mpr ⟨(⟨"NameForge$Shape", "findParent", "(I)I"⟩, 9), List.mem_append_left _ (List.mem_of_getElem? (i := 3) rfl), rfl⟩)) rfl
theorem ws_4 : (.selects "NameForge$Shape" ⟨"NameForge$Shape", "findFrontier", "(I)I"⟩ ⟨"NameForge$Shape", "findFrontier", "(I)I"⟩ : Cond) ∈ wT := wT_in (List.mem_append_left _ (List.mem_map.mpr ⟨(⟨"NameForge$Shape", "findFrontier", "(I)I"⟩, 9), List.mem_append_left _ (List.mem_of_getElem? (i := 4) rfl), rfl⟩)) rfl
theorem ws_5 : (.selects "NameForge$Shape" ⟨"NameForge$Shape", "putInOrder", "()V"⟩ ⟨"NameForge$Shape", "putInOrder", "()V"⟩ : Cond) ∈ wT := wT_in (List.mem_append_left _ (List.mem_map.mpr ⟨(⟨"NameForge$Shape", "putInOrder", "()V"⟩, 9), List.mem_append_left _ (List.mem_of_getElem? (i := 5) rfl), rfl⟩)) rfl
theorem ws_6 : (.selects "NameForge$Naming" ⟨"NameForge$Naming", "findDefined", "()V"⟩ ⟨"NameForge$Naming", "findDefined", "()V"⟩ : Cond) ∈ wT := wT_in (List.mem_append_left _ (List.mem_map.mpr ⟨(⟨"NameForge$Naming", "findDefined", "()V"⟩, 14), List.mem_append_left _ (List.mem_of_getElem? (i := 6) rfl), rfl⟩)) rfl
theorem ws_7 : (.selects "NameForge$Naming" ⟨"NameForge$Naming", "placePhis", "()V"⟩ ⟨"NameForge$Naming", "placePhis", "()V"⟩ : Cond) ∈ wT := wT_in (List.mem_append_left _ (List.mem_map.mpr ⟨(⟨"NameForge$Naming", "placePhis", "()V"⟩, 14), List.mem_append_left _ (List.mem_of_getElem? (i := 7) rfl), rfl⟩)) rfl
theorem ws_8 : (.selects "NameForge$Naming" ⟨"NameForge$Naming", "spread", "(II)Z"⟩ ⟨"NameForge$Naming", "spread", "(II)Z"⟩ : Cond) ∈ wT := wT_in (List.mem_append_left _ (List.mem_map.mpr ⟨(⟨"NameForge$Naming", "spread", "(II)Z"⟩, 14), List.mem_append_left _ (List.mem_of_getElem? (i := 8) rfl), rfl⟩)) rfl
theorem ws_9 : (.selects "NameForge$Naming" ⟨"NameForge$Naming", "newName", "(III)I"⟩ ⟨"NameForge$Naming", "newName", "(III)I"⟩ : Cond) ∈ wT := wT_in (List.mem_append_left _ (List.mem_map.mpr ⟨(⟨"NameForge$Naming", "newName", "(III)I"⟩, 14), List.mem_append_left _ (List.mem_of_getElem? (i := 9) rfl), rfl⟩)) rfl
theorem ws_10 : (.selects "NameForge$Naming" ⟨"NameForge$Naming", "nameBlock", "(I)V"⟩ ⟨"NameForge$Naming", "nameBlock", "(I)V"⟩ : Cond) ∈ wT := wT_in (List.mem_append_left _ (List.mem_map.mpr ⟨(⟨"NameForge$Naming", "nameBlock", "(I)V"⟩, 14), List.mem_append_left _ (List.mem_of_getElem? (i := 10) rfl), rfl⟩)) rfl
theorem ws_11 : (.selects "NameForge$Naming" ⟨"NameForge$Naming", "nameInstruction", "(II[I)V"⟩ ⟨"NameForge$Naming", "nameInstruction", "(II[I)V"⟩ : Cond) ∈ wT := wT_in (List.mem_append_left _ (List.mem_map.mpr ⟨(⟨"NameForge$Naming", "nameInstruction", "(II[I)V"⟩, 14), List.mem_append_left _ (List.mem_of_getElem? (i := 11) rfl), rfl⟩)) rfl
theorem ws_12 : (.selects "NameForge$Known" ⟨"NameForge$Known", "passBlock", "(I)V"⟩ ⟨"NameForge$Known", "passBlock", "(I)V"⟩ : Cond) ∈ wT := wT_in (List.mem_append_left _ (List.mem_map.mpr ⟨(⟨"NameForge$Known", "passBlock", "(I)V"⟩, 8), List.mem_append_left _ (List.mem_of_getElem? (i := 12) rfl), rfl⟩)) rfl
theorem ws_13 : (.selects "NameForge$Known" ⟨"NameForge$Known", "passPhi", "(II)V"⟩ ⟨"NameForge$Known", "passPhi", "(II)V"⟩ : Cond) ∈ wT := wT_in (List.mem_append_left _ (List.mem_map.mpr ⟨(⟨"NameForge$Known", "passPhi", "(II)V"⟩, 8), List.mem_append_left _ (List.mem_of_getElem? (i := 13) rfl), rfl⟩)) rfl
theorem ws_14 : (.selects "NameForge$Known" ⟨"NameForge$Known", "raise", "(III)V"⟩ ⟨"NameForge$Known", "raise", "(III)V"⟩ : Cond) ∈ wT := wT_in (List.mem_append_left _ (List.mem_map.mpr ⟨(⟨"NameForge$Known", "raise", "(III)V"⟩, 8), List.mem_append_left _ (List.mem_of_getElem? (i := 14) rfl), rfl⟩)) rfl
theorem ws_15 : (.selects "NameForge$Known" ⟨"NameForge$Known", "passInstruction", "(II)V"⟩ ⟨"NameForge$Known", "passInstruction", "(II)V"⟩ : Cond) ∈ wT := wT_in (List.mem_append_left _ (List.mem_map.mpr ⟨(⟨"NameForge$Known", "passInstruction", "(II)V"⟩, 8), List.mem_append_left _ (List.mem_of_getElem? (i := 15) rfl), rfl⟩)) rfl
theorem ws_16 : (.selects "NameForge$Known" ⟨"NameForge$Known", "passEnd", "(I)V"⟩ ⟨"NameForge$Known", "passEnd", "(I)V"⟩ : Cond) ∈ wT := wT_in (List.mem_append_left _ (List.mem_map.mpr ⟨(⟨"NameForge$Known", "passEnd", "(I)V"⟩, 8), List.mem_append_right _ (List.mem_append_left _ (List.mem_of_getElem? (i := 0) rfl)), rfl⟩)) rfl
theorem ws_17 : (.selects "NameForge$Known" ⟨"NameForge$Known", "waysTaken", "(I)I"⟩ ⟨"NameForge$Known", "waysTaken", "(I)I"⟩ : Cond) ∈ wT := wT_in (List.mem_append_left _ (List.mem_map.mpr ⟨(⟨"NameForge$Known", "waysTaken", "(I)I"⟩, 8), List.mem_append_right _ (List.mem_append_left _ (List.mem_of_getElem? (i := 1) rfl)), rfl⟩)) rfl
theorem ws_18 : (.selects "NameForge$Needed" ⟨"NameForge$Needed", "needByBlock", "(I)V"⟩ ⟨"NameForge$Needed", "needByBlock", "(I)V"⟩ : Cond) ∈ wT := wT_in (List.mem_append_left _ (List.mem_map.mpr ⟨(⟨"NameForge$Needed", "needByBlock", "(I)V"⟩, 6), List.mem_append_right _ (List.mem_append_left _ (List.mem_of_getElem? (i := 2) rfl)), rfl⟩)) rfl
theorem ws_19 : (.selects "NameForge$Needed" ⟨"NameForge$Needed", "need", "(I)V"⟩ ⟨"NameForge$Needed", "need", "(I)V"⟩ : Cond) ∈ wT := wT_in (List.mem_append_left _ (List.mem_map.mpr ⟨(⟨"NameForge$Needed", "need", "(I)V"⟩, 6), List.mem_append_right _ (List.mem_append_left _ (List.mem_of_getElem? (i := 3) rfl)), rfl⟩)) rfl
theorem ws_20 : (.selects "NameForge$Needed" ⟨"NameForge$Needed", "needPartsOf", "(I)V"⟩ ⟨"NameForge$Needed", "needPartsOf", "(I)V"⟩ : Cond) ∈ wT := wT_in (List.mem_append_left _ (List.mem_map.mpr ⟨(⟨"NameForge$Needed", "needPartsOf", "(I)V"⟩, 6), List.mem_append_right _ (List.mem_append_left _ (List.mem_of_getElem? (i := 4) rfl)), rfl⟩)) rfl
theorem ws_21 : (.selects "NameForge$Needed" ⟨"NameForge$Needed", "needPartsOfPhi", "(II)V"⟩ ⟨"NameForge$Needed", "needPartsOfPhi", "(II)V"⟩ : Cond) ∈ wT := wT_in (List.mem_append_left _ (List.mem_map.mpr ⟨(⟨"NameForge$Needed", "needPartsOfPhi", "(II)V"⟩, 6), List.mem_append_right _ (List.mem_append_left _ (List.mem_of_getElem? (i := 5) rfl)), rfl⟩)) rfl
theorem ws_22 : (.selects "NameForge" ⟨"NameForge", "isPhiWhat", "(II)Z"⟩ ⟨"NameForge", "isPhiWhat", "(II)Z"⟩ : Cond) ∈ wT := wT_in (List.mem_append_left _ (List.mem_map.mpr ⟨(⟨"NameForge", "isPhiWhat", "(II)Z"⟩, 7), List.mem_append_right _ (List.mem_append_left _ (List.mem_of_getElem? (i := 6) rfl)), rfl⟩)) rfl
theorem ws_23 : (.selects "NameForge" ⟨"NameForge", "isReachedInstruction", "(II)Z"⟩ ⟨"NameForge", "isReachedInstruction", "(II)Z"⟩ : Cond) ∈ wT := wT_in (List.mem_append_left _ (List.mem_map.mpr ⟨(⟨"NameForge", "isReachedInstruction", "(II)Z"⟩, 7), List.mem_append_right _ (List.mem_append_left _ (List.mem_of_getElem? (i := 7) rfl)), rfl⟩)) rfl
theorem ws_24 : (.selects "NameForge$Machine" ⟨"NameForge$Machine", "begin", "()V"⟩ ⟨"NameForge$Machine", "begin", "()V"⟩ : Cond) ∈ wT := wT_in (List.mem_append_left _ (List.mem_map.mpr ⟨(⟨"NameForge$Machine", "begin", "()V"⟩, 14), List.mem_append_right _ (List.mem_append_left _ (List.mem_of_getElem? (i := 8) rfl)), rfl⟩)) rfl
theorem ws_25 : (.selects "NameForge$Machine" ⟨"NameForge$Machine", "passPlain", "(I)I"⟩ ⟨"NameForge$Machine", "passPlain", "(I)I"⟩ : Cond) ∈ wT := wT_in (List.mem_append_left _ (List.mem_map.mpr ⟨(⟨"NameForge$Machine", "passPlain", "(I)I"⟩, 14), List.mem_append_right _ (List.mem_append_left _ (List.mem_of_getElem? (i := 9) rfl)), rfl⟩)) rfl
theorem ws_26 : (.selects "NameForge$Machine" ⟨"NameForge$Machine", "perform", "(III)I"⟩ ⟨"NameForge$Machine", "perform", "(III)I"⟩ : Cond) ∈ wT := wT_in (List.mem_append_left _ (List.mem_map.mpr ⟨(⟨"NameForge$Machine", "perform", "(III)I"⟩, 14), List.mem_append_right _ (List.mem_append_left _ (List.mem_of_getElem? (i := 10) rfl)), rfl⟩)) rfl
theorem ws_27 : (.selects "NameForge$Machine" ⟨"NameForge$Machine", "keep", "(I)V"⟩ ⟨"NameForge$Machine", "keep", "(I)V"⟩ : Cond) ∈ wT := wT_in (List.mem_append_left _ (List.mem_map.mpr ⟨(⟨"NameForge$Machine", "keep", "(I)V"⟩, 14), List.mem_append_right _ (List.mem_append_left _ (List.mem_of_getElem? (i := 11) rfl)), rfl⟩)) rfl
theorem ws_28 : (.selects "NameForge$Machine" ⟨"NameForge$Machine", "nextInput", "()I"⟩ ⟨"NameForge$Machine", "nextInput", "()I"⟩ : Cond) ∈ wT := wT_in (List.mem_append_left _ (List.mem_map.mpr ⟨(⟨"NameForge$Machine", "nextInput", "()I"⟩, 14), List.mem_append_right _ (List.mem_append_left _ (List.mem_of_getElem? (i := 12) rfl)), rfl⟩)) rfl
theorem ws_29 : (.selects "NameForge$Machine" ⟨"NameForge$Machine", "nextOf", "(II)I"⟩ ⟨"NameForge$Machine", "nextOf", "(II)I"⟩ : Cond) ∈ wT := wT_in (List.mem_append_left _ (List.mem_map.mpr ⟨(⟨"NameForge$Machine", "nextOf", "(II)I"⟩, 14), List.mem_append_right _ (List.mem_append_left _ (List.mem_of_getElem? (i := 13) rfl)), rfl⟩)) rfl
theorem ws_30 : (.selects "NameForge$Machine" ⟨"NameForge$Machine", "passBecome", "(II)I"⟩ ⟨"NameForge$Machine", "passBecome", "(II)I"⟩ : Cond) ∈ wT := wT_in (List.mem_append_left _ (List.mem_map.mpr ⟨(⟨"NameForge$Machine", "passBecome", "(II)I"⟩, 14), List.mem_append_right _ (List.mem_append_left _ (List.mem_of_getElem? (i := 14) rfl)), rfl⟩)) rfl
theorem ws_31 : (.selects "NameForge$Machine" ⟨"NameForge$Machine", "choose", "(II)V"⟩ ⟨"NameForge$Machine", "choose", "(II)V"⟩ : Cond) ∈ wT := wT_in (List.mem_append_left _ (List.mem_map.mpr ⟨(⟨"NameForge$Machine", "choose", "(II)V"⟩, 14), List.mem_append_right _ (List.mem_append_left _ (List.mem_of_getElem? (i := 15) rfl)), rfl⟩)) rfl
theorem ws_32 : (.selects "NameForge$Machine" ⟨"NameForge$Machine", "valueOf", "(I)I"⟩ ⟨"NameForge$Machine", "valueOf", "(I)I"⟩ : Cond) ∈ wT := wT_in (List.mem_append_left _ (List.mem_map.mpr ⟨(⟨"NameForge$Machine", "valueOf", "(I)I"⟩, 14), List.mem_append_right _ (List.mem_append_right _ (List.mem_append_left _ (List.mem_of_getElem? (i := 0) rfl))), rfl⟩)) rfl
theorem ws_33 : (.selects "NameForge$Machine" ⟨"NameForge$Machine", "isKept", "(I)Z"⟩ ⟨"NameForge$Machine", "isKept", "(I)Z"⟩ : Cond) ∈ wT := wT_in (List.mem_append_left _ (List.mem_map.mpr ⟨(⟨"NameForge$Machine", "isKept", "(I)Z"⟩, 14), List.mem_append_right _ (List.mem_append_right _ (List.mem_append_left _ (List.mem_of_getElem? (i := 1) rfl))), rfl⟩)) rfl
theorem ws_34 : (.selects "NameForgeModel" ⟨"NameForgeModel", "fails", "(ZI)Z"⟩ ⟨"NameForgeModel", "fails", "(ZI)Z"⟩ : Cond) ∈ wT := wT_in (List.mem_append_left _ (List.mem_map.mpr ⟨(⟨"NameForgeModel", "fails", "(ZI)Z"⟩, 41), List.mem_append_right _ (List.mem_append_right _ (List.mem_append_left _ (List.mem_of_getElem? (i := 2) rfl))), rfl⟩)) rfl
theorem ws_35 : (.selects "NameForgeModel" ⟨"NameForgeModel", "noBlock", "(I)Z"⟩ ⟨"NameForgeModel", "noBlock", "(I)Z"⟩ : Cond) ∈ wT := wT_in (List.mem_append_left _ (List.mem_map.mpr ⟨(⟨"NameForgeModel", "noBlock", "(I)Z"⟩, 41), List.mem_append_right _ (List.mem_append_right _ (List.mem_append_left _ (List.mem_of_getElem? (i := 3) rfl))), rfl⟩)) rfl
theorem ws_36 : (.selects "NameForgeModel" ⟨"NameForgeModel", "noTarget", "(I)Z"⟩ ⟨"NameForgeModel", "noTarget", "(I)Z"⟩ : Cond) ∈ wT := wT_in (List.mem_append_left _ (List.mem_map.mpr ⟨(⟨"NameForgeModel", "noTarget", "(I)Z"⟩, 41), List.mem_append_right _ (List.mem_append_right _ (List.mem_append_left _ (List.mem_of_getElem? (i := 4) rfl))), rfl⟩)) rfl
theorem ws_37 : (.selects "NameForgeModel" ⟨"NameForgeModel", "reaches", "()V"⟩ ⟨"NameForgeModel", "reaches", "()V"⟩ : Cond) ∈ wT := wT_in (List.mem_append_left _ (List.mem_map.mpr ⟨(⟨"NameForgeModel", "reaches", "()V"⟩, 41), List.mem_append_right _ (List.mem_append_right _ (List.mem_append_left _ (List.mem_of_getElem? (i := 5) rfl))), rfl⟩)) rfl
theorem ws_38 : (.selects "NameForgeModel" ⟨"NameForgeModel", "leadsTo", "(I)I"⟩ ⟨"NameForgeModel", "leadsTo", "(I)I"⟩ : Cond) ∈ wT := wT_in (List.mem_append_left _ (List.mem_map.mpr ⟨(⟨"NameForgeModel", "leadsTo", "(I)I"⟩, 41), List.mem_append_right _ (List.mem_append_right _ (List.mem_append_left _ (List.mem_of_getElem? (i := 6) rfl))), rfl⟩)) rfl
theorem ws_39 : (.selects "NameForgeModel" ⟨"NameForgeModel", "dominates", "()V"⟩ ⟨"NameForgeModel", "dominates", "()V"⟩ : Cond) ∈ wT := wT_in (List.mem_append_left _ (List.mem_map.mpr ⟨(⟨"NameForgeModel", "dominates", "()V"⟩, 41), List.mem_append_right _ (List.mem_append_right _ (List.mem_append_left _ (List.mem_of_getElem? (i := 7) rfl))), rfl⟩)) rfl
theorem ws_40 : (.selects "NameForgeModel" ⟨"NameForgeModel", "placePhis", "()V"⟩ ⟨"NameForgeModel", "placePhis", "()V"⟩ : Cond) ∈ wT := wT_in (List.mem_append_left _ (List.mem_map.mpr ⟨(⟨"NameForgeModel", "placePhis", "()V"⟩, 41), List.mem_append_right _ (List.mem_append_right _ (List.mem_append_left _ (List.mem_of_getElem? (i := 8) rfl))), rfl⟩)) rfl
theorem ws_41 : (.selects "NameForgeModel" ⟨"NameForgeModel", "isInFrontier", "(II)Z"⟩ ⟨"NameForgeModel", "isInFrontier", "(II)Z"⟩ : Cond) ∈ wT := wT_in (List.mem_append_left _ (List.mem_map.mpr ⟨(⟨"NameForgeModel", "isInFrontier", "(II)Z"⟩, 41), List.mem_append_right _ (List.mem_append_right _ (List.mem_append_left _ (List.mem_of_getElem? (i := 9) rfl))), rfl⟩)) rfl
theorem ws_42 : (.selects "NameForgeModel" ⟨"NameForgeModel", "defined", "(I)I"⟩ ⟨"NameForgeModel", "defined", "(I)I"⟩ : Cond) ∈ wT := wT_in (List.mem_append_left _ (List.mem_map.mpr ⟨(⟨"NameForgeModel", "defined", "(I)I"⟩, 41), List.mem_append_right _ (List.mem_append_right _ (List.mem_append_left _ (List.mem_of_getElem? (i := 10) rfl))), rfl⟩)) rfl
theorem ws_43 : (.selects "NameForgeModel" ⟨"NameForgeModel", "nameAll", "()V"⟩ ⟨"NameForgeModel", "nameAll", "()V"⟩ : Cond) ∈ wT := wT_in (List.mem_append_left _ (List.mem_map.mpr ⟨(⟨"NameForgeModel", "nameAll", "()V"⟩, 41), List.mem_append_right _ (List.mem_append_right _ (List.mem_append_left _ (List.mem_of_getElem? (i := 11) rfl))), rfl⟩)) rfl
theorem ws_44 : (.selects "NameForgeModel" ⟨"NameForgeModel", "nameBlock", "(I)V"⟩ ⟨"NameForgeModel", "nameBlock", "(I)V"⟩ : Cond) ∈ wT := wT_in (List.mem_append_left _ (List.mem_map.mpr ⟨(⟨"NameForgeModel", "nameBlock", "(I)V"⟩, 41), List.mem_append_right _ (List.mem_append_right _ (List.mem_append_left _ (List.mem_of_getElem? (i := 12) rfl))), rfl⟩)) rfl
theorem ws_45 : (.selects "NameForgeModel" ⟨"NameForgeModel", "named", "(II)I"⟩ ⟨"NameForgeModel", "named", "(II)I"⟩ : Cond) ∈ wT := wT_in (List.mem_append_left _ (List.mem_map.mpr ⟨(⟨"NameForgeModel", "named", "(II)I"⟩, 41), List.mem_append_right _ (List.mem_append_right _ (List.mem_append_left _ (List.mem_of_getElem? (i := 13) rfl))), rfl⟩)) rfl
theorem ws_46 : (.selects "NameForgeModel" ⟨"NameForgeModel", "findKnown", "()V"⟩ ⟨"NameForgeModel", "findKnown", "()V"⟩ : Cond) ∈ wT := wT_in (List.mem_append_left _ (List.mem_map.mpr ⟨(⟨"NameForgeModel", "findKnown", "()V"⟩, 41), List.mem_append_right _ (List.mem_append_right _ (List.mem_append_left _ (List.mem_of_getElem? (i := 14) rfl))), rfl⟩)) rfl
theorem ws_47 : (.selects "NameForgeModel" ⟨"NameForgeModel", "pass", "()Z"⟩ ⟨"NameForgeModel", "pass", "()Z"⟩ : Cond) ∈ wT := wT_in (List.mem_append_left _ (List.mem_map.mpr ⟨(⟨"NameForgeModel", "pass", "()Z"⟩, 41), List.mem_append_right _ (List.mem_append_right _ (List.mem_append_left _ (List.mem_of_getElem? (i := 15) rfl))), rfl⟩)) rfl
theorem ws_48 : (.selects "NameForgeModel" ⟨"NameForgeModel", "meet", "(III)Z"⟩ ⟨"NameForgeModel", "meet", "(III)Z"⟩ : Cond) ∈ wT := wT_in (List.mem_append_left _ (List.mem_map.mpr ⟨(⟨"NameForgeModel", "meet", "(III)Z"⟩, 41), List.mem_append_right _ (List.mem_append_right _ (List.mem_append_right _ (List.mem_of_getElem? (i := 0) rfl))), rfl⟩)) rfl
theorem ws_49 : (.selects "NameForgeModel" ⟨"NameForgeModel", "becomes", "(III)Z"⟩ ⟨"NameForgeModel", "becomes", "(III)Z"⟩ : Cond) ∈ wT := wT_in (List.mem_append_left _ (List.mem_map.mpr ⟨(⟨"NameForgeModel", "becomes", "(III)Z"⟩, 41), List.mem_append_right _ (List.mem_append_right _ (List.mem_append_right _ (List.mem_of_getElem? (i := 1) rfl))), rfl⟩)) rfl
theorem ws_50 : (.selects "NameForgeModel" ⟨"NameForgeModel", "knows", "(I)Z"⟩ ⟨"NameForgeModel", "knows", "(I)Z"⟩ : Cond) ∈ wT := wT_in (List.mem_append_left _ (List.mem_map.mpr ⟨(⟨"NameForgeModel", "knows", "(I)Z"⟩, 41), List.mem_append_right _ (List.mem_append_right _ (List.mem_append_right _ (List.mem_of_getElem? (i := 2) rfl))), rfl⟩)) rfl
theorem ws_51 : (.selects "NameForgeModel" ⟨"NameForgeModel", "reckon", "(III)I"⟩ ⟨"NameForgeModel", "reckon", "(III)I"⟩ : Cond) ∈ wT := wT_in (List.mem_append_left _ (List.mem_map.mpr ⟨(⟨"NameForgeModel", "reckon", "(III)I"⟩, 41), List.mem_append_right _ (List.mem_append_right _ (List.mem_append_right _ (List.mem_of_getElem? (i := 3) rfl))), rfl⟩)) rfl
theorem ws_52 : (.selects "NameForgeModel" ⟨"NameForgeModel", "ways", "(I)I"⟩ ⟨"NameForgeModel", "ways", "(I)I"⟩ : Cond) ∈ wT := wT_in (List.mem_append_left _ (List.mem_map.mpr ⟨(⟨"NameForgeModel", "ways", "(I)I"⟩, 41), List.mem_append_right _ (List.mem_append_right _ (List.mem_append_right _ (List.mem_of_getElem? (i := 4) rfl))), rfl⟩)) rfl
theorem ws_53 : (.selects "NameForgeModel" ⟨"NameForgeModel", "findNeeded", "()V"⟩ ⟨"NameForgeModel", "findNeeded", "()V"⟩ : Cond) ∈ wT := wT_in (List.mem_append_left _ (List.mem_map.mpr ⟨(⟨"NameForgeModel", "findNeeded", "()V"⟩, 41), List.mem_append_right _ (List.mem_append_right _ (List.mem_append_right _ (List.mem_of_getElem? (i := 5) rfl))), rfl⟩)) rfl
theorem ws_54 : (.selects "NameForgeModel" ⟨"NameForgeModel", "needs", "(I)Z"⟩ ⟨"NameForgeModel", "needs", "(I)Z"⟩ : Cond) ∈ wT := wT_in (List.mem_append_left _ (List.mem_map.mpr ⟨(⟨"NameForgeModel", "needs", "(I)Z"⟩, 41), List.mem_append_right _ (List.mem_append_right _ (List.mem_append_right _ (List.mem_of_getElem? (i := 6) rfl))), rfl⟩)) rfl
theorem ws_55 : (.selects "NameForgeModel" ⟨"NameForgeModel", "needsParts", "(I)Z"⟩ ⟨"NameForgeModel", "needsParts", "(I)Z"⟩ : Cond) ∈ wT := wT_in (List.mem_append_left _ (List.mem_map.mpr ⟨(⟨"NameForgeModel", "needsParts", "(I)Z"⟩, 41), List.mem_append_right _ (List.mem_append_right _ (List.mem_append_right _ (List.mem_of_getElem? (i := 7) rfl))), rfl⟩)) rfl
theorem ws_56 : (.selects "NameForgeModel" ⟨"NameForgeModel", "phiOf", "(II)I"⟩ ⟨"NameForgeModel", "phiOf", "(II)I"⟩ : Cond) ∈ wT := wT_in (List.mem_append_left _ (List.mem_map.mpr ⟨(⟨"NameForgeModel", "phiOf", "(II)I"⟩, 41), List.mem_append_right _ (List.mem_append_right _ (List.mem_append_right _ (List.mem_of_getElem? (i := 8) rfl))), rfl⟩)) rfl
theorem ws_57 : (.selects "NameForgeModel" ⟨"NameForgeModel", "plainBlock", "(I)V"⟩ ⟨"NameForgeModel", "plainBlock", "(I)V"⟩ : Cond) ∈ wT := wT_in (List.mem_append_left _ (List.mem_map.mpr ⟨(⟨"NameForgeModel", "plainBlock", "(I)V"⟩, 41), List.mem_append_right _ (List.mem_append_right _ (List.mem_append_right _ (List.mem_of_getElem? (i := 9) rfl))), rfl⟩)) rfl
theorem ws_58 : (.selects "NameForgeModel" ⟨"NameForgeModel", "tell", "(I)V"⟩ ⟨"NameForgeModel", "tell", "(I)V"⟩ : Cond) ∈ wT := wT_in (List.mem_append_left _ (List.mem_map.mpr ⟨(⟨"NameForgeModel", "tell", "(I)V"⟩, 41), List.mem_append_right _ (List.mem_append_right _ (List.mem_append_right _ (List.mem_of_getElem? (i := 10) rfl))), rfl⟩)) rfl
theorem ws_59 : (.selects "NameForgeModel" ⟨"NameForgeModel", "plainValue", "(I)I"⟩ ⟨"NameForgeModel", "plainValue", "(I)I"⟩ : Cond) ∈ wT := wT_in (List.mem_append_left _ (List.mem_map.mpr ⟨(⟨"NameForgeModel", "plainValue", "(I)I"⟩, 41), List.mem_append_right _ (List.mem_append_right _ (List.mem_append_right _ (List.mem_of_getElem? (i := 11) rfl))), rfl⟩)) rfl
theorem ws_60 : (.selects "NameForgeModel" ⟨"NameForgeModel", "ask", "()I"⟩ ⟨"NameForgeModel", "ask", "()I"⟩ : Cond) ∈ wT := wT_in (List.mem_append_left _ (List.mem_map.mpr ⟨(⟨"NameForgeModel", "ask", "()I"⟩, 41), List.mem_append_right _ (List.mem_append_right _ (List.mem_append_right _ (List.mem_of_getElem? (i := 12) rfl))), rfl⟩)) rfl
theorem ws_61 : (.selects "NameForgeModel" ⟨"NameForgeModel", "formedBlock", "(II)V"⟩ ⟨"NameForgeModel", "formedBlock", "(II)V"⟩ : Cond) ∈ wT := wT_in (List.mem_append_left _ (List.mem_map.mpr ⟨(⟨"NameForgeModel", "formedBlock", "(II)V"⟩, 41), List.mem_append_right _ (List.mem_append_right _ (List.mem_append_right _ (List.mem_of_getElem? (i := 13) rfl))), rfl⟩)) rfl
theorem ws_62 : (.selects "NameForgeModel" ⟨"NameForgeModel", "value", "(I)I"⟩ ⟨"NameForgeModel", "value", "(I)I"⟩ : Cond) ∈ wT := wT_in (List.mem_append_left _ (List.mem_map.mpr ⟨(⟨"NameForgeModel", "value", "(I)I"⟩, 41), List.mem_append_right _ (List.mem_append_right _ (List.mem_append_right _ (List.mem_of_getElem? (i := 14) rfl))), rfl⟩)) rfl
theorem ws_63 : (.selects "NameForgeModel" ⟨"NameForgeModel", "behind", "(IZ)I"⟩ ⟨"NameForgeModel", "behind", "(IZ)I"⟩ : Cond) ∈ wT := wT_in (List.mem_append_left _ (List.mem_map.mpr ⟨(⟨"NameForgeModel", "behind", "(IZ)I"⟩, 41), List.mem_append_right _ (List.mem_append_right _ (List.mem_append_right _ (List.mem_of_getElem? (i := 15) rfl))), rfl⟩)) rfl
def nests : List (String × Nat × MethodName) := [("NameForge", 11, ⟨"NameForge$Program", "<init>", "()V"⟩), ("NameForge$Shape", 54, ⟨"NameForge", "bit", "(I)I"⟩), ("NameForge$Shape", 50, ⟨"NameForge", "holds", "(II)Z"⟩), ("NameForge$Program", 53, ⟨"NameForge", "bit", "(I)I"⟩), ("NameForge$Naming", 102, ⟨"NameForge", "setsVariable", "(I)Z"⟩), ("NameForge$Naming", 109, ⟨"NameForge", "bit", "(I)I"⟩), ("NameForge$Naming", 87, ⟨"NameForge", "holds", "(II)Z"⟩), ("NameForge$Naming", 132, ⟨"NameForge", "readsX", "(I)Z"⟩), ("NameForge$Naming", 138, ⟨"NameForge", "readsY", "(I)Z"⟩), ("NameForge$Known", 39, ⟨"NameForge", "bit", "(I)I"⟩), ("NameForge$Known", 59, ⟨"NameForge", "holds", "(II)Z"⟩), ("NameForge$Known", 119, ⟨"NameForge", "calculate", "(III)I"⟩), ("NameForge$Needed", 45, ⟨"NameForge", "holds", "(II)Z"⟩), ("NameForge$Machine", 91, ⟨"NameForge", "readsX", "(I)Z"⟩), ("NameForge$Machine", 95, ⟨"NameForge", "readsY", "(I)Z"⟩), ("NameForge$Machine", 173, ⟨"NameForge", "calculate", "(III)I"⟩), ("NameForge$Machine", 102, ⟨"NameForge", "setsVariable", "(I)Z"⟩), ("NameForge$Machine", 144, ⟨"NameForge", "holds", "(II)Z"⟩)]
