def wT : List Cond := lw_tbl.filter goodWord
theorem wT_good : ∀ w ∈ wT, goodWord w = true := fun w h => (List.mem_filter.mp h).2
theorem wT_tbl : ∀ w ∈ wT, w ∈ lw_tbl := fun w h => (List.mem_filter.mp h).1
theorem wT_in {w : Cond} (h : w ∈ lw_tbl) (hg : goodWord w = true) : w ∈ wT := List.mem_filter.mpr ⟨h, hg⟩
theorem tb_0 : ∀ w ∈ tables_1_1, w ∈ lw_tbl := fun w h => List.mem_append_right _ (List.mem_append_left _ h)
theorem tb_1 : ∀ w ∈ tables_1_2, w ∈ lw_tbl := fun w h => List.mem_append_right _ (List.mem_append_right _ (List.mem_append_left _ h))
theorem tb_2 : ∀ w ∈ tables_1_3, w ∈ lw_tbl := fun w h => List.mem_append_right _ (List.mem_append_right _ (List.mem_append_right _ (List.mem_append_left _ h)))
theorem tb_3 : ∀ w ∈ tables_1_4, w ∈ lw_tbl := fun w h => List.mem_append_right _ (List.mem_append_right _ (List.mem_append_right _ (List.mem_append_right _ (List.mem_append_left _ h))))
theorem tb_4 : ∀ w ∈ tables_1_5, w ∈ lw_tbl := fun w h => List.mem_append_right _ (List.mem_append_right _ (List.mem_append_right _ (List.mem_append_right _ (List.mem_append_right _ (h)))))
def RN : String := "NameForge"
def TN : u_T := fun k => match k with
  | 0 => ("NameForge", "program", "LNameForge$Program;", true)
  | 1 => ("NameForge", "shape", "LNameForge$Shape;", true)
  | 2 => ("NameForge", "naming", "LNameForge$Naming;", true)
  | 3 => ("NameForge", "known", "LNameForge$Known;", true)
  | 4 => ("NameForge", "needed", "LNameForge$Needed;", true)
  | 5 => ("NameForge", "machine", "LNameForge$Machine;", true)
  | _ => ("NameForge", "built", "Z", false)
def tyN : Nat → FieldType := fun k => match k with
  | 0 => .object "NameForge$Program"
  | 1 => .object "NameForge$Shape"
  | 2 => .object "NameForge$Naming"
  | 3 => .object "NameForge$Known"
  | 4 => .object "NameForge$Needed"
  | 5 => .object "NameForge$Machine"
  | _ => .boolean
theorem nmN : ∀ a, a < 7 → ∀ b, b < 7 → a ≠ b → (TN a).2.1 ≠ (TN b).2.1 := by decide +kernel
theorem tyN_ok : ∀ k, k < 7 → parseFieldDescriptor (TN k).2.2.1 = some (tyN k) := by decide +kernel
def RP : String := "NameForge$Program"
def TP : u_T := fun k => match k with
  | 0 => ("NameForge$Program", "blocks", "I", false)
  | 1 => ("NameForge$Program", "length", "[I", true)
  | 2 => ("NameForge$Program", "kind", "[[I", true)
  | 3 => ("NameForge$Program", "d", "[[I", true)
  | 4 => ("NameForge$Program", "x", "[[I", true)
  | 5 => ("NameForge$Program", "y", "[[I", true)
  | 6 => ("NameForge$Program", "end", "[I", true)
  | 7 => ("NameForge$Program", "test", "[I", true)
  | 8 => ("NameForge$Program", "yes", "[I", true)
  | _ => ("NameForge$Program", "no", "[I", true)
def tyP : Nat → FieldType := fun k => match k with
  | 0 => .int
  | 1 => .array .int
  | 2 => .array (.array .int)
  | 3 => .array (.array .int)
  | 4 => .array (.array .int)
  | 5 => .array (.array .int)
  | 6 => .array .int
  | 7 => .array .int
  | 8 => .array .int
  | _ => .array .int
theorem nmP : ∀ a, a < 10 → ∀ b, b < 10 → a ≠ b → (TP a).2.1 ≠ (TP b).2.1 := by decide +kernel
theorem tyP_ok : ∀ k, k < 10 → parseFieldDescriptor (TP k).2.2.1 = some (tyP k) := by decide +kernel
def RS : String := "NameForge$Shape"
def TS : u_T := fun k => match k with
  | 0 => ("NameForge$Shape", "program", "LNameForge$Program;", true)
  | 1 => ("NameForge$Shape", "reached", "I", false)
  | 2 => ("NameForge$Shape", "before", "[I", true)
  | 3 => ("NameForge$Shape", "under", "[I", true)
  | 4 => ("NameForge$Shape", "parent", "[I", true)
  | 5 => ("NameForge$Shape", "frontier", "[I", true)
  | 6 => ("NameForge$Shape", "order", "[I", true)
  | 7 => ("NameForge$Shape", "ordered", "I", false)
  | _ => ("NameForge$Shape", "waiting", "[I", true)
def tyS : Nat → FieldType := fun k => match k with
  | 0 => .object "NameForge$Program"
  | 1 => .int
  | 2 => .array .int
  | 3 => .array .int
  | 4 => .array .int
  | 5 => .array .int
  | 6 => .array .int
  | 7 => .int
  | _ => .array .int
theorem nmS : ∀ a, a < 9 → ∀ b, b < 9 → a ≠ b → (TS a).2.1 ≠ (TS b).2.1 := by decide +kernel
theorem tyS_ok : ∀ k, k < 9 → parseFieldDescriptor (TS k).2.2.1 = some (tyS k) := by decide +kernel
def RG : String := "NameForge$Naming"
def TG : u_T := fun k => match k with
  | 0 => ("NameForge$Naming", "program", "LNameForge$Program;", true)
  | 1 => ("NameForge$Naming", "shape", "LNameForge$Shape;", true)
  | 2 => ("NameForge$Naming", "names", "I", false)
  | 3 => ("NameForge$Naming", "phis", "[I", true)
  | 4 => ("NameForge$Naming", "defined", "[I", true)
  | 5 => ("NameForge$Naming", "phiName", "[[I", true)
  | 6 => ("NameForge$Naming", "atEnd", "[[I", true)
  | 7 => ("NameForge$Naming", "made", "[[I", true)
  | 8 => ("NameForge$Naming", "usedX", "[[I", true)
  | 9 => ("NameForge$Naming", "usedY", "[[I", true)
  | 10 => ("NameForge$Naming", "tested", "[I", true)
  | 11 => ("NameForge$Naming", "home", "[I", true)
  | 12 => ("NameForge$Naming", "row", "[I", true)
  | _ => ("NameForge$Naming", "variable", "[I", true)
def tyG : Nat → FieldType := fun k => match k with
  | 0 => .object "NameForge$Program"
  | 1 => .object "NameForge$Shape"
  | 2 => .int
  | 3 => .array .int
  | 4 => .array .int
  | 5 => .array (.array .int)
  | 6 => .array (.array .int)
  | 7 => .array (.array .int)
  | 8 => .array (.array .int)
  | 9 => .array (.array .int)
  | 10 => .array .int
  | 11 => .array .int
  | 12 => .array .int
  | _ => .array .int
theorem nmG : ∀ a, a < 14 → ∀ b, b < 14 → a ≠ b → (TG a).2.1 ≠ (TG b).2.1 := by decide +kernel
theorem tyG_ok : ∀ k, k < 14 → parseFieldDescriptor (TG k).2.2.1 = some (tyG k) := by decide +kernel
def RK : String := "NameForge$Known"
def TK : u_T := fun k => match k with
  | 0 => ("NameForge$Known", "program", "LNameForge$Program;", true)
  | 1 => ("NameForge$Known", "shape", "LNameForge$Shape;", true)
  | 2 => ("NameForge$Known", "naming", "LNameForge$Naming;", true)
  | 3 => ("NameForge$Known", "comeTo", "I", false)
  | 4 => ("NameForge$Known", "taken", "[I", true)
  | 5 => ("NameForge$Known", "state", "[I", true)
  | 6 => ("NameForge$Known", "number", "[I", true)
  | _ => ("NameForge$Known", "changed", "Z", false)
def tyK : Nat → FieldType := fun k => match k with
  | 0 => .object "NameForge$Program"
  | 1 => .object "NameForge$Shape"
  | 2 => .object "NameForge$Naming"
  | 3 => .int
  | 4 => .array .int
  | 5 => .array .int
  | 6 => .array .int
  | _ => .boolean
theorem nmK : ∀ a, a < 8 → ∀ b, b < 8 → a ≠ b → (TK a).2.1 ≠ (TK b).2.1 := by decide +kernel
theorem tyK_ok : ∀ k, k < 8 → parseFieldDescriptor (TK k).2.2.1 = some (tyK k) := by decide +kernel
def RD : String := "NameForge$Needed"
def TD : u_T := fun k => match k with
  | 0 => ("NameForge$Needed", "program", "LNameForge$Program;", true)
  | 1 => ("NameForge$Needed", "naming", "LNameForge$Naming;", true)
  | 2 => ("NameForge$Needed", "known", "LNameForge$Known;", true)
  | 3 => ("NameForge$Needed", "isNeeded", "[Z", true)
  | 4 => ("NameForge$Needed", "list", "[I", true)
  | _ => ("NameForge$Needed", "listed", "I", false)
def tyD : Nat → FieldType := fun k => match k with
  | 0 => .object "NameForge$Program"
  | 1 => .object "NameForge$Naming"
  | 2 => .object "NameForge$Known"
  | 3 => .array .boolean
  | 4 => .array .int
  | _ => .int
theorem nmD : ∀ a, a < 6 → ∀ b, b < 6 → a ≠ b → (TD a).2.1 ≠ (TD b).2.1 := by decide +kernel
theorem tyD_ok : ∀ k, k < 6 → parseFieldDescriptor (TD k).2.2.1 = some (tyD k) := by decide +kernel
def RA : String := "NameForge$Machine"
def TA : u_T := fun k => match k with
  | 0 => ("NameForge$Machine", "program", "LNameForge$Program;", true)
  | 1 => ("NameForge$Machine", "naming", "LNameForge$Naming;", true)
  | 2 => ("NameForge$Machine", "known", "LNameForge$Known;", true)
  | 3 => ("NameForge$Machine", "needed", "LNameForge$Needed;", true)
  | 4 => ("NameForge$Machine", "inputs", "I", false)
  | 5 => ("NameForge$Machine", "input", "[I", true)
  | 6 => ("NameForge$Machine", "ofVariable", "[I", true)
  | 7 => ("NameForge$Machine", "ofName", "[I", true)
  | 8 => ("NameForge$Machine", "chosen", "[I", true)
  | 9 => ("NameForge$Machine", "tellings", "I", false)
  | 10 => ("NameForge$Machine", "kept", "[I", true)
  | 11 => ("NameForge$Machine", "blocksRun", "I", false)
  | 12 => ("NameForge$Machine", "instructionsDone", "I", false)
  | _ => ("NameForge$Machine", "inputsAsked", "I", false)
def tyA : Nat → FieldType := fun k => match k with
  | 0 => .object "NameForge$Program"
  | 1 => .object "NameForge$Naming"
  | 2 => .object "NameForge$Known"
  | 3 => .object "NameForge$Needed"
  | 4 => .int
  | 5 => .array .int
  | 6 => .array .int
  | 7 => .array .int
  | 8 => .array .int
  | 9 => .int
  | 10 => .array .int
  | 11 => .int
  | 12 => .int
  | _ => .int
theorem nmA : ∀ a, a < 14 → ∀ b, b < 14 → a ≠ b → (TA a).2.1 ≠ (TA b).2.1 := by decide +kernel
theorem tyA_ok : ∀ k, k < 14 → parseFieldDescriptor (TA k).2.2.1 = some (tyA k) := by decide +kernel
def RR : String := "NameForgeModel"
def TR : u_T := fun k => match k with
  | 0 => ("NameForgeModel", "thrown", "I", false)
  | 1 => ("NameForgeModel", "blocks", "I", false)
  | 2 => ("NameForgeModel", "counts", "[I", true)
  | 3 => ("NameForgeModel", "kinds", "[I", true)
  | 4 => ("NameForgeModel", "targets", "[I", true)
  | 5 => ("NameForgeModel", "firsts", "[I", true)
  | 6 => ("NameForgeModel", "seconds", "[I", true)
  | 7 => ("NameForgeModel", "ends", "[I", true)
  | 8 => ("NameForgeModel", "tests", "[I", true)
  | 9 => ("NameForgeModel", "thens", "[I", true)
  | 10 => ("NameForgeModel", "elses", "[I", true)
  | 11 => ("NameForgeModel", "built", "Z", false)
  | 12 => ("NameForgeModel", "reached", "I", false)
  | 13 => ("NameForgeModel", "over", "[I", true)
  | 14 => ("NameForgeModel", "before", "[I", true)
  | 15 => ("NameForgeModel", "parent", "[I", true)
  | 16 => ("NameForgeModel", "phis", "[I", true)
  | 17 => ("NameForgeModel", "names", "I", false)
  | 18 => ("NameForgeModel", "blockOf", "[I", true)
  | 19 => ("NameForgeModel", "madeBy", "[I", true)
  | 20 => ("NameForgeModel", "phiName", "[I", true)
  | 21 => ("NameForgeModel", "sets", "[I", true)
  | 22 => ("NameForgeModel", "usesX", "[I", true)
  | 23 => ("NameForgeModel", "usesY", "[I", true)
  | 24 => ("NameForgeModel", "testName", "[I", true)
  | 25 => ("NameForgeModel", "atEnd", "[I", true)
  | 26 => ("NameForgeModel", "walk", "[I", true)
  | 27 => ("NameForgeModel", "comeTo", "I", false)
  | 28 => ("NameForgeModel", "taken", "[I", true)
  | 29 => ("NameForgeModel", "state", "[I", true)
  | 30 => ("NameForgeModel", "number", "[I", true)
  | 31 => ("NameForgeModel", "needed", "[Z", true)
  | 32 => ("NameForgeModel", "given", "I", false)
  | 33 => ("NameForgeModel", "input", "[I", true)
  | 34 => ("NameForgeModel", "asked", "I", false)
  | 35 => ("NameForgeModel", "told", "I", false)
  | 36 => ("NameForgeModel", "heard", "[I", true)
  | 37 => ("NameForgeModel", "ran", "I", false)
  | 38 => ("NameForgeModel", "done", "I", false)
  | 39 => ("NameForgeModel", "now", "[I", true)
  | _ => ("NameForgeModel", "next", "[I", true)
def tyR : Nat → FieldType := fun k => match k with
  | 0 => .int
  | 1 => .int
  | 2 => .array .int
  | 3 => .array .int
  | 4 => .array .int
  | 5 => .array .int
  | 6 => .array .int
  | 7 => .array .int
  | 8 => .array .int
  | 9 => .array .int
  | 10 => .array .int
  | 11 => .boolean
  | 12 => .int
  | 13 => .array .int
  | 14 => .array .int
  | 15 => .array .int
  | 16 => .array .int
  | 17 => .int
  | 18 => .array .int
  | 19 => .array .int
  | 20 => .array .int
  | 21 => .array .int
  | 22 => .array .int
  | 23 => .array .int
  | 24 => .array .int
  | 25 => .array .int
  | 26 => .array .int
  | 27 => .int
  | 28 => .array .int
  | 29 => .array .int
  | 30 => .array .int
  | 31 => .array .boolean
  | 32 => .int
  | 33 => .array .int
  | 34 => .int
  | 35 => .int
  | 36 => .array .int
  | 37 => .int
  | 38 => .int
  | 39 => .array .int
  | _ => .array .int
theorem nmR : ∀ a, a < 41 → ∀ b, b < 41 → a ≠ b → (TR a).2.1 ≠ (TR b).2.1 := by decide +kernel
theorem tyR_ok : ∀ k, k < 41 → parseFieldDescriptor (TR k).2.2.1 = some (tyR k) := by decide +kernel
abbrev vCl : List vw_C := [(RN, TN, 7), (RP, TP, 10), (RS, TS, 9), (RG, TG, 14), (RK, TK, 8), (RD, TD, 6), (RA, TA, 14), (RR, TR, 41)]
abbrev b_N_init : ByteArray := prog_1_method_1_code
def y_N_init : MethodName := ⟨"NameForge", "<init>", "()V"⟩
abbrev b_N_block : ByteArray := prog_1_method_2_code
def y_N_block : MethodName := ⟨"NameForge", "block", "()I"⟩
abbrev b_N_put : ByteArray := prog_1_method_3_code
def y_N_put : MethodName := ⟨"NameForge", "put", "(IIIII)I"⟩
abbrev b_N_go : ByteArray := prog_1_method_4_code
def y_N_go : MethodName := ⟨"NameForge", "go", "(II)V"⟩
abbrev b_N_fork : ByteArray := prog_1_method_5_code
def y_N_fork : MethodName := ⟨"NameForge", "fork", "(IIII)V"⟩
abbrev b_N_stop : ByteArray := prog_1_method_6_code
def y_N_stop : MethodName := ⟨"NameForge", "stop", "(I)V"⟩
abbrev b_N_clear : ByteArray := prog_1_method_7_code
def y_N_clear : MethodName := ⟨"NameForge", "clear", "()V"⟩
abbrev b_N_build : ByteArray := prog_1_method_8_code
def y_N_build : MethodName := ⟨"NameForge", "build", "()I"⟩
abbrev b_N_look : ByteArray := prog_1_method_9_code
def y_N_look : MethodName := ⟨"NameForge", "look", "(II)I"⟩
abbrev b_N_phi : ByteArray := prog_1_method_10_code
def y_N_phi : MethodName := ⟨"NameForge", "phi", "(III)I"⟩
abbrev b_N_uses : ByteArray := prog_1_method_11_code
def y_N_uses : MethodName := ⟨"NameForge", "uses", "(III)I"⟩
abbrev b_N_name : ByteArray := prog_1_method_12_code
def y_N_name : MethodName := ⟨"NameForge", "name", "(II)I"⟩
abbrev b_N_give : ByteArray := prog_1_method_13_code
def y_N_give : MethodName := ⟨"NameForge", "give", "(I)Z"⟩
abbrev b_N_take : ByteArray := prog_1_method_14_code
def y_N_take : MethodName := ⟨"NameForge", "take", "()V"⟩
abbrev b_N_run : ByteArray := prog_1_method_15_code
def y_N_run : MethodName := ⟨"NameForge", "run", "(ZI)I"⟩
abbrev b_N_told : ByteArray := prog_1_method_16_code
def y_N_told : MethodName := ⟨"NameForge", "told", "()I"⟩
abbrev b_N_heard : ByteArray := prog_1_method_17_code
def y_N_heard : MethodName := ⟨"NameForge", "heard", "(I)I"⟩
abbrev b_N_spent : ByteArray := prog_1_method_18_code
def y_N_spent : MethodName := ⟨"NameForge", "spent", "(I)I"⟩
abbrev b_R_init : ByteArray := prog_9_method_1_code
def y_R_init : MethodName := ⟨"NameForgeModel", "<init>", "()V"⟩
abbrev b_R_thrown : ByteArray := prog_9_method_2_code
def y_R_thrown : MethodName := ⟨"NameForgeModel", "thrown", "()I"⟩
abbrev b_R_fails : ByteArray := prog_9_method_3_code
def y_R_fails : MethodName := ⟨"NameForgeModel", "fails", "(ZI)Z"⟩
abbrev b_R_noBlock : ByteArray := prog_9_method_4_code
def y_R_noBlock : MethodName := ⟨"NameForgeModel", "noBlock", "(I)Z"⟩
abbrev b_R_block : ByteArray := prog_9_method_9_code
def y_R_block : MethodName := ⟨"NameForgeModel", "block", "()I"⟩
abbrev b_R_put : ByteArray := prog_9_method_10_code
def y_R_put : MethodName := ⟨"NameForgeModel", "put", "(IIIII)I"⟩
abbrev b_R_go : ByteArray := prog_9_method_12_code
def y_R_go : MethodName := ⟨"NameForgeModel", "go", "(II)V"⟩
abbrev b_R_fork : ByteArray := prog_9_method_13_code
def y_R_fork : MethodName := ⟨"NameForgeModel", "fork", "(IIII)V"⟩
abbrev b_R_stop : ByteArray := prog_9_method_14_code
def y_R_stop : MethodName := ⟨"NameForgeModel", "stop", "(I)V"⟩
abbrev b_R_clear : ByteArray := prog_9_method_15_code
def y_R_clear : MethodName := ⟨"NameForgeModel", "clear", "()V"⟩
abbrev b_R_build : ByteArray := prog_9_method_37_code
def y_R_build : MethodName := ⟨"NameForgeModel", "build", "()I"⟩
abbrev b_R_look : ByteArray := prog_9_method_38_code
def y_R_look : MethodName := ⟨"NameForgeModel", "look", "(II)I"⟩
abbrev b_R_phi : ByteArray := prog_9_method_40_code
def y_R_phi : MethodName := ⟨"NameForgeModel", "phi", "(III)I"⟩
abbrev b_R_uses : ByteArray := prog_9_method_41_code
def y_R_uses : MethodName := ⟨"NameForgeModel", "uses", "(III)I"⟩
abbrev b_R_name : ByteArray := prog_9_method_42_code
def y_R_name : MethodName := ⟨"NameForgeModel", "name", "(II)I"⟩
abbrev b_R_give : ByteArray := prog_9_method_43_code
def y_R_give : MethodName := ⟨"NameForgeModel", "give", "(I)Z"⟩
abbrev b_R_take : ByteArray := prog_9_method_44_code
def y_R_take : MethodName := ⟨"NameForgeModel", "take", "()V"⟩
abbrev b_R_run : ByteArray := prog_9_method_52_code
def y_R_run : MethodName := ⟨"NameForgeModel", "run", "(ZI)I"⟩
abbrev b_R_told : ByteArray := prog_9_method_53_code
def y_R_told : MethodName := ⟨"NameForgeModel", "told", "()I"⟩
abbrev b_R_heard : ByteArray := prog_9_method_54_code
def y_R_heard : MethodName := ⟨"NameForgeModel", "heard", "(I)I"⟩
abbrev b_R_spent : ByteArray := prog_9_method_55_code
def y_R_spent : MethodName := ⟨"NameForgeModel", "spent", "(I)I"⟩
abbrev b_K_init : ByteArray := prog_2_method_1_code
def y_K_init : MethodName := ⟨"NameForge$Known", "<init>", "(LNameForge$Program;LNameForge$Shape;LNameForge$Naming;)V"⟩
abbrev b_A_init : ByteArray := prog_3_method_1_code
def y_A_init : MethodName := ⟨"NameForge$Machine", "<init>", "(LNameForge$Program;LNameForge$Naming;LNameForge$Known;LNameForge$Needed;)V"⟩
abbrev b_A_addInput : ByteArray := prog_3_method_2_code
def y_A_addInput : MethodName := ⟨"NameForge$Machine", "addInput", "(I)Z"⟩
abbrev b_G_init : ByteArray := prog_4_method_1_code
def y_G_init : MethodName := ⟨"NameForge$Naming", "<init>", "(LNameForge$Program;LNameForge$Shape;)V"⟩
abbrev b_D_init : ByteArray := prog_5_method_1_code
def y_D_init : MethodName := ⟨"NameForge$Needed", "<init>", "(LNameForge$Program;LNameForge$Naming;LNameForge$Known;)V"⟩
abbrev b_P_init : ByteArray := prog_6_method_1_code
def y_P_init : MethodName := ⟨"NameForge$Program", "<init>", "()V"⟩
abbrev b_P_has : ByteArray := prog_6_method_2_code
def y_P_has : MethodName := ⟨"NameForge$Program", "has", "(I)Z"⟩
abbrev b_P_addBlock : ByteArray := prog_6_method_4_code
def y_P_addBlock : MethodName := ⟨"NameForge$Program", "addBlock", "()I"⟩
abbrev b_P_setEnd : ByteArray := prog_6_method_6_code
def y_P_setEnd : MethodName := ⟨"NameForge$Program", "setEnd", "(IIIII)V"⟩
abbrev b_S_init : ByteArray := prog_7_method_1_code
def y_S_init : MethodName := ⟨"NameForge$Shape", "<init>", "(LNameForge$Program;)V"⟩
abbrev b_L_block : ByteArray := method_3_code
def y_L_block : MethodName := ⟨"NameForgeLaw", "block", "(LNameForge;[J)I"⟩
abbrev b_L_put : ByteArray := method_4_code
def y_L_put : MethodName := ⟨"NameForgeLaw", "put", "(LNameForge;IIIII[J)I"⟩
abbrev b_L_go : ByteArray := method_5_code
def y_L_go : MethodName := ⟨"NameForgeLaw", "go", "(LNameForge;II)I"⟩
abbrev b_L_fork : ByteArray := method_6_code
def y_L_fork : MethodName := ⟨"NameForgeLaw", "fork", "(LNameForge;IIII)I"⟩
abbrev b_L_stop : ByteArray := method_7_code
def y_L_stop : MethodName := ⟨"NameForgeLaw", "stop", "(LNameForge;I)I"⟩
abbrev b_L_build : ByteArray := method_8_code
def y_L_build : MethodName := ⟨"NameForgeLaw", "build", "(LNameForge;[J)I"⟩
abbrev b_L_look : ByteArray := method_9_code
def y_L_look : MethodName := ⟨"NameForgeLaw", "look", "(LNameForge;II[J)I"⟩
abbrev b_L_phi : ByteArray := method_10_code
def y_L_phi : MethodName := ⟨"NameForgeLaw", "phi", "(LNameForge;III[J)I"⟩
abbrev b_L_uses : ByteArray := method_11_code
def y_L_uses : MethodName := ⟨"NameForgeLaw", "uses", "(LNameForge;III[J)I"⟩
abbrev b_L_name : ByteArray := method_12_code
def y_L_name : MethodName := ⟨"NameForgeLaw", "name", "(LNameForge;II[J)I"⟩
abbrev b_L_run : ByteArray := method_13_code
def y_L_run : MethodName := ⟨"NameForgeLaw", "run", "(LNameForge;ZI[J)I"⟩
abbrev b_L_heard : ByteArray := method_14_code
def y_L_heard : MethodName := ⟨"NameForgeLaw", "heard", "(LNameForge;I[J)I"⟩
theorem wd_0 : (.initialized "NameForgeLaw" : Cond) ∈ wT := wT_in (tb_0 _ (List.mem_of_getElem? (i := 0) (by decide +kernel))) rfl
theorem wd_1 : (.initialized "NameForge" : Cond) ∈ wT := wT_in (tb_0 _ (List.mem_of_getElem? (i := 1) (by decide +kernel))) rfl
theorem wd_2 : (.initialized "NameForge$Program" : Cond) ∈ wT := wT_in (tb_0 _ (List.mem_of_getElem? (i := 2) (by decide +kernel))) rfl
theorem wd_3 : (.initialized "NameForge$Shape" : Cond) ∈ wT := wT_in (tb_0 _ (List.mem_of_getElem? (i := 3) (by decide +kernel))) rfl
theorem wd_4 : (.initialized "NameForge$Naming" : Cond) ∈ wT := wT_in (tb_0 _ (List.mem_of_getElem? (i := 4) (by decide +kernel))) rfl
theorem wd_5 : (.initialized "NameForge$Known" : Cond) ∈ wT := wT_in (tb_0 _ (List.mem_of_getElem? (i := 5) (by decide +kernel))) rfl
theorem wd_6 : (.initialized "NameForge$Needed" : Cond) ∈ wT := wT_in (tb_0 _ (List.mem_of_getElem? (i := 6) (by decide +kernel))) rfl
theorem wd_7 : (.initialized "NameForge$Machine" : Cond) ∈ wT := wT_in (tb_0 _ (List.mem_of_getElem? (i := 7) (by decide +kernel))) rfl
theorem wd_8 : (.initialized "NameForgeModel" : Cond) ∈ wT := wT_in (tb_0 _ (List.mem_of_getElem? (i := 8) (by decide +kernel))) rfl
theorem wd_12 : (.initialized "java/lang/IllegalStateException" : Cond) ∈ wT := wT_in (tb_0 _ (List.mem_of_getElem? (i := 12) (by decide +kernel))) rfl
theorem wd_13 : (.initialized "java/lang/IllegalArgumentException" : Cond) ∈ wT := wT_in (tb_0 _ (List.mem_of_getElem? (i := 13) (by decide +kernel))) rfl
theorem wd_15 : (.initialized "java/util/NoSuchElementException" : Cond) ∈ wT := wT_in (tb_0 _ (List.mem_of_getElem? (i := 15) (by decide +kernel))) rfl
theorem wd_17 : (.classLink "NameForgeLaw" 8 "NameForge" : Cond) ∈ wT := wT_in (tb_0 _ (List.mem_of_getElem? (i := 17) (by decide +kernel))) rfl
theorem wd_18 : (.instantiable "NameForge" 7 : Cond) ∈ wT := wT_in (tb_0 _ (List.mem_of_getElem? (i := 18) (by decide +kernel))) rfl
theorem wd_19 : (.methodLink "NameForgeLaw" 60 ⟨"NameForge", "<init>", "()V"⟩ : Cond) ∈ wT := wT_in (tb_0 _ (List.mem_of_getElem? (i := 19) (by decide +kernel))) rfl
theorem wd_20 : (.instanceMethod ⟨"NameForge", "<init>", "()V"⟩ : Cond) ∈ wT := wT_in (tb_0 _ (List.mem_of_getElem? (i := 20) (by decide +kernel))) rfl
theorem wd_21 : (.code ⟨"NameForge", "<init>", "()V"⟩ prog_1_method_1_code 1 none : Cond) ∈ wT := wT_in (tb_0 _ (List.mem_of_getElem? (i := 21) (by decide +kernel))) rfl
theorem wd_22 : (.methodLink "NameForge" 3 ⟨"java/lang/Object", "<init>", "()V"⟩ : Cond) ∈ wT := wT_in (tb_0 _ (List.mem_of_getElem? (i := 22) (by decide +kernel))) rfl
theorem wd_23 : (.instanceMethod ⟨"java/lang/Object", "<init>", "()V"⟩ : Cond) ∈ wT := wT_in (tb_0 _ (List.mem_of_getElem? (i := 23) (by decide +kernel))) rfl
theorem wd_24 : (.code ⟨"java/lang/Object", "<init>", "()V"⟩ object_method_1_code 1 none : Cond) ∈ wT := wT_in (tb_0 _ (List.mem_of_getElem? (i := 24) (by decide +kernel))) rfl
theorem wd_25 : (.classLink "NameForge" 9 "NameForge$Program" : Cond) ∈ wT := wT_in (tb_0 _ (List.mem_of_getElem? (i := 25) (by decide +kernel))) rfl
theorem wd_26 : (.instantiable "NameForge$Program" 10 : Cond) ∈ wT := wT_in (tb_0 _ (List.mem_of_getElem? (i := 26) (by decide +kernel))) rfl
theorem wz_27 : (.methodLinkNest "NameForge" 11 ⟨"NameForge$Program", "<init>", "()V"⟩ "NameForge" : Cond) ∈ lw_tbl := tb_0 _ (List.mem_of_getElem? (i := 27) (by decide +kernel))
theorem wd_28 : (.instanceMethod ⟨"NameForge$Program", "<init>", "()V"⟩ : Cond) ∈ wT := wT_in (tb_0 _ (List.mem_of_getElem? (i := 28) (by decide +kernel))) rfl
theorem wd_29 : (.code ⟨"NameForge$Program", "<init>", "()V"⟩ prog_6_method_1_code 1 none : Cond) ∈ wT := wT_in (tb_0 _ (List.mem_of_getElem? (i := 29) (by decide +kernel))) rfl
theorem wd_30 : (.methodLink "NameForge$Program" 3 ⟨"java/lang/Object", "<init>", "()V"⟩ : Cond) ∈ wT := wT_in (tb_0 _ (List.mem_of_getElem? (i := 30) (by decide +kernel))) rfl
theorem wd_31 : (.classLink "NameForge$Program" 15 "[[I" : Cond) ∈ wT := wT_in (tb_0 _ (List.mem_of_getElem? (i := 31) (by decide +kernel))) rfl
theorem wz_32 : (.arrayOver (.array .int) : Cond) ∈ lw_tbl := tb_0 _ (List.mem_of_getElem? (i := 32) (by decide +kernel))
theorem wd_33 : (.fieldLink "NameForge" 65 "NameForge$Program" "blocks" "I" : Cond) ∈ wT := wT_in (tb_0 _ (List.mem_of_getElem? (i := 33) (by decide +kernel))) rfl
theorem wd_34 : (.fieldLink "NameForge$Program" 41 "NameForge$Program" "blocks" "I" : Cond) ∈ wT := wT_in (tb_0 _ (List.mem_of_getElem? (i := 34) (by decide +kernel))) rfl
theorem wd_39 : (.fieldLink "NameForge$Program" 9 "NameForge$Program" "length" "[I" : Cond) ∈ wT := wT_in (tb_0 _ (List.mem_of_getElem? (i := 39) (by decide +kernel))) rfl
theorem wd_45 : (.fieldLink "NameForge$Program" 17 "NameForge$Program" "kind" "[[I" : Cond) ∈ wT := wT_in (tb_0 _ (List.mem_of_getElem? (i := 45) (by decide +kernel))) rfl
theorem wd_50 : (.fieldLink "NameForge$Program" 20 "NameForge$Program" "d" "[[I" : Cond) ∈ wT := wT_in (tb_0 _ (List.mem_of_getElem? (i := 50) (by decide +kernel))) rfl
theorem wd_53 : (.fieldLink "NameForge$Program" 23 "NameForge$Program" "x" "[[I" : Cond) ∈ wT := wT_in (tb_0 _ (List.mem_of_getElem? (i := 53) (by decide +kernel))) rfl
theorem wd_57 : (.fieldLink "NameForge$Program" 26 "NameForge$Program" "y" "[[I" : Cond) ∈ wT := wT_in (tb_0 _ (List.mem_of_getElem? (i := 57) (by decide +kernel))) rfl
theorem wd_60 : (.fieldLink "NameForge$Program" 29 "NameForge$Program" "end" "[I" : Cond) ∈ wT := wT_in (tb_0 _ (List.mem_of_getElem? (i := 60) (by decide +kernel))) rfl
theorem wd_63 : (.fieldLink "NameForge$Program" 32 "NameForge$Program" "test" "[I" : Cond) ∈ wT := wT_in (tb_0 _ (List.mem_of_getElem? (i := 63) (by decide +kernel))) rfl
theorem wd_66 : (.fieldLink "NameForge$Program" 35 "NameForge$Program" "yes" "[I" : Cond) ∈ wT := wT_in (tb_0 _ (List.mem_of_getElem? (i := 66) (by decide +kernel))) rfl
theorem wd_69 : (.fieldLink "NameForge$Program" 38 "NameForge$Program" "no" "[I" : Cond) ∈ wT := wT_in (tb_0 _ (List.mem_of_getElem? (i := 69) (by decide +kernel))) rfl
theorem wd_72 : (.lays "NameForge$Program" "NameForge$Program" "blocks" "I" : Cond) ∈ wT := wT_in (tb_0 _ (List.mem_of_getElem? (i := 72) (by decide +kernel))) rfl
theorem wd_74 : (.laysFinal "NameForge$Program" "NameForge$Program" "length" "[I" : Cond) ∈ wT := wT_in (tb_0 _ (List.mem_of_getElem? (i := 74) (by decide +kernel))) rfl
theorem wd_76 : (.laysFinal "NameForge$Program" "NameForge$Program" "kind" "[[I" : Cond) ∈ wT := wT_in (tb_0 _ (List.mem_of_getElem? (i := 76) (by decide +kernel))) rfl
theorem wd_78 : (.laysFinal "NameForge$Program" "NameForge$Program" "d" "[[I" : Cond) ∈ wT := wT_in (tb_0 _ (List.mem_of_getElem? (i := 78) (by decide +kernel))) rfl
theorem wd_80 : (.laysFinal "NameForge$Program" "NameForge$Program" "x" "[[I" : Cond) ∈ wT := wT_in (tb_0 _ (List.mem_of_getElem? (i := 80) (by decide +kernel))) rfl
theorem wd_82 : (.laysFinal "NameForge$Program" "NameForge$Program" "y" "[[I" : Cond) ∈ wT := wT_in (tb_0 _ (List.mem_of_getElem? (i := 82) (by decide +kernel))) rfl
theorem wd_84 : (.laysFinal "NameForge$Program" "NameForge$Program" "end" "[I" : Cond) ∈ wT := wT_in (tb_0 _ (List.mem_of_getElem? (i := 84) (by decide +kernel))) rfl
theorem wd_86 : (.laysFinal "NameForge$Program" "NameForge$Program" "test" "[I" : Cond) ∈ wT := wT_in (tb_0 _ (List.mem_of_getElem? (i := 86) (by decide +kernel))) rfl
theorem wd_88 : (.laysFinal "NameForge$Program" "NameForge$Program" "yes" "[I" : Cond) ∈ wT := wT_in (tb_0 _ (List.mem_of_getElem? (i := 88) (by decide +kernel))) rfl
theorem wd_90 : (.laysFinal "NameForge$Program" "NameForge$Program" "no" "[I" : Cond) ∈ wT := wT_in (tb_0 _ (List.mem_of_getElem? (i := 90) (by decide +kernel))) rfl
theorem wd_93 : (.arrayClass .int : Cond) ∈ wT := wT_in (tb_0 _ (List.mem_of_getElem? (i := 93) (by decide +kernel))) rfl
theorem wd_94 : (.classLink "NameForge" 16 "NameForge$Shape" : Cond) ∈ wT := wT_in (tb_0 _ (List.mem_of_getElem? (i := 94) (by decide +kernel))) rfl
theorem wd_95 : (.instantiable "NameForge$Shape" 9 : Cond) ∈ wT := wT_in (tb_0 _ (List.mem_of_getElem? (i := 95) (by decide +kernel))) rfl
theorem wd_96 : (.methodLink "NameForge" 18 ⟨"NameForge$Shape", "<init>", "(LNameForge$Program;)V"⟩ : Cond) ∈ wT := wT_in (tb_0 _ (List.mem_of_getElem? (i := 96) (by decide +kernel))) rfl
theorem wd_97 : (.instanceMethod ⟨"NameForge$Shape", "<init>", "(LNameForge$Program;)V"⟩ : Cond) ∈ wT := wT_in (tb_0 _ (List.mem_of_getElem? (i := 97) (by decide +kernel))) rfl
theorem wd_98 : (.code ⟨"NameForge$Shape", "<init>", "(LNameForge$Program;)V"⟩ prog_7_method_1_code 2 none : Cond) ∈ wT := wT_in (tb_0 _ (List.mem_of_getElem? (i := 98) (by decide +kernel))) rfl
theorem wd_99 : (.methodLink "NameForge$Shape" 3 ⟨"java/lang/Object", "<init>", "()V"⟩ : Cond) ∈ wT := wT_in (tb_0 _ (List.mem_of_getElem? (i := 99) (by decide +kernel))) rfl
theorem wd_100 : (.fieldLink "NameForge$Shape" 30 "NameForge$Shape" "program" "LNameForge$Program;" : Cond) ∈ wT := wT_in (tb_0 _ (List.mem_of_getElem? (i := 100) (by decide +kernel))) rfl
theorem wd_103 : (.fieldLink "NameForge$Shape" 9 "NameForge$Shape" "before" "[I" : Cond) ∈ wT := wT_in (tb_0 _ (List.mem_of_getElem? (i := 103) (by decide +kernel))) rfl
theorem wd_105 : (.fieldLink "NameForge$Shape" 15 "NameForge$Shape" "under" "[I" : Cond) ∈ wT := wT_in (tb_0 _ (List.mem_of_getElem? (i := 105) (by decide +kernel))) rfl
theorem wd_106 : (.fieldLink "NameForge$Shape" 18 "NameForge$Shape" "parent" "[I" : Cond) ∈ wT := wT_in (tb_0 _ (List.mem_of_getElem? (i := 106) (by decide +kernel))) rfl
theorem wd_109 : (.fieldLink "NameForge$Shape" 21 "NameForge$Shape" "frontier" "[I" : Cond) ∈ wT := wT_in (tb_0 _ (List.mem_of_getElem? (i := 109) (by decide +kernel))) rfl
theorem wd_111 : (.fieldLink "NameForge$Shape" 24 "NameForge$Shape" "order" "[I" : Cond) ∈ wT := wT_in (tb_0 _ (List.mem_of_getElem? (i := 111) (by decide +kernel))) rfl
theorem wd_117 : (.fieldLink "NameForge$Shape" 27 "NameForge$Shape" "waiting" "[I" : Cond) ∈ wT := wT_in (tb_0 _ (List.mem_of_getElem? (i := 117) (by decide +kernel))) rfl
theorem wd_118 : (.laysFinal "NameForge$Shape" "NameForge$Shape" "program" "LNameForge$Program;" : Cond) ∈ wT := wT_in (tb_0 _ (List.mem_of_getElem? (i := 118) (by decide +kernel))) rfl
theorem wd_120 : (.lays "NameForge$Shape" "NameForge$Shape" "reached" "I" : Cond) ∈ wT := wT_in (tb_0 _ (List.mem_of_getElem? (i := 120) (by decide +kernel))) rfl
theorem wd_122 : (.laysFinal "NameForge$Shape" "NameForge$Shape" "before" "[I" : Cond) ∈ wT := wT_in (tb_0 _ (List.mem_of_getElem? (i := 122) (by decide +kernel))) rfl
theorem wd_124 : (.laysFinal "NameForge$Shape" "NameForge$Shape" "under" "[I" : Cond) ∈ wT := wT_in (tb_0 _ (List.mem_of_getElem? (i := 124) (by decide +kernel))) rfl
theorem wd_126 : (.laysFinal "NameForge$Shape" "NameForge$Shape" "parent" "[I" : Cond) ∈ wT := wT_in (tb_0 _ (List.mem_of_getElem? (i := 126) (by decide +kernel))) rfl
theorem wd_128 : (.laysFinal "NameForge$Shape" "NameForge$Shape" "frontier" "[I" : Cond) ∈ wT := wT_in (tb_0 _ (List.mem_of_getElem? (i := 128) (by decide +kernel))) rfl
theorem wd_130 : (.laysFinal "NameForge$Shape" "NameForge$Shape" "order" "[I" : Cond) ∈ wT := wT_in (tb_0 _ (List.mem_of_getElem? (i := 130) (by decide +kernel))) rfl
theorem wd_132 : (.lays "NameForge$Shape" "NameForge$Shape" "ordered" "I" : Cond) ∈ wT := wT_in (tb_0 _ (List.mem_of_getElem? (i := 132) (by decide +kernel))) rfl
theorem wd_134 : (.laysFinal "NameForge$Shape" "NameForge$Shape" "waiting" "[I" : Cond) ∈ wT := wT_in (tb_0 _ (List.mem_of_getElem? (i := 134) (by decide +kernel))) rfl
theorem wd_137 : (.classLink "NameForge" 25 "NameForge$Naming" : Cond) ∈ wT := wT_in (tb_0 _ (List.mem_of_getElem? (i := 137) (by decide +kernel))) rfl
theorem wd_138 : (.instantiable "NameForge$Naming" 14 : Cond) ∈ wT := wT_in (tb_0 _ (List.mem_of_getElem? (i := 138) (by decide +kernel))) rfl
theorem wd_139 : (.methodLink "NameForge" 27 ⟨"NameForge$Naming", "<init>", "(LNameForge$Program;LNameForge$Shape;)V"⟩ : Cond) ∈ wT := wT_in (tb_0 _ (List.mem_of_getElem? (i := 139) (by decide +kernel))) rfl
theorem wd_140 : (.instanceMethod ⟨"NameForge$Naming", "<init>", "(LNameForge$Program;LNameForge$Shape;)V"⟩ : Cond) ∈ wT := wT_in (tb_0 _ (List.mem_of_getElem? (i := 140) (by decide +kernel))) rfl
theorem wd_141 : (.code ⟨"NameForge$Naming", "<init>", "(LNameForge$Program;LNameForge$Shape;)V"⟩ prog_4_method_1_code 3 none : Cond) ∈ wT := wT_in (tb_0 _ (List.mem_of_getElem? (i := 141) (by decide +kernel))) rfl
theorem wd_142 : (.methodLink "NameForge$Naming" 3 ⟨"java/lang/Object", "<init>", "()V"⟩ : Cond) ∈ wT := wT_in (tb_0 _ (List.mem_of_getElem? (i := 142) (by decide +kernel))) rfl
theorem wd_143 : (.classLink "NameForge$Naming" 18 "[[I" : Cond) ∈ wT := wT_in (tb_0 _ (List.mem_of_getElem? (i := 143) (by decide +kernel))) rfl
theorem wd_144 : (.fieldLink "NameForge$Naming" 47 "NameForge$Naming" "program" "LNameForge$Program;" : Cond) ∈ wT := wT_in (tb_0 _ (List.mem_of_getElem? (i := 144) (by decide +kernel))) rfl
theorem wd_145 : (.fieldLink "NameForge$Naming" 51 "NameForge$Naming" "shape" "LNameForge$Shape;" : Cond) ∈ wT := wT_in (tb_0 _ (List.mem_of_getElem? (i := 145) (by decide +kernel))) rfl
theorem wd_148 : (.fieldLink "NameForge$Naming" 9 "NameForge$Naming" "phis" "[I" : Cond) ∈ wT := wT_in (tb_0 _ (List.mem_of_getElem? (i := 148) (by decide +kernel))) rfl
theorem wd_152 : (.fieldLink "NameForge$Naming" 15 "NameForge$Naming" "defined" "[I" : Cond) ∈ wT := wT_in (tb_0 _ (List.mem_of_getElem? (i := 152) (by decide +kernel))) rfl
theorem wd_153 : (.fieldLink "NameForge$Naming" 20 "NameForge$Naming" "phiName" "[[I" : Cond) ∈ wT := wT_in (tb_0 _ (List.mem_of_getElem? (i := 153) (by decide +kernel))) rfl
theorem wd_157 : (.fieldLink "NameForge$Naming" 23 "NameForge$Naming" "atEnd" "[[I" : Cond) ∈ wT := wT_in (tb_0 _ (List.mem_of_getElem? (i := 157) (by decide +kernel))) rfl
theorem wd_162 : (.fieldLink "NameForge$Naming" 26 "NameForge$Naming" "made" "[[I" : Cond) ∈ wT := wT_in (tb_0 _ (List.mem_of_getElem? (i := 162) (by decide +kernel))) rfl
theorem wd_167 : (.fieldLink "NameForge$Naming" 29 "NameForge$Naming" "usedX" "[[I" : Cond) ∈ wT := wT_in (tb_0 _ (List.mem_of_getElem? (i := 167) (by decide +kernel))) rfl
theorem wd_172 : (.fieldLink "NameForge$Naming" 32 "NameForge$Naming" "usedY" "[[I" : Cond) ∈ wT := wT_in (tb_0 _ (List.mem_of_getElem? (i := 172) (by decide +kernel))) rfl
theorem wd_177 : (.fieldLink "NameForge$Naming" 35 "NameForge$Naming" "tested" "[I" : Cond) ∈ wT := wT_in (tb_0 _ (List.mem_of_getElem? (i := 177) (by decide +kernel))) rfl
theorem wd_182 : (.fieldLink "NameForge$Naming" 38 "NameForge$Naming" "home" "[I" : Cond) ∈ wT := wT_in (tb_0 _ (List.mem_of_getElem? (i := 182) (by decide +kernel))) rfl
theorem wd_185 : (.fieldLink "NameForge$Naming" 41 "NameForge$Naming" "row" "[I" : Cond) ∈ wT := wT_in (tb_0 _ (List.mem_of_getElem? (i := 185) (by decide +kernel))) rfl
theorem wd_187 : (.fieldLink "NameForge$Naming" 44 "NameForge$Naming" "variable" "[I" : Cond) ∈ wT := wT_in (tb_0 _ (List.mem_of_getElem? (i := 187) (by decide +kernel))) rfl
theorem wd_189 : (.laysFinal "NameForge$Naming" "NameForge$Naming" "program" "LNameForge$Program;" : Cond) ∈ wT := wT_in (tb_0 _ (List.mem_of_getElem? (i := 189) (by decide +kernel))) rfl
theorem wd_191 : (.laysFinal "NameForge$Naming" "NameForge$Naming" "shape" "LNameForge$Shape;" : Cond) ∈ wT := wT_in (tb_0 _ (List.mem_of_getElem? (i := 191) (by decide +kernel))) rfl
theorem wd_193 : (.lays "NameForge$Naming" "NameForge$Naming" "names" "I" : Cond) ∈ wT := wT_in (tb_0 _ (List.mem_of_getElem? (i := 193) (by decide +kernel))) rfl
theorem wd_195 : (.laysFinal "NameForge$Naming" "NameForge$Naming" "phis" "[I" : Cond) ∈ wT := wT_in (tb_0 _ (List.mem_of_getElem? (i := 195) (by decide +kernel))) rfl
theorem wd_197 : (.laysFinal "NameForge$Naming" "NameForge$Naming" "defined" "[I" : Cond) ∈ wT := wT_in (tb_0 _ (List.mem_of_getElem? (i := 197) (by decide +kernel))) rfl
theorem wd_199 : (.laysFinal "NameForge$Naming" "NameForge$Naming" "phiName" "[[I" : Cond) ∈ wT := wT_in (tb_0 _ (List.mem_of_getElem? (i := 199) (by decide +kernel))) rfl
theorem wd_201 : (.laysFinal "NameForge$Naming" "NameForge$Naming" "atEnd" "[[I" : Cond) ∈ wT := wT_in (tb_0 _ (List.mem_of_getElem? (i := 201) (by decide +kernel))) rfl
theorem wd_203 : (.laysFinal "NameForge$Naming" "NameForge$Naming" "made" "[[I" : Cond) ∈ wT := wT_in (tb_0 _ (List.mem_of_getElem? (i := 203) (by decide +kernel))) rfl
theorem wd_205 : (.laysFinal "NameForge$Naming" "NameForge$Naming" "usedX" "[[I" : Cond) ∈ wT := wT_in (tb_0 _ (List.mem_of_getElem? (i := 205) (by decide +kernel))) rfl
theorem wd_207 : (.laysFinal "NameForge$Naming" "NameForge$Naming" "usedY" "[[I" : Cond) ∈ wT := wT_in (tb_0 _ (List.mem_of_getElem? (i := 207) (by decide +kernel))) rfl
theorem wd_209 : (.laysFinal "NameForge$Naming" "NameForge$Naming" "tested" "[I" : Cond) ∈ wT := wT_in (tb_0 _ (List.mem_of_getElem? (i := 209) (by decide +kernel))) rfl
theorem wd_211 : (.laysFinal "NameForge$Naming" "NameForge$Naming" "home" "[I" : Cond) ∈ wT := wT_in (tb_0 _ (List.mem_of_getElem? (i := 211) (by decide +kernel))) rfl
theorem wd_213 : (.laysFinal "NameForge$Naming" "NameForge$Naming" "row" "[I" : Cond) ∈ wT := wT_in (tb_0 _ (List.mem_of_getElem? (i := 213) (by decide +kernel))) rfl
theorem wd_215 : (.laysFinal "NameForge$Naming" "NameForge$Naming" "variable" "[I" : Cond) ∈ wT := wT_in (tb_0 _ (List.mem_of_getElem? (i := 215) (by decide +kernel))) rfl
theorem wd_218 : (.classLink "NameForge" 34 "NameForge$Known" : Cond) ∈ wT := wT_in (tb_0 _ (List.mem_of_getElem? (i := 218) (by decide +kernel))) rfl
theorem wd_219 : (.instantiable "NameForge$Known" 8 : Cond) ∈ wT := wT_in (tb_0 _ (List.mem_of_getElem? (i := 219) (by decide +kernel))) rfl
theorem wd_220 : (.methodLink "NameForge" 36 ⟨"NameForge$Known", "<init>", "(LNameForge$Program;LNameForge$Shape;LNameForge$Naming;)V"⟩ : Cond) ∈ wT := wT_in (tb_0 _ (List.mem_of_getElem? (i := 220) (by decide +kernel))) rfl
theorem wd_221 : (.instanceMethod ⟨"NameForge$Known", "<init>", "(LNameForge$Program;LNameForge$Shape;LNameForge$Naming;)V"⟩ : Cond) ∈ wT := wT_in (tb_0 _ (List.mem_of_getElem? (i := 221) (by decide +kernel))) rfl
theorem wd_222 : (.code ⟨"NameForge$Known", "<init>", "(LNameForge$Program;LNameForge$Shape;LNameForge$Naming;)V"⟩ prog_2_method_1_code 4 none : Cond) ∈ wT := wT_in (tb_0 _ (List.mem_of_getElem? (i := 222) (by decide +kernel))) rfl
theorem wd_223 : (.methodLink "NameForge$Known" 3 ⟨"java/lang/Object", "<init>", "()V"⟩ : Cond) ∈ wT := wT_in (tb_0 _ (List.mem_of_getElem? (i := 223) (by decide +kernel))) rfl
theorem wd_224 : (.fieldLink "NameForge$Known" 21 "NameForge$Known" "program" "LNameForge$Program;" : Cond) ∈ wT := wT_in (tb_0 _ (List.mem_of_getElem? (i := 224) (by decide +kernel))) rfl
theorem wd_225 : (.fieldLink "NameForge$Known" 25 "NameForge$Known" "shape" "LNameForge$Shape;" : Cond) ∈ wT := wT_in (tb_0 _ (List.mem_of_getElem? (i := 225) (by decide +kernel))) rfl
theorem wd_226 : (.fieldLink "NameForge$Known" 29 "NameForge$Known" "naming" "LNameForge$Naming;" : Cond) ∈ wT := wT_in (tb_0 _ (List.mem_of_getElem? (i := 226) (by decide +kernel))) rfl
theorem wd_230 : (.fieldLink "NameForge$Known" 9 "NameForge$Known" "taken" "[I" : Cond) ∈ wT := wT_in (tb_0 _ (List.mem_of_getElem? (i := 230) (by decide +kernel))) rfl
theorem wd_231 : (.fieldLink "NameForge$Known" 15 "NameForge$Known" "state" "[I" : Cond) ∈ wT := wT_in (tb_0 _ (List.mem_of_getElem? (i := 231) (by decide +kernel))) rfl
theorem wd_235 : (.fieldLink "NameForge$Known" 18 "NameForge$Known" "number" "[I" : Cond) ∈ wT := wT_in (tb_0 _ (List.mem_of_getElem? (i := 235) (by decide +kernel))) rfl
theorem wd_239 : (.laysFinal "NameForge$Known" "NameForge$Known" "program" "LNameForge$Program;" : Cond) ∈ wT := wT_in (tb_0 _ (List.mem_of_getElem? (i := 239) (by decide +kernel))) rfl
theorem wd_241 : (.laysFinal "NameForge$Known" "NameForge$Known" "shape" "LNameForge$Shape;" : Cond) ∈ wT := wT_in (tb_1 _ (List.mem_of_getElem? (i := 1) (by decide +kernel))) rfl
theorem wd_243 : (.laysFinal "NameForge$Known" "NameForge$Known" "naming" "LNameForge$Naming;" : Cond) ∈ wT := wT_in (tb_1 _ (List.mem_of_getElem? (i := 3) (by decide +kernel))) rfl
theorem wd_245 : (.lays "NameForge$Known" "NameForge$Known" "comeTo" "I" : Cond) ∈ wT := wT_in (tb_1 _ (List.mem_of_getElem? (i := 5) (by decide +kernel))) rfl
theorem wd_247 : (.laysFinal "NameForge$Known" "NameForge$Known" "taken" "[I" : Cond) ∈ wT := wT_in (tb_1 _ (List.mem_of_getElem? (i := 7) (by decide +kernel))) rfl
theorem wd_249 : (.laysFinal "NameForge$Known" "NameForge$Known" "state" "[I" : Cond) ∈ wT := wT_in (tb_1 _ (List.mem_of_getElem? (i := 9) (by decide +kernel))) rfl
theorem wd_251 : (.laysFinal "NameForge$Known" "NameForge$Known" "number" "[I" : Cond) ∈ wT := wT_in (tb_1 _ (List.mem_of_getElem? (i := 11) (by decide +kernel))) rfl
theorem wd_253 : (.lays "NameForge$Known" "NameForge$Known" "changed" "Z" : Cond) ∈ wT := wT_in (tb_1 _ (List.mem_of_getElem? (i := 13) (by decide +kernel))) rfl
theorem wd_256 : (.classLink "NameForge" 43 "NameForge$Needed" : Cond) ∈ wT := wT_in (tb_1 _ (List.mem_of_getElem? (i := 16) (by decide +kernel))) rfl
theorem wd_257 : (.instantiable "NameForge$Needed" 6 : Cond) ∈ wT := wT_in (tb_1 _ (List.mem_of_getElem? (i := 17) (by decide +kernel))) rfl
theorem wd_258 : (.methodLink "NameForge" 45 ⟨"NameForge$Needed", "<init>", "(LNameForge$Program;LNameForge$Naming;LNameForge$Known;)V"⟩ : Cond) ∈ wT := wT_in (tb_1 _ (List.mem_of_getElem? (i := 18) (by decide +kernel))) rfl
theorem wd_259 : (.instanceMethod ⟨"NameForge$Needed", "<init>", "(LNameForge$Program;LNameForge$Naming;LNameForge$Known;)V"⟩ : Cond) ∈ wT := wT_in (tb_1 _ (List.mem_of_getElem? (i := 19) (by decide +kernel))) rfl
theorem wd_260 : (.code ⟨"NameForge$Needed", "<init>", "(LNameForge$Program;LNameForge$Naming;LNameForge$Known;)V"⟩ prog_5_method_1_code 4 none : Cond) ∈ wT := wT_in (tb_1 _ (List.mem_of_getElem? (i := 20) (by decide +kernel))) rfl
theorem wd_261 : (.methodLink "NameForge$Needed" 3 ⟨"java/lang/Object", "<init>", "()V"⟩ : Cond) ∈ wT := wT_in (tb_1 _ (List.mem_of_getElem? (i := 21) (by decide +kernel))) rfl
theorem wd_262 : (.fieldLink "NameForge$Needed" 19 "NameForge$Needed" "program" "LNameForge$Program;" : Cond) ∈ wT := wT_in (tb_1 _ (List.mem_of_getElem? (i := 22) (by decide +kernel))) rfl
theorem wd_263 : (.fieldLink "NameForge$Needed" 23 "NameForge$Needed" "naming" "LNameForge$Naming;" : Cond) ∈ wT := wT_in (tb_1 _ (List.mem_of_getElem? (i := 23) (by decide +kernel))) rfl
theorem wd_264 : (.fieldLink "NameForge$Needed" 27 "NameForge$Needed" "known" "LNameForge$Known;" : Cond) ∈ wT := wT_in (tb_1 _ (List.mem_of_getElem? (i := 24) (by decide +kernel))) rfl
theorem wd_265 : (.fieldLink "NameForge$Needed" 9 "NameForge$Needed" "isNeeded" "[Z" : Cond) ∈ wT := wT_in (tb_1 _ (List.mem_of_getElem? (i := 25) (by decide +kernel))) rfl
theorem wd_268 : (.fieldLink "NameForge$Needed" 15 "NameForge$Needed" "list" "[I" : Cond) ∈ wT := wT_in (tb_1 _ (List.mem_of_getElem? (i := 28) (by decide +kernel))) rfl
theorem wd_270 : (.laysFinal "NameForge$Needed" "NameForge$Needed" "program" "LNameForge$Program;" : Cond) ∈ wT := wT_in (tb_1 _ (List.mem_of_getElem? (i := 30) (by decide +kernel))) rfl
theorem wd_272 : (.laysFinal "NameForge$Needed" "NameForge$Needed" "naming" "LNameForge$Naming;" : Cond) ∈ wT := wT_in (tb_1 _ (List.mem_of_getElem? (i := 32) (by decide +kernel))) rfl
theorem wd_274 : (.laysFinal "NameForge$Needed" "NameForge$Needed" "known" "LNameForge$Known;" : Cond) ∈ wT := wT_in (tb_1 _ (List.mem_of_getElem? (i := 34) (by decide +kernel))) rfl
theorem wd_276 : (.laysFinal "NameForge$Needed" "NameForge$Needed" "isNeeded" "[Z" : Cond) ∈ wT := wT_in (tb_1 _ (List.mem_of_getElem? (i := 36) (by decide +kernel))) rfl
theorem wd_278 : (.laysFinal "NameForge$Needed" "NameForge$Needed" "list" "[I" : Cond) ∈ wT := wT_in (tb_1 _ (List.mem_of_getElem? (i := 38) (by decide +kernel))) rfl
theorem wd_280 : (.lays "NameForge$Needed" "NameForge$Needed" "listed" "I" : Cond) ∈ wT := wT_in (tb_1 _ (List.mem_of_getElem? (i := 40) (by decide +kernel))) rfl
theorem wd_283 : (.arrayClass .boolean : Cond) ∈ wT := wT_in (tb_1 _ (List.mem_of_getElem? (i := 43) (by decide +kernel))) rfl
theorem wd_284 : (.classLink "NameForge" 52 "NameForge$Machine" : Cond) ∈ wT := wT_in (tb_1 _ (List.mem_of_getElem? (i := 44) (by decide +kernel))) rfl
theorem wd_285 : (.instantiable "NameForge$Machine" 14 : Cond) ∈ wT := wT_in (tb_1 _ (List.mem_of_getElem? (i := 45) (by decide +kernel))) rfl
theorem wd_286 : (.methodLink "NameForge" 54 ⟨"NameForge$Machine", "<init>", "(LNameForge$Program;LNameForge$Naming;LNameForge$Known;LNameForge$Needed;)V"⟩ : Cond) ∈ wT := wT_in (tb_1 _ (List.mem_of_getElem? (i := 46) (by decide +kernel))) rfl
theorem wd_287 : (.instanceMethod ⟨"NameForge$Machine", "<init>", "(LNameForge$Program;LNameForge$Naming;LNameForge$Known;LNameForge$Needed;)V"⟩ : Cond) ∈ wT := wT_in (tb_1 _ (List.mem_of_getElem? (i := 47) (by decide +kernel))) rfl
theorem wd_288 : (.code ⟨"NameForge$Machine", "<init>", "(LNameForge$Program;LNameForge$Naming;LNameForge$Known;LNameForge$Needed;)V"⟩ prog_3_method_1_code 5 none : Cond) ∈ wT := wT_in (tb_1 _ (List.mem_of_getElem? (i := 48) (by decide +kernel))) rfl
theorem wd_289 : (.methodLink "NameForge$Machine" 3 ⟨"java/lang/Object", "<init>", "()V"⟩ : Cond) ∈ wT := wT_in (tb_1 _ (List.mem_of_getElem? (i := 49) (by decide +kernel))) rfl
theorem wd_290 : (.fieldLink "NameForge$Machine" 27 "NameForge$Machine" "program" "LNameForge$Program;" : Cond) ∈ wT := wT_in (tb_1 _ (List.mem_of_getElem? (i := 50) (by decide +kernel))) rfl
theorem wd_291 : (.fieldLink "NameForge$Machine" 31 "NameForge$Machine" "naming" "LNameForge$Naming;" : Cond) ∈ wT := wT_in (tb_1 _ (List.mem_of_getElem? (i := 51) (by decide +kernel))) rfl
theorem wd_292 : (.fieldLink "NameForge$Machine" 35 "NameForge$Machine" "known" "LNameForge$Known;" : Cond) ∈ wT := wT_in (tb_1 _ (List.mem_of_getElem? (i := 52) (by decide +kernel))) rfl
theorem wd_293 : (.fieldLink "NameForge$Machine" 39 "NameForge$Machine" "needed" "LNameForge$Needed;" : Cond) ∈ wT := wT_in (tb_1 _ (List.mem_of_getElem? (i := 53) (by decide +kernel))) rfl
theorem wd_294 : (.fieldLink "NameForge$Machine" 43 "NameForge$Machine" "inputs" "I" : Cond) ∈ wT := wT_in (tb_1 _ (List.mem_of_getElem? (i := 54) (by decide +kernel))) rfl
theorem wd_295 : (.fieldLink "NameForge" 216 "NameForge$Machine" "inputs" "I" : Cond) ∈ wT := wT_in (tb_1 _ (List.mem_of_getElem? (i := 55) (by decide +kernel))) rfl
theorem wd_296 : (.fieldLink "NameForge$Machine" 9 "NameForge$Machine" "input" "[I" : Cond) ∈ wT := wT_in (tb_1 _ (List.mem_of_getElem? (i := 56) (by decide +kernel))) rfl
theorem wd_297 : (.fieldLink "NameForge$Machine" 15 "NameForge$Machine" "ofVariable" "[I" : Cond) ∈ wT := wT_in (tb_1 _ (List.mem_of_getElem? (i := 57) (by decide +kernel))) rfl
theorem wd_298 : (.fieldLink "NameForge$Machine" 18 "NameForge$Machine" "ofName" "[I" : Cond) ∈ wT := wT_in (tb_1 _ (List.mem_of_getElem? (i := 58) (by decide +kernel))) rfl
theorem wd_299 : (.fieldLink "NameForge$Machine" 21 "NameForge$Machine" "chosen" "[I" : Cond) ∈ wT := wT_in (tb_1 _ (List.mem_of_getElem? (i := 59) (by decide +kernel))) rfl
theorem wd_301 : (.fieldLink "NameForge" 225 "NameForge$Machine" "tellings" "I" : Cond) ∈ wT := wT_in (tb_1 _ (List.mem_of_getElem? (i := 61) (by decide +kernel))) rfl
theorem wd_302 : (.fieldLink "NameForge$Machine" 24 "NameForge$Machine" "kept" "[I" : Cond) ∈ wT := wT_in (tb_1 _ (List.mem_of_getElem? (i := 62) (by decide +kernel))) rfl
theorem wd_305 : (.fieldLink "NameForge" 233 "NameForge$Machine" "blocksRun" "I" : Cond) ∈ wT := wT_in (tb_1 _ (List.mem_of_getElem? (i := 65) (by decide +kernel))) rfl
theorem wd_307 : (.fieldLink "NameForge" 236 "NameForge$Machine" "instructionsDone" "I" : Cond) ∈ wT := wT_in (tb_1 _ (List.mem_of_getElem? (i := 67) (by decide +kernel))) rfl
theorem wd_309 : (.fieldLink "NameForge" 239 "NameForge$Machine" "inputsAsked" "I" : Cond) ∈ wT := wT_in (tb_1 _ (List.mem_of_getElem? (i := 69) (by decide +kernel))) rfl
theorem wd_310 : (.laysFinal "NameForge$Machine" "NameForge$Machine" "program" "LNameForge$Program;" : Cond) ∈ wT := wT_in (tb_1 _ (List.mem_of_getElem? (i := 70) (by decide +kernel))) rfl
theorem wd_312 : (.laysFinal "NameForge$Machine" "NameForge$Machine" "naming" "LNameForge$Naming;" : Cond) ∈ wT := wT_in (tb_1 _ (List.mem_of_getElem? (i := 72) (by decide +kernel))) rfl
theorem wd_314 : (.laysFinal "NameForge$Machine" "NameForge$Machine" "known" "LNameForge$Known;" : Cond) ∈ wT := wT_in (tb_1 _ (List.mem_of_getElem? (i := 74) (by decide +kernel))) rfl
theorem wd_316 : (.laysFinal "NameForge$Machine" "NameForge$Machine" "needed" "LNameForge$Needed;" : Cond) ∈ wT := wT_in (tb_1 _ (List.mem_of_getElem? (i := 76) (by decide +kernel))) rfl
theorem wd_318 : (.lays "NameForge$Machine" "NameForge$Machine" "inputs" "I" : Cond) ∈ wT := wT_in (tb_1 _ (List.mem_of_getElem? (i := 78) (by decide +kernel))) rfl
theorem wd_320 : (.laysFinal "NameForge$Machine" "NameForge$Machine" "input" "[I" : Cond) ∈ wT := wT_in (tb_1 _ (List.mem_of_getElem? (i := 80) (by decide +kernel))) rfl
theorem wd_322 : (.laysFinal "NameForge$Machine" "NameForge$Machine" "ofVariable" "[I" : Cond) ∈ wT := wT_in (tb_1 _ (List.mem_of_getElem? (i := 82) (by decide +kernel))) rfl
theorem wd_324 : (.laysFinal "NameForge$Machine" "NameForge$Machine" "ofName" "[I" : Cond) ∈ wT := wT_in (tb_1 _ (List.mem_of_getElem? (i := 84) (by decide +kernel))) rfl
theorem wd_326 : (.laysFinal "NameForge$Machine" "NameForge$Machine" "chosen" "[I" : Cond) ∈ wT := wT_in (tb_1 _ (List.mem_of_getElem? (i := 86) (by decide +kernel))) rfl
theorem wd_328 : (.lays "NameForge$Machine" "NameForge$Machine" "tellings" "I" : Cond) ∈ wT := wT_in (tb_1 _ (List.mem_of_getElem? (i := 88) (by decide +kernel))) rfl
theorem wd_330 : (.laysFinal "NameForge$Machine" "NameForge$Machine" "kept" "[I" : Cond) ∈ wT := wT_in (tb_1 _ (List.mem_of_getElem? (i := 90) (by decide +kernel))) rfl
theorem wd_332 : (.lays "NameForge$Machine" "NameForge$Machine" "blocksRun" "I" : Cond) ∈ wT := wT_in (tb_1 _ (List.mem_of_getElem? (i := 92) (by decide +kernel))) rfl
theorem wd_334 : (.lays "NameForge$Machine" "NameForge$Machine" "instructionsDone" "I" : Cond) ∈ wT := wT_in (tb_1 _ (List.mem_of_getElem? (i := 94) (by decide +kernel))) rfl
theorem wd_336 : (.lays "NameForge$Machine" "NameForge$Machine" "inputsAsked" "I" : Cond) ∈ wT := wT_in (tb_1 _ (List.mem_of_getElem? (i := 96) (by decide +kernel))) rfl
theorem wd_339 : (.fieldLink "NameForge" 12 "NameForge" "program" "LNameForge$Program;" : Cond) ∈ wT := wT_in (tb_1 _ (List.mem_of_getElem? (i := 99) (by decide +kernel))) rfl
theorem wd_340 : (.fieldLink "NameForge" 21 "NameForge" "shape" "LNameForge$Shape;" : Cond) ∈ wT := wT_in (tb_1 _ (List.mem_of_getElem? (i := 100) (by decide +kernel))) rfl
theorem wd_341 : (.fieldLink "NameForge" 30 "NameForge" "naming" "LNameForge$Naming;" : Cond) ∈ wT := wT_in (tb_1 _ (List.mem_of_getElem? (i := 101) (by decide +kernel))) rfl
theorem wd_342 : (.fieldLink "NameForge" 39 "NameForge" "known" "LNameForge$Known;" : Cond) ∈ wT := wT_in (tb_1 _ (List.mem_of_getElem? (i := 102) (by decide +kernel))) rfl
theorem wd_343 : (.fieldLink "NameForge" 48 "NameForge" "needed" "LNameForge$Needed;" : Cond) ∈ wT := wT_in (tb_1 _ (List.mem_of_getElem? (i := 103) (by decide +kernel))) rfl
theorem wd_344 : (.fieldLink "NameForge" 57 "NameForge" "machine" "LNameForge$Machine;" : Cond) ∈ wT := wT_in (tb_1 _ (List.mem_of_getElem? (i := 104) (by decide +kernel))) rfl
theorem wd_345 : (.fieldLink "NameForge" 61 "NameForge" "built" "Z" : Cond) ∈ wT := wT_in (tb_1 _ (List.mem_of_getElem? (i := 105) (by decide +kernel))) rfl
theorem wd_346 : (.laysFinal "NameForge" "NameForge" "program" "LNameForge$Program;" : Cond) ∈ wT := wT_in (tb_1 _ (List.mem_of_getElem? (i := 106) (by decide +kernel))) rfl
theorem wd_348 : (.laysFinal "NameForge" "NameForge" "shape" "LNameForge$Shape;" : Cond) ∈ wT := wT_in (tb_1 _ (List.mem_of_getElem? (i := 108) (by decide +kernel))) rfl
theorem wd_350 : (.laysFinal "NameForge" "NameForge" "naming" "LNameForge$Naming;" : Cond) ∈ wT := wT_in (tb_1 _ (List.mem_of_getElem? (i := 110) (by decide +kernel))) rfl
theorem wd_352 : (.laysFinal "NameForge" "NameForge" "known" "LNameForge$Known;" : Cond) ∈ wT := wT_in (tb_1 _ (List.mem_of_getElem? (i := 112) (by decide +kernel))) rfl
theorem wd_354 : (.laysFinal "NameForge" "NameForge" "needed" "LNameForge$Needed;" : Cond) ∈ wT := wT_in (tb_1 _ (List.mem_of_getElem? (i := 114) (by decide +kernel))) rfl
theorem wd_356 : (.laysFinal "NameForge" "NameForge" "machine" "LNameForge$Machine;" : Cond) ∈ wT := wT_in (tb_1 _ (List.mem_of_getElem? (i := 116) (by decide +kernel))) rfl
theorem wd_358 : (.lays "NameForge" "NameForge" "built" "Z" : Cond) ∈ wT := wT_in (tb_1 _ (List.mem_of_getElem? (i := 118) (by decide +kernel))) rfl
theorem wd_361 : (.methodLink "NameForgeLaw" 89 ⟨"NameForge", "clear", "()V"⟩ : Cond) ∈ wT := wT_in (tb_1 _ (List.mem_of_getElem? (i := 121) (by decide +kernel))) rfl
theorem wd_362 : (.instanceMethod ⟨"NameForge", "clear", "()V"⟩ : Cond) ∈ wT := wT_in (tb_1 _ (List.mem_of_getElem? (i := 122) (by decide +kernel))) rfl
theorem wd_363 : (.selects "NameForge" ⟨"NameForge", "clear", "()V"⟩ ⟨"NameForge", "clear", "()V"⟩ : Cond) ∈ wT := wT_in (tb_1 _ (List.mem_of_getElem? (i := 123) (by decide +kernel))) rfl
theorem wd_364 : (.code ⟨"NameForge", "clear", "()V"⟩ prog_1_method_7_code 1 none : Cond) ∈ wT := wT_in (tb_1 _ (List.mem_of_getElem? (i := 124) (by decide +kernel))) rfl
theorem wd_365 : (.methodLink "NameForgeLaw" 110 ⟨"NameForge", "give", "(I)Z"⟩ : Cond) ∈ wT := wT_in (tb_1 _ (List.mem_of_getElem? (i := 125) (by decide +kernel))) rfl
theorem wd_366 : (.instanceMethod ⟨"NameForge", "give", "(I)Z"⟩ : Cond) ∈ wT := wT_in (tb_1 _ (List.mem_of_getElem? (i := 126) (by decide +kernel))) rfl
theorem wd_367 : (.selects "NameForge" ⟨"NameForge", "give", "(I)Z"⟩ ⟨"NameForge", "give", "(I)Z"⟩ : Cond) ∈ wT := wT_in (tb_1 _ (List.mem_of_getElem? (i := 127) (by decide +kernel))) rfl
theorem wd_368 : (.code ⟨"NameForge", "give", "(I)Z"⟩ prog_1_method_13_code 2 (some .boolean) : Cond) ∈ wT := wT_in (tb_1 _ (List.mem_of_getElem? (i := 128) (by decide +kernel))) rfl
theorem wd_369 : (.methodLink "NameForge" 213 ⟨"NameForge$Machine", "addInput", "(I)Z"⟩ : Cond) ∈ wT := wT_in (tb_1 _ (List.mem_of_getElem? (i := 129) (by decide +kernel))) rfl
theorem wd_370 : (.instanceMethod ⟨"NameForge$Machine", "addInput", "(I)Z"⟩ : Cond) ∈ wT := wT_in (tb_1 _ (List.mem_of_getElem? (i := 130) (by decide +kernel))) rfl
theorem wd_371 : (.selects "NameForge$Machine" ⟨"NameForge$Machine", "addInput", "(I)Z"⟩ ⟨"NameForge$Machine", "addInput", "(I)Z"⟩ : Cond) ∈ wT := wT_in (tb_1 _ (List.mem_of_getElem? (i := 131) (by decide +kernel))) rfl
theorem wd_372 : (.code ⟨"NameForge$Machine", "addInput", "(I)Z"⟩ prog_3_method_2_code 2 (some .boolean) : Cond) ∈ wT := wT_in (tb_1 _ (List.mem_of_getElem? (i := 132) (by decide +kernel))) rfl
theorem wd_373 : (.methodLink "NameForgeLaw" 115 ⟨"NameForge", "take", "()V"⟩ : Cond) ∈ wT := wT_in (tb_1 _ (List.mem_of_getElem? (i := 133) (by decide +kernel))) rfl
theorem wd_374 : (.instanceMethod ⟨"NameForge", "take", "()V"⟩ : Cond) ∈ wT := wT_in (tb_1 _ (List.mem_of_getElem? (i := 134) (by decide +kernel))) rfl
theorem wd_375 : (.selects "NameForge" ⟨"NameForge", "take", "()V"⟩ ⟨"NameForge", "take", "()V"⟩ : Cond) ∈ wT := wT_in (tb_1 _ (List.mem_of_getElem? (i := 135) (by decide +kernel))) rfl
theorem wd_376 : (.code ⟨"NameForge", "take", "()V"⟩ prog_1_method_14_code 1 none : Cond) ∈ wT := wT_in (tb_1 _ (List.mem_of_getElem? (i := 136) (by decide +kernel))) rfl
theorem wd_377 : (.methodLink "NameForgeLaw" 123 ⟨"NameForge", "told", "()I"⟩ : Cond) ∈ wT := wT_in (tb_1 _ (List.mem_of_getElem? (i := 137) (by decide +kernel))) rfl
theorem wd_378 : (.instanceMethod ⟨"NameForge", "told", "()I"⟩ : Cond) ∈ wT := wT_in (tb_1 _ (List.mem_of_getElem? (i := 138) (by decide +kernel))) rfl
theorem wd_379 : (.selects "NameForge" ⟨"NameForge", "told", "()I"⟩ ⟨"NameForge", "told", "()I"⟩ : Cond) ∈ wT := wT_in (tb_1 _ (List.mem_of_getElem? (i := 139) (by decide +kernel))) rfl
theorem wd_380 : (.code ⟨"NameForge", "told", "()I"⟩ prog_1_method_16_code 1 (some .int) : Cond) ∈ wT := wT_in (tb_1 _ (List.mem_of_getElem? (i := 140) (by decide +kernel))) rfl
theorem wd_381 : (.methodLink "NameForgeLaw" 131 ⟨"NameForge", "spent", "(I)I"⟩ : Cond) ∈ wT := wT_in (tb_1 _ (List.mem_of_getElem? (i := 141) (by decide +kernel))) rfl
theorem wd_382 : (.instanceMethod ⟨"NameForge", "spent", "(I)I"⟩ : Cond) ∈ wT := wT_in (tb_1 _ (List.mem_of_getElem? (i := 142) (by decide +kernel))) rfl
theorem wd_383 : (.selects "NameForge" ⟨"NameForge", "spent", "(I)I"⟩ ⟨"NameForge", "spent", "(I)I"⟩ : Cond) ∈ wT := wT_in (tb_1 _ (List.mem_of_getElem? (i := 143) (by decide +kernel))) rfl
theorem wd_384 : (.code ⟨"NameForge", "spent", "(I)I"⟩ prog_1_method_18_code 2 (some .int) : Cond) ∈ wT := wT_in (tb_1 _ (List.mem_of_getElem? (i := 144) (by decide +kernel))) rfl
theorem wd_385 : (.methodLink "NameForgeLaw" 64 ⟨"NameForgeLaw", "block", "(LNameForge;[J)I"⟩ : Cond) ∈ wT := wT_in (tb_1 _ (List.mem_of_getElem? (i := 145) (by decide +kernel))) rfl
theorem wd_386 : (.static ⟨"NameForgeLaw", "block", "(LNameForge;[J)I"⟩ : Cond) ∈ wT := wT_in (tb_1 _ (List.mem_of_getElem? (i := 146) (by decide +kernel))) rfl
theorem wd_387 : (.codeWith ⟨"NameForgeLaw", "block", "(LNameForge;[J)I"⟩ method_3_code 3 (some .int) [(0, 8, 11, 13)] : Cond) ∈ wT := wT_in (tb_1 _ (List.mem_of_getElem? (i := 147) (by decide +kernel))) rfl
theorem wd_388 : (.classLink "NameForgeLaw" 13 "java/lang/IllegalStateException" : Cond) ∈ wT := wT_in (tb_1 _ (List.mem_of_getElem? (i := 148) (by decide +kernel))) rfl
theorem wd_389 : (.methodLink "NameForgeLaw" 7 ⟨"NameForge", "block", "()I"⟩ : Cond) ∈ wT := wT_in (tb_1 _ (List.mem_of_getElem? (i := 149) (by decide +kernel))) rfl
theorem wd_390 : (.instanceMethod ⟨"NameForge", "block", "()I"⟩ : Cond) ∈ wT := wT_in (tb_1 _ (List.mem_of_getElem? (i := 150) (by decide +kernel))) rfl
theorem wd_391 : (.selects "NameForge" ⟨"NameForge", "block", "()I"⟩ ⟨"NameForge", "block", "()I"⟩ : Cond) ∈ wT := wT_in (tb_1 _ (List.mem_of_getElem? (i := 151) (by decide +kernel))) rfl
theorem wd_392 : (.code ⟨"NameForge", "block", "()I"⟩ prog_1_method_2_code 1 (some .int) : Cond) ∈ wT := wT_in (tb_1 _ (List.mem_of_getElem? (i := 152) (by decide +kernel))) rfl
theorem wd_393 : (.classLink "NameForge" 69 "java/lang/IllegalStateException" : Cond) ∈ wT := wT_in (tb_1 _ (List.mem_of_getElem? (i := 153) (by decide +kernel))) rfl
theorem wd_394 : (.instantiable "java/lang/IllegalStateException" 6 : Cond) ∈ wT := wT_in (tb_1 _ (List.mem_of_getElem? (i := 154) (by decide +kernel))) rfl
theorem wz_395 : (.castable "java/lang/IllegalStateException" "java/lang/IllegalStateException" : Cond) ∈ lw_tbl := tb_1 _ (List.mem_of_getElem? (i := 155) (by decide +kernel))
theorem wz_396 : (.declares ⟨"java/lang/RuntimeException", "<init>", "()V"⟩ : Cond) ∈ lw_tbl := tb_1 _ (List.mem_of_getElem? (i := 156) (by decide +kernel))
theorem wz_397 : (.declares ⟨"java/lang/RuntimeException", "<init>", "(Ljava/lang/String;)V"⟩ : Cond) ∈ lw_tbl := tb_1 _ (List.mem_of_getElem? (i := 157) (by decide +kernel))
theorem wz_398 : (.declares ⟨"java/lang/Exception", "<init>", "()V"⟩ : Cond) ∈ lw_tbl := tb_1 _ (List.mem_of_getElem? (i := 158) (by decide +kernel))
theorem wz_399 : (.declares ⟨"java/lang/Exception", "<init>", "(Ljava/lang/String;)V"⟩ : Cond) ∈ lw_tbl := tb_1 _ (List.mem_of_getElem? (i := 159) (by decide +kernel))
theorem wz_400 : (.declares ⟨"java/lang/Throwable", "<init>", "()V"⟩ : Cond) ∈ lw_tbl := tb_1 _ (List.mem_of_getElem? (i := 160) (by decide +kernel))
theorem wz_401 : (.declares ⟨"java/lang/Throwable", "<init>", "(Ljava/lang/String;)V"⟩ : Cond) ∈ lw_tbl := tb_1 _ (List.mem_of_getElem? (i := 161) (by decide +kernel))
theorem wz_420 : (.laysStatic "java/lang/Throwable" "UNASSIGNED_STACK" "[Ljava/lang/StackTraceElement;" : Cond) ∈ lw_tbl := tb_1 _ (List.mem_of_getElem? (i := 180) (by decide +kernel))
theorem wz_422 : (.laysStatic "java/lang/Throwable" "SUPPRESSED_SENTINEL" "Ljava/util/List;" : Cond) ∈ lw_tbl := tb_1 _ (List.mem_of_getElem? (i := 182) (by decide +kernel))
theorem wd_461 : (.methodLink "NameForge" 76 ⟨"NameForge$Program", "addBlock", "()I"⟩ : Cond) ∈ wT := wT_in (tb_1 _ (List.mem_of_getElem? (i := 221) (by decide +kernel))) rfl
theorem wd_462 : (.instanceMethod ⟨"NameForge$Program", "addBlock", "()I"⟩ : Cond) ∈ wT := wT_in (tb_1 _ (List.mem_of_getElem? (i := 222) (by decide +kernel))) rfl
theorem wd_463 : (.selects "NameForge$Program" ⟨"NameForge$Program", "addBlock", "()I"⟩ ⟨"NameForge$Program", "addBlock", "()I"⟩ : Cond) ∈ wT := wT_in (tb_1 _ (List.mem_of_getElem? (i := 223) (by decide +kernel))) rfl
theorem wd_464 : (.code ⟨"NameForge$Program", "addBlock", "()I"⟩ prog_6_method_4_code 2 (some .int) : Cond) ∈ wT := wT_in (tb_1 _ (List.mem_of_getElem? (i := 224) (by decide +kernel))) rfl
theorem wd_465 : (.methodLink "NameForge$Program" 49 ⟨"NameForge$Program", "setEnd", "(IIIII)V"⟩ : Cond) ∈ wT := wT_in (tb_1 _ (List.mem_of_getElem? (i := 225) (by decide +kernel))) rfl
theorem wd_466 : (.instanceMethod ⟨"NameForge$Program", "setEnd", "(IIIII)V"⟩ : Cond) ∈ wT := wT_in (tb_1 _ (List.mem_of_getElem? (i := 226) (by decide +kernel))) rfl
theorem wd_467 : (.selects "NameForge$Program" ⟨"NameForge$Program", "setEnd", "(IIIII)V"⟩ ⟨"NameForge$Program", "setEnd", "(IIIII)V"⟩ : Cond) ∈ wT := wT_in (tb_1 _ (List.mem_of_getElem? (i := 227) (by decide +kernel))) rfl
theorem wd_468 : (.code ⟨"NameForge$Program", "setEnd", "(IIIII)V"⟩ prog_6_method_6_code 6 none : Cond) ∈ wT := wT_in (tb_1 _ (List.mem_of_getElem? (i := 228) (by decide +kernel))) rfl
theorem wd_469 : (.methodLink "NameForgeLaw" 73 ⟨"NameForgeLaw", "put", "(LNameForge;IIIII[J)I"⟩ : Cond) ∈ wT := wT_in (tb_1 _ (List.mem_of_getElem? (i := 229) (by decide +kernel))) rfl
theorem wd_470 : (.static ⟨"NameForgeLaw", "put", "(LNameForge;IIIII[J)I"⟩ : Cond) ∈ wT := wT_in (tb_1 _ (List.mem_of_getElem? (i := 230) (by decide +kernel))) rfl
theorem wd_471 : (.codeWith ⟨"NameForgeLaw", "put", "(LNameForge;IIIII[J)I"⟩ method_4_code 8 (some .int) [(0, 16, 19, 19), (0, 16, 23, 13)] : Cond) ∈ wT := wT_in (tb_1 _ (List.mem_of_getElem? (i := 231) (by decide +kernel))) rfl
theorem wd_472 : (.classLink "NameForgeLaw" 19 "java/lang/IllegalArgumentException" : Cond) ∈ wT := wT_in (tb_1 _ (List.mem_of_getElem? (i := 232) (by decide +kernel))) rfl
theorem wd_473 : (.methodLink "NameForgeLaw" 15 ⟨"NameForge", "put", "(IIIII)I"⟩ : Cond) ∈ wT := wT_in (tb_1 _ (List.mem_of_getElem? (i := 233) (by decide +kernel))) rfl
theorem wd_474 : (.instanceMethod ⟨"NameForge", "put", "(IIIII)I"⟩ : Cond) ∈ wT := wT_in (tb_1 _ (List.mem_of_getElem? (i := 234) (by decide +kernel))) rfl
theorem wd_475 : (.selects "NameForge" ⟨"NameForge", "put", "(IIIII)I"⟩ ⟨"NameForge", "put", "(IIIII)I"⟩ : Cond) ∈ wT := wT_in (tb_1 _ (List.mem_of_getElem? (i := 235) (by decide +kernel))) rfl
theorem wd_476 : (.code ⟨"NameForge", "put", "(IIIII)I"⟩ prog_1_method_3_code 6 (some .int) : Cond) ∈ wT := wT_in (tb_1 _ (List.mem_of_getElem? (i := 236) (by decide +kernel))) rfl
theorem wd_477 : (.methodLink "NameForge" 80 ⟨"NameForge$Program", "has", "(I)Z"⟩ : Cond) ∈ wT := wT_in (tb_1 _ (List.mem_of_getElem? (i := 237) (by decide +kernel))) rfl
theorem wd_478 : (.instanceMethod ⟨"NameForge$Program", "has", "(I)Z"⟩ : Cond) ∈ wT := wT_in (tb_1 _ (List.mem_of_getElem? (i := 238) (by decide +kernel))) rfl
theorem wd_479 : (.selects "NameForge$Program" ⟨"NameForge$Program", "has", "(I)Z"⟩ ⟨"NameForge$Program", "has", "(I)Z"⟩ : Cond) ∈ wT := wT_in (tb_1 _ (List.mem_of_getElem? (i := 239) (by decide +kernel))) rfl
theorem wd_480 : (.code ⟨"NameForge$Program", "has", "(I)Z"⟩ prog_6_method_2_code 2 (some .boolean) : Cond) ∈ wT := wT_in (tb_2 _ (List.mem_of_getElem? (i := 0) (by decide +kernel))) rfl
theorem wd_496 : (.classLink "NameForge" 88 "java/lang/IllegalArgumentException" : Cond) ∈ wT := wT_in (tb_2 _ (List.mem_of_getElem? (i := 16) (by decide +kernel))) rfl
theorem wd_497 : (.instantiable "java/lang/IllegalArgumentException" 6 : Cond) ∈ wT := wT_in (tb_2 _ (List.mem_of_getElem? (i := 17) (by decide +kernel))) rfl
theorem wz_498 : (.castable "java/lang/IllegalArgumentException" "java/lang/IllegalArgumentException" : Cond) ∈ lw_tbl := tb_2 _ (List.mem_of_getElem? (i := 18) (by decide +kernel))
theorem wz_505 : (.stringRef "NameForge" 90 "no such block, kind or variable" : Cond) ∈ lw_tbl := tb_2 _ (List.mem_of_getElem? (i := 25) (by decide +kernel))
theorem wd_517 : (.methodLink "NameForgeLaw" 77 ⟨"NameForgeLaw", "go", "(LNameForge;II)I"⟩ : Cond) ∈ wT := wT_in (tb_2 _ (List.mem_of_getElem? (i := 37) (by decide +kernel))) rfl
theorem wd_518 : (.static ⟨"NameForgeLaw", "go", "(LNameForge;II)I"⟩ : Cond) ∈ wT := wT_in (tb_2 _ (List.mem_of_getElem? (i := 38) (by decide +kernel))) rfl
theorem wd_519 : (.codeWith ⟨"NameForgeLaw", "go", "(LNameForge;II)I"⟩ method_5_code 4 (some .int) [(0, 6, 9, 19)] : Cond) ∈ wT := wT_in (tb_2 _ (List.mem_of_getElem? (i := 39) (by decide +kernel))) rfl
theorem wd_520 : (.methodLink "NameForgeLaw" 21 ⟨"NameForge", "go", "(II)V"⟩ : Cond) ∈ wT := wT_in (tb_2 _ (List.mem_of_getElem? (i := 40) (by decide +kernel))) rfl
theorem wd_521 : (.instanceMethod ⟨"NameForge", "go", "(II)V"⟩ : Cond) ∈ wT := wT_in (tb_2 _ (List.mem_of_getElem? (i := 41) (by decide +kernel))) rfl
theorem wd_522 : (.selects "NameForge" ⟨"NameForge", "go", "(II)V"⟩ ⟨"NameForge", "go", "(II)V"⟩ : Cond) ∈ wT := wT_in (tb_2 _ (List.mem_of_getElem? (i := 42) (by decide +kernel))) rfl
theorem wd_523 : (.code ⟨"NameForge", "go", "(II)V"⟩ prog_1_method_4_code 3 none : Cond) ∈ wT := wT_in (tb_2 _ (List.mem_of_getElem? (i := 43) (by decide +kernel))) rfl
theorem wz_529 : (.stringRef "NameForge" 106 "no such block, or none to go to" : Cond) ∈ lw_tbl := tb_2 _ (List.mem_of_getElem? (i := 49) (by decide +kernel))
theorem wd_531 : (.methodLink "NameForgeLaw" 81 ⟨"NameForgeLaw", "fork", "(LNameForge;IIII)I"⟩ : Cond) ∈ wT := wT_in (tb_2 _ (List.mem_of_getElem? (i := 51) (by decide +kernel))) rfl
theorem wd_532 : (.static ⟨"NameForgeLaw", "fork", "(LNameForge;IIII)I"⟩ : Cond) ∈ wT := wT_in (tb_2 _ (List.mem_of_getElem? (i := 52) (by decide +kernel))) rfl
theorem wd_533 : (.codeWith ⟨"NameForgeLaw", "fork", "(LNameForge;IIII)I"⟩ method_6_code 6 (some .int) [(0, 9, 12, 19)] : Cond) ∈ wT := wT_in (tb_2 _ (List.mem_of_getElem? (i := 53) (by decide +kernel))) rfl
theorem wd_534 : (.methodLink "NameForgeLaw" 25 ⟨"NameForge", "fork", "(IIII)V"⟩ : Cond) ∈ wT := wT_in (tb_2 _ (List.mem_of_getElem? (i := 54) (by decide +kernel))) rfl
theorem wd_535 : (.instanceMethod ⟨"NameForge", "fork", "(IIII)V"⟩ : Cond) ∈ wT := wT_in (tb_2 _ (List.mem_of_getElem? (i := 55) (by decide +kernel))) rfl
theorem wd_536 : (.selects "NameForge" ⟨"NameForge", "fork", "(IIII)V"⟩ ⟨"NameForge", "fork", "(IIII)V"⟩ : Cond) ∈ wT := wT_in (tb_2 _ (List.mem_of_getElem? (i := 56) (by decide +kernel))) rfl
theorem wd_537 : (.code ⟨"NameForge", "fork", "(IIII)V"⟩ prog_1_method_5_code 5 none : Cond) ∈ wT := wT_in (tb_2 _ (List.mem_of_getElem? (i := 57) (by decide +kernel))) rfl
theorem wz_538 : (.stringRef "NameForge" 115 "no such block or variable, or none to go to" : Cond) ∈ lw_tbl := tb_2 _ (List.mem_of_getElem? (i := 58) (by decide +kernel))
theorem wd_539 : (.methodLink "NameForgeLaw" 85 ⟨"NameForgeLaw", "stop", "(LNameForge;I)I"⟩ : Cond) ∈ wT := wT_in (tb_2 _ (List.mem_of_getElem? (i := 59) (by decide +kernel))) rfl
theorem wd_540 : (.static ⟨"NameForgeLaw", "stop", "(LNameForge;I)I"⟩ : Cond) ∈ wT := wT_in (tb_2 _ (List.mem_of_getElem? (i := 60) (by decide +kernel))) rfl
theorem wd_541 : (.codeWith ⟨"NameForgeLaw", "stop", "(LNameForge;I)I"⟩ method_7_code 3 (some .int) [(0, 5, 8, 19)] : Cond) ∈ wT := wT_in (tb_2 _ (List.mem_of_getElem? (i := 61) (by decide +kernel))) rfl
theorem wd_542 : (.methodLink "NameForgeLaw" 29 ⟨"NameForge", "stop", "(I)V"⟩ : Cond) ∈ wT := wT_in (tb_2 _ (List.mem_of_getElem? (i := 62) (by decide +kernel))) rfl
theorem wd_543 : (.instanceMethod ⟨"NameForge", "stop", "(I)V"⟩ : Cond) ∈ wT := wT_in (tb_2 _ (List.mem_of_getElem? (i := 63) (by decide +kernel))) rfl
theorem wd_544 : (.selects "NameForge" ⟨"NameForge", "stop", "(I)V"⟩ ⟨"NameForge", "stop", "(I)V"⟩ : Cond) ∈ wT := wT_in (tb_2 _ (List.mem_of_getElem? (i := 64) (by decide +kernel))) rfl
theorem wd_545 : (.code ⟨"NameForge", "stop", "(I)V"⟩ prog_1_method_6_code 2 none : Cond) ∈ wT := wT_in (tb_2 _ (List.mem_of_getElem? (i := 65) (by decide +kernel))) rfl
theorem wz_546 : (.stringRef "NameForge" 117 "no such block" : Cond) ∈ lw_tbl := tb_2 _ (List.mem_of_getElem? (i := 66) (by decide +kernel))
theorem wd_547 : (.methodLink "NameForgeLaw" 93 ⟨"NameForgeLaw", "build", "(LNameForge;[J)I"⟩ : Cond) ∈ wT := wT_in (tb_2 _ (List.mem_of_getElem? (i := 67) (by decide +kernel))) rfl
theorem wd_548 : (.static ⟨"NameForgeLaw", "build", "(LNameForge;[J)I"⟩ : Cond) ∈ wT := wT_in (tb_2 _ (List.mem_of_getElem? (i := 68) (by decide +kernel))) rfl
theorem wd_549 : (.codeWith ⟨"NameForgeLaw", "build", "(LNameForge;[J)I"⟩ method_8_code 3 (some .int) [(0, 8, 11, 13)] : Cond) ∈ wT := wT_in (tb_2 _ (List.mem_of_getElem? (i := 69) (by decide +kernel))) rfl
theorem wd_550 : (.methodLink "NameForgeLaw" 33 ⟨"NameForge", "build", "()I"⟩ : Cond) ∈ wT := wT_in (tb_2 _ (List.mem_of_getElem? (i := 70) (by decide +kernel))) rfl
theorem wd_551 : (.instanceMethod ⟨"NameForge", "build", "()I"⟩ : Cond) ∈ wT := wT_in (tb_2 _ (List.mem_of_getElem? (i := 71) (by decide +kernel))) rfl
theorem wd_552 : (.selects "NameForge" ⟨"NameForge", "build", "()I"⟩ ⟨"NameForge", "build", "()I"⟩ : Cond) ∈ wT := wT_in (tb_2 _ (List.mem_of_getElem? (i := 72) (by decide +kernel))) rfl
theorem wd_553 : (.code ⟨"NameForge", "build", "()I"⟩ prog_1_method_8_code 1 (some .int) : Cond) ∈ wT := wT_in (tb_2 _ (List.mem_of_getElem? (i := 73) (by decide +kernel))) rfl
theorem wz_554 : (.stringRef "NameForge" 119 "there is no block" : Cond) ∈ lw_tbl := tb_2 _ (List.mem_of_getElem? (i := 74) (by decide +kernel))
theorem wd_688 : (.methodLink "NameForgeLaw" 96 ⟨"NameForgeLaw", "look", "(LNameForge;II[J)I"⟩ : Cond) ∈ wT := wT_in (tb_2 _ (List.mem_of_getElem? (i := 208) (by decide +kernel))) rfl
theorem wd_689 : (.static ⟨"NameForgeLaw", "look", "(LNameForge;II[J)I"⟩ : Cond) ∈ wT := wT_in (tb_2 _ (List.mem_of_getElem? (i := 209) (by decide +kernel))) rfl
theorem wd_690 : (.codeWith ⟨"NameForgeLaw", "look", "(LNameForge;II[J)I"⟩ method_9_code 5 (some .int) [(0, 10, 13, 40), (0, 10, 17, 13)] : Cond) ∈ wT := wT_in (tb_2 _ (List.mem_of_getElem? (i := 210) (by decide +kernel))) rfl
theorem wd_691 : (.classLink "NameForgeLaw" 40 "java/util/NoSuchElementException" : Cond) ∈ wT := wT_in (tb_2 _ (List.mem_of_getElem? (i := 211) (by decide +kernel))) rfl
theorem wd_692 : (.methodLink "NameForgeLaw" 36 ⟨"NameForge", "look", "(II)I"⟩ : Cond) ∈ wT := wT_in (tb_2 _ (List.mem_of_getElem? (i := 212) (by decide +kernel))) rfl
theorem wd_693 : (.instanceMethod ⟨"NameForge", "look", "(II)I"⟩ : Cond) ∈ wT := wT_in (tb_2 _ (List.mem_of_getElem? (i := 213) (by decide +kernel))) rfl
theorem wd_694 : (.selects "NameForge" ⟨"NameForge", "look", "(II)I"⟩ ⟨"NameForge", "look", "(II)I"⟩ : Cond) ∈ wT := wT_in (tb_2 _ (List.mem_of_getElem? (i := 214) (by decide +kernel))) rfl
theorem wd_695 : (.code ⟨"NameForge", "look", "(II)I"⟩ prog_1_method_9_code 3 (some .int) : Cond) ∈ wT := wT_in (tb_2 _ (List.mem_of_getElem? (i := 215) (by decide +kernel))) rfl
theorem wd_696 : (.classLink "NameForge" 136 "java/util/NoSuchElementException" : Cond) ∈ wT := wT_in (tb_2 _ (List.mem_of_getElem? (i := 216) (by decide +kernel))) rfl
theorem wd_697 : (.instantiable "java/util/NoSuchElementException" 6 : Cond) ∈ wT := wT_in (tb_2 _ (List.mem_of_getElem? (i := 217) (by decide +kernel))) rfl
theorem wz_698 : (.castable "java/util/NoSuchElementException" "java/util/NoSuchElementException" : Cond) ∈ lw_tbl := tb_2 _ (List.mem_of_getElem? (i := 218) (by decide +kernel))
theorem wz_705 : (.stringRef "NameForge" 138 "no such block or what" : Cond) ∈ lw_tbl := tb_2 _ (List.mem_of_getElem? (i := 225) (by decide +kernel))
theorem wz_712 : (.stringRef "NameForge" 141 "it is not built" : Cond) ∈ lw_tbl := tb_2 _ (List.mem_of_getElem? (i := 232) (by decide +kernel))
theorem wd_720 : (.methodLink "NameForgeLaw" 100 ⟨"NameForgeLaw", "phi", "(LNameForge;III[J)I"⟩ : Cond) ∈ wT := wT_in (tb_3 _ (List.mem_of_getElem? (i := 0) (by decide +kernel))) rfl
theorem wd_721 : (.static ⟨"NameForgeLaw", "phi", "(LNameForge;III[J)I"⟩ : Cond) ∈ wT := wT_in (tb_3 _ (List.mem_of_getElem? (i := 1) (by decide +kernel))) rfl
theorem wd_722 : (.codeWith ⟨"NameForgeLaw", "phi", "(LNameForge;III[J)I"⟩ method_10_code 6 (some .int) [(0, 12, 15, 40), (0, 12, 19, 13)] : Cond) ∈ wT := wT_in (tb_3 _ (List.mem_of_getElem? (i := 2) (by decide +kernel))) rfl
theorem wd_723 : (.methodLink "NameForgeLaw" 42 ⟨"NameForge", "phi", "(III)I"⟩ : Cond) ∈ wT := wT_in (tb_3 _ (List.mem_of_getElem? (i := 3) (by decide +kernel))) rfl
theorem wd_724 : (.instanceMethod ⟨"NameForge", "phi", "(III)I"⟩ : Cond) ∈ wT := wT_in (tb_3 _ (List.mem_of_getElem? (i := 4) (by decide +kernel))) rfl
theorem wd_725 : (.selects "NameForge" ⟨"NameForge", "phi", "(III)I"⟩ ⟨"NameForge", "phi", "(III)I"⟩ : Cond) ∈ wT := wT_in (tb_3 _ (List.mem_of_getElem? (i := 5) (by decide +kernel))) rfl
theorem wd_726 : (.code ⟨"NameForge", "phi", "(III)I"⟩ prog_1_method_10_code 5 (some .int) : Cond) ∈ wT := wT_in (tb_3 _ (List.mem_of_getElem? (i := 6) (by decide +kernel))) rfl
theorem wd_736 : (.methodLink "NameForgeLaw" 104 ⟨"NameForgeLaw", "uses", "(LNameForge;III[J)I"⟩ : Cond) ∈ wT := wT_in (tb_3 _ (List.mem_of_getElem? (i := 16) (by decide +kernel))) rfl
theorem wd_737 : (.static ⟨"NameForgeLaw", "uses", "(LNameForge;III[J)I"⟩ : Cond) ∈ wT := wT_in (tb_3 _ (List.mem_of_getElem? (i := 17) (by decide +kernel))) rfl
theorem wd_738 : (.codeWith ⟨"NameForgeLaw", "uses", "(LNameForge;III[J)I"⟩ method_11_code 6 (some .int) [(0, 12, 15, 40), (0, 12, 19, 13)] : Cond) ∈ wT := wT_in (tb_3 _ (List.mem_of_getElem? (i := 18) (by decide +kernel))) rfl
theorem wd_739 : (.methodLink "NameForgeLaw" 46 ⟨"NameForge", "uses", "(III)I"⟩ : Cond) ∈ wT := wT_in (tb_3 _ (List.mem_of_getElem? (i := 19) (by decide +kernel))) rfl
theorem wd_740 : (.instanceMethod ⟨"NameForge", "uses", "(III)I"⟩ : Cond) ∈ wT := wT_in (tb_3 _ (List.mem_of_getElem? (i := 20) (by decide +kernel))) rfl
theorem wd_741 : (.selects "NameForge" ⟨"NameForge", "uses", "(III)I"⟩ ⟨"NameForge", "uses", "(III)I"⟩ : Cond) ∈ wT := wT_in (tb_3 _ (List.mem_of_getElem? (i := 21) (by decide +kernel))) rfl
theorem wd_742 : (.code ⟨"NameForge", "uses", "(III)I"⟩ prog_1_method_11_code 4 (some .int) : Cond) ∈ wT := wT_in (tb_3 _ (List.mem_of_getElem? (i := 22) (by decide +kernel))) rfl
theorem wd_748 : (.methodLink "NameForgeLaw" 107 ⟨"NameForgeLaw", "name", "(LNameForge;II[J)I"⟩ : Cond) ∈ wT := wT_in (tb_3 _ (List.mem_of_getElem? (i := 28) (by decide +kernel))) rfl
theorem wd_749 : (.static ⟨"NameForgeLaw", "name", "(LNameForge;II[J)I"⟩ : Cond) ∈ wT := wT_in (tb_3 _ (List.mem_of_getElem? (i := 29) (by decide +kernel))) rfl
theorem wd_750 : (.codeWith ⟨"NameForgeLaw", "name", "(LNameForge;II[J)I"⟩ method_12_code 5 (some .int) [(0, 10, 13, 40), (0, 10, 17, 13)] : Cond) ∈ wT := wT_in (tb_3 _ (List.mem_of_getElem? (i := 30) (by decide +kernel))) rfl
theorem wd_751 : (.methodLink "NameForgeLaw" 49 ⟨"NameForge", "name", "(II)I"⟩ : Cond) ∈ wT := wT_in (tb_3 _ (List.mem_of_getElem? (i := 31) (by decide +kernel))) rfl
theorem wd_752 : (.instanceMethod ⟨"NameForge", "name", "(II)I"⟩ : Cond) ∈ wT := wT_in (tb_3 _ (List.mem_of_getElem? (i := 32) (by decide +kernel))) rfl
theorem wd_753 : (.selects "NameForge" ⟨"NameForge", "name", "(II)I"⟩ ⟨"NameForge", "name", "(II)I"⟩ : Cond) ∈ wT := wT_in (tb_3 _ (List.mem_of_getElem? (i := 33) (by decide +kernel))) rfl
theorem wd_754 : (.code ⟨"NameForge", "name", "(II)I"⟩ prog_1_method_12_code 3 (some .int) : Cond) ∈ wT := wT_in (tb_3 _ (List.mem_of_getElem? (i := 34) (by decide +kernel))) rfl
theorem wd_756 : (.methodLink "NameForgeLaw" 119 ⟨"NameForgeLaw", "run", "(LNameForge;ZI[J)I"⟩ : Cond) ∈ wT := wT_in (tb_3 _ (List.mem_of_getElem? (i := 36) (by decide +kernel))) rfl
theorem wd_757 : (.static ⟨"NameForgeLaw", "run", "(LNameForge;ZI[J)I"⟩ : Cond) ∈ wT := wT_in (tb_3 _ (List.mem_of_getElem? (i := 37) (by decide +kernel))) rfl
theorem wd_758 : (.codeWith ⟨"NameForgeLaw", "run", "(LNameForge;ZI[J)I"⟩ method_13_code 5 (some .int) [(0, 10, 13, 19), (0, 10, 17, 13)] : Cond) ∈ wT := wT_in (tb_3 _ (List.mem_of_getElem? (i := 38) (by decide +kernel))) rfl
theorem wd_759 : (.methodLink "NameForgeLaw" 52 ⟨"NameForge", "run", "(ZI)I"⟩ : Cond) ∈ wT := wT_in (tb_3 _ (List.mem_of_getElem? (i := 39) (by decide +kernel))) rfl
theorem wd_760 : (.instanceMethod ⟨"NameForge", "run", "(ZI)I"⟩ : Cond) ∈ wT := wT_in (tb_3 _ (List.mem_of_getElem? (i := 40) (by decide +kernel))) rfl
theorem wd_761 : (.selects "NameForge" ⟨"NameForge", "run", "(ZI)I"⟩ ⟨"NameForge", "run", "(ZI)I"⟩ : Cond) ∈ wT := wT_in (tb_3 _ (List.mem_of_getElem? (i := 41) (by decide +kernel))) rfl
theorem wd_762 : (.code ⟨"NameForge", "run", "(ZI)I"⟩ prog_1_method_15_code 3 (some .int) : Cond) ∈ wT := wT_in (tb_3 _ (List.mem_of_getElem? (i := 42) (by decide +kernel))) rfl
theorem wz_763 : (.stringRef "NameForge" 219 "steps are 0 to 200" : Cond) ∈ lw_tbl := tb_3 _ (List.mem_of_getElem? (i := 43) (by decide +kernel))
theorem wd_814 : (.methodLink "NameForgeLaw" 127 ⟨"NameForgeLaw", "heard", "(LNameForge;I[J)I"⟩ : Cond) ∈ wT := wT_in (tb_3 _ (List.mem_of_getElem? (i := 94) (by decide +kernel))) rfl
theorem wd_815 : (.static ⟨"NameForgeLaw", "heard", "(LNameForge;I[J)I"⟩ : Cond) ∈ wT := wT_in (tb_3 _ (List.mem_of_getElem? (i := 95) (by decide +kernel))) rfl
theorem wd_816 : (.codeWith ⟨"NameForgeLaw", "heard", "(LNameForge;I[J)I"⟩ method_14_code 4 (some .int) [(0, 9, 12, 40)] : Cond) ∈ wT := wT_in (tb_3 _ (List.mem_of_getElem? (i := 96) (by decide +kernel))) rfl
theorem wd_817 : (.methodLink "NameForgeLaw" 56 ⟨"NameForge", "heard", "(I)I"⟩ : Cond) ∈ wT := wT_in (tb_3 _ (List.mem_of_getElem? (i := 97) (by decide +kernel))) rfl
theorem wd_818 : (.instanceMethod ⟨"NameForge", "heard", "(I)I"⟩ : Cond) ∈ wT := wT_in (tb_3 _ (List.mem_of_getElem? (i := 98) (by decide +kernel))) rfl
theorem wd_819 : (.selects "NameForge" ⟨"NameForge", "heard", "(I)I"⟩ ⟨"NameForge", "heard", "(I)I"⟩ : Cond) ∈ wT := wT_in (tb_3 _ (List.mem_of_getElem? (i := 99) (by decide +kernel))) rfl
theorem wd_820 : (.code ⟨"NameForge", "heard", "(I)I"⟩ prog_1_method_17_code 2 (some .int) : Cond) ∈ wT := wT_in (tb_3 _ (List.mem_of_getElem? (i := 100) (by decide +kernel))) rfl
theorem wz_821 : (.stringRef "NameForge" 228 "not kept" : Cond) ∈ lw_tbl := tb_3 _ (List.mem_of_getElem? (i := 101) (by decide +kernel))
theorem wd_822 : (.classLink "NameForgeLaw" 61 "NameForgeModel" : Cond) ∈ wT := wT_in (tb_3 _ (List.mem_of_getElem? (i := 102) (by decide +kernel))) rfl
theorem wd_823 : (.instantiable "NameForgeModel" 41 : Cond) ∈ wT := wT_in (tb_3 _ (List.mem_of_getElem? (i := 103) (by decide +kernel))) rfl
theorem wd_824 : (.methodLink "NameForgeLaw" 63 ⟨"NameForgeModel", "<init>", "()V"⟩ : Cond) ∈ wT := wT_in (tb_3 _ (List.mem_of_getElem? (i := 104) (by decide +kernel))) rfl
theorem wd_825 : (.instanceMethod ⟨"NameForgeModel", "<init>", "()V"⟩ : Cond) ∈ wT := wT_in (tb_3 _ (List.mem_of_getElem? (i := 105) (by decide +kernel))) rfl
theorem wd_826 : (.code ⟨"NameForgeModel", "<init>", "()V"⟩ prog_9_method_1_code 1 none : Cond) ∈ wT := wT_in (tb_3 _ (List.mem_of_getElem? (i := 106) (by decide +kernel))) rfl
theorem wd_827 : (.methodLink "NameForgeModel" 1 ⟨"java/lang/Object", "<init>", "()V"⟩ : Cond) ∈ wT := wT_in (tb_3 _ (List.mem_of_getElem? (i := 107) (by decide +kernel))) rfl
theorem wd_828 : (.fieldLink "NameForgeModel" 101 "NameForgeModel" "thrown" "I" : Cond) ∈ wT := wT_in (tb_3 _ (List.mem_of_getElem? (i := 108) (by decide +kernel))) rfl
theorem wd_829 : (.fieldLink "NameForgeModel" 105 "NameForgeModel" "blocks" "I" : Cond) ∈ wT := wT_in (tb_3 _ (List.mem_of_getElem? (i := 109) (by decide +kernel))) rfl
theorem wd_830 : (.fieldLink "NameForgeModel" 7 "NameForgeModel" "counts" "[I" : Cond) ∈ wT := wT_in (tb_3 _ (List.mem_of_getElem? (i := 110) (by decide +kernel))) rfl
theorem wd_831 : (.fieldLink "NameForgeModel" 13 "NameForgeModel" "kinds" "[I" : Cond) ∈ wT := wT_in (tb_3 _ (List.mem_of_getElem? (i := 111) (by decide +kernel))) rfl
theorem wd_832 : (.fieldLink "NameForgeModel" 16 "NameForgeModel" "targets" "[I" : Cond) ∈ wT := wT_in (tb_3 _ (List.mem_of_getElem? (i := 112) (by decide +kernel))) rfl
theorem wd_833 : (.fieldLink "NameForgeModel" 19 "NameForgeModel" "firsts" "[I" : Cond) ∈ wT := wT_in (tb_3 _ (List.mem_of_getElem? (i := 113) (by decide +kernel))) rfl
theorem wd_834 : (.fieldLink "NameForgeModel" 22 "NameForgeModel" "seconds" "[I" : Cond) ∈ wT := wT_in (tb_3 _ (List.mem_of_getElem? (i := 114) (by decide +kernel))) rfl
theorem wd_835 : (.fieldLink "NameForgeModel" 25 "NameForgeModel" "ends" "[I" : Cond) ∈ wT := wT_in (tb_3 _ (List.mem_of_getElem? (i := 115) (by decide +kernel))) rfl
theorem wd_836 : (.fieldLink "NameForgeModel" 28 "NameForgeModel" "tests" "[I" : Cond) ∈ wT := wT_in (tb_3 _ (List.mem_of_getElem? (i := 116) (by decide +kernel))) rfl
theorem wd_837 : (.fieldLink "NameForgeModel" 31 "NameForgeModel" "thens" "[I" : Cond) ∈ wT := wT_in (tb_3 _ (List.mem_of_getElem? (i := 117) (by decide +kernel))) rfl
theorem wd_838 : (.fieldLink "NameForgeModel" 34 "NameForgeModel" "elses" "[I" : Cond) ∈ wT := wT_in (tb_3 _ (List.mem_of_getElem? (i := 118) (by decide +kernel))) rfl
theorem wd_839 : (.fieldLink "NameForgeModel" 112 "NameForgeModel" "built" "Z" : Cond) ∈ wT := wT_in (tb_3 _ (List.mem_of_getElem? (i := 119) (by decide +kernel))) rfl
theorem wd_841 : (.fieldLink "NameForgeModel" 37 "NameForgeModel" "over" "[I" : Cond) ∈ wT := wT_in (tb_3 _ (List.mem_of_getElem? (i := 121) (by decide +kernel))) rfl
theorem wd_842 : (.fieldLink "NameForgeModel" 40 "NameForgeModel" "before" "[I" : Cond) ∈ wT := wT_in (tb_3 _ (List.mem_of_getElem? (i := 122) (by decide +kernel))) rfl
theorem wd_843 : (.fieldLink "NameForgeModel" 43 "NameForgeModel" "parent" "[I" : Cond) ∈ wT := wT_in (tb_3 _ (List.mem_of_getElem? (i := 123) (by decide +kernel))) rfl
theorem wd_844 : (.fieldLink "NameForgeModel" 46 "NameForgeModel" "phis" "[I" : Cond) ∈ wT := wT_in (tb_3 _ (List.mem_of_getElem? (i := 124) (by decide +kernel))) rfl
theorem wd_846 : (.fieldLink "NameForgeModel" 49 "NameForgeModel" "blockOf" "[I" : Cond) ∈ wT := wT_in (tb_3 _ (List.mem_of_getElem? (i := 126) (by decide +kernel))) rfl
theorem wd_847 : (.fieldLink "NameForgeModel" 52 "NameForgeModel" "madeBy" "[I" : Cond) ∈ wT := wT_in (tb_3 _ (List.mem_of_getElem? (i := 127) (by decide +kernel))) rfl
theorem wd_848 : (.fieldLink "NameForgeModel" 55 "NameForgeModel" "phiName" "[I" : Cond) ∈ wT := wT_in (tb_3 _ (List.mem_of_getElem? (i := 128) (by decide +kernel))) rfl
theorem wd_849 : (.fieldLink "NameForgeModel" 58 "NameForgeModel" "sets" "[I" : Cond) ∈ wT := wT_in (tb_3 _ (List.mem_of_getElem? (i := 129) (by decide +kernel))) rfl
theorem wd_850 : (.fieldLink "NameForgeModel" 61 "NameForgeModel" "usesX" "[I" : Cond) ∈ wT := wT_in (tb_3 _ (List.mem_of_getElem? (i := 130) (by decide +kernel))) rfl
theorem wd_851 : (.fieldLink "NameForgeModel" 64 "NameForgeModel" "usesY" "[I" : Cond) ∈ wT := wT_in (tb_3 _ (List.mem_of_getElem? (i := 131) (by decide +kernel))) rfl
theorem wd_852 : (.fieldLink "NameForgeModel" 67 "NameForgeModel" "testName" "[I" : Cond) ∈ wT := wT_in (tb_3 _ (List.mem_of_getElem? (i := 132) (by decide +kernel))) rfl
theorem wd_853 : (.fieldLink "NameForgeModel" 70 "NameForgeModel" "atEnd" "[I" : Cond) ∈ wT := wT_in (tb_3 _ (List.mem_of_getElem? (i := 133) (by decide +kernel))) rfl
theorem wd_854 : (.fieldLink "NameForgeModel" 73 "NameForgeModel" "walk" "[I" : Cond) ∈ wT := wT_in (tb_3 _ (List.mem_of_getElem? (i := 134) (by decide +kernel))) rfl
theorem wd_856 : (.fieldLink "NameForgeModel" 76 "NameForgeModel" "taken" "[I" : Cond) ∈ wT := wT_in (tb_3 _ (List.mem_of_getElem? (i := 136) (by decide +kernel))) rfl
theorem wd_857 : (.fieldLink "NameForgeModel" 79 "NameForgeModel" "state" "[I" : Cond) ∈ wT := wT_in (tb_3 _ (List.mem_of_getElem? (i := 137) (by decide +kernel))) rfl
theorem wd_858 : (.fieldLink "NameForgeModel" 82 "NameForgeModel" "number" "[I" : Cond) ∈ wT := wT_in (tb_3 _ (List.mem_of_getElem? (i := 138) (by decide +kernel))) rfl
theorem wd_859 : (.fieldLink "NameForgeModel" 85 "NameForgeModel" "needed" "[Z" : Cond) ∈ wT := wT_in (tb_3 _ (List.mem_of_getElem? (i := 139) (by decide +kernel))) rfl
theorem wd_860 : (.fieldLink "NameForgeModel" 217 "NameForgeModel" "given" "I" : Cond) ∈ wT := wT_in (tb_3 _ (List.mem_of_getElem? (i := 140) (by decide +kernel))) rfl
theorem wd_861 : (.fieldLink "NameForgeModel" 89 "NameForgeModel" "input" "[I" : Cond) ∈ wT := wT_in (tb_3 _ (List.mem_of_getElem? (i := 141) (by decide +kernel))) rfl
theorem wd_862 : (.fieldLink "NameForgeModel" 223 "NameForgeModel" "asked" "I" : Cond) ∈ wT := wT_in (tb_3 _ (List.mem_of_getElem? (i := 142) (by decide +kernel))) rfl
theorem wd_863 : (.fieldLink "NameForgeModel" 220 "NameForgeModel" "told" "I" : Cond) ∈ wT := wT_in (tb_3 _ (List.mem_of_getElem? (i := 143) (by decide +kernel))) rfl
theorem wd_864 : (.fieldLink "NameForgeModel" 92 "NameForgeModel" "heard" "[I" : Cond) ∈ wT := wT_in (tb_3 _ (List.mem_of_getElem? (i := 144) (by decide +kernel))) rfl
theorem wd_865 : (.fieldLink "NameForgeModel" 242 "NameForgeModel" "ran" "I" : Cond) ∈ wT := wT_in (tb_3 _ (List.mem_of_getElem? (i := 145) (by decide +kernel))) rfl
theorem wd_866 : (.fieldLink "NameForgeModel" 230 "NameForgeModel" "done" "I" : Cond) ∈ wT := wT_in (tb_3 _ (List.mem_of_getElem? (i := 146) (by decide +kernel))) rfl
theorem wd_867 : (.fieldLink "NameForgeModel" 95 "NameForgeModel" "now" "[I" : Cond) ∈ wT := wT_in (tb_3 _ (List.mem_of_getElem? (i := 147) (by decide +kernel))) rfl
theorem wd_868 : (.fieldLink "NameForgeModel" 98 "NameForgeModel" "next" "[I" : Cond) ∈ wT := wT_in (tb_3 _ (List.mem_of_getElem? (i := 148) (by decide +kernel))) rfl
theorem wd_869 : (.lays "NameForgeModel" "NameForgeModel" "thrown" "I" : Cond) ∈ wT := wT_in (tb_3 _ (List.mem_of_getElem? (i := 149) (by decide +kernel))) rfl
theorem wd_871 : (.lays "NameForgeModel" "NameForgeModel" "blocks" "I" : Cond) ∈ wT := wT_in (tb_3 _ (List.mem_of_getElem? (i := 151) (by decide +kernel))) rfl
theorem wd_873 : (.laysFinal "NameForgeModel" "NameForgeModel" "counts" "[I" : Cond) ∈ wT := wT_in (tb_3 _ (List.mem_of_getElem? (i := 153) (by decide +kernel))) rfl
theorem wd_875 : (.laysFinal "NameForgeModel" "NameForgeModel" "kinds" "[I" : Cond) ∈ wT := wT_in (tb_3 _ (List.mem_of_getElem? (i := 155) (by decide +kernel))) rfl
theorem wd_877 : (.laysFinal "NameForgeModel" "NameForgeModel" "targets" "[I" : Cond) ∈ wT := wT_in (tb_3 _ (List.mem_of_getElem? (i := 157) (by decide +kernel))) rfl
theorem wd_879 : (.laysFinal "NameForgeModel" "NameForgeModel" "firsts" "[I" : Cond) ∈ wT := wT_in (tb_3 _ (List.mem_of_getElem? (i := 159) (by decide +kernel))) rfl
theorem wd_881 : (.laysFinal "NameForgeModel" "NameForgeModel" "seconds" "[I" : Cond) ∈ wT := wT_in (tb_3 _ (List.mem_of_getElem? (i := 161) (by decide +kernel))) rfl
theorem wd_883 : (.laysFinal "NameForgeModel" "NameForgeModel" "ends" "[I" : Cond) ∈ wT := wT_in (tb_3 _ (List.mem_of_getElem? (i := 163) (by decide +kernel))) rfl
theorem wd_885 : (.laysFinal "NameForgeModel" "NameForgeModel" "tests" "[I" : Cond) ∈ wT := wT_in (tb_3 _ (List.mem_of_getElem? (i := 165) (by decide +kernel))) rfl
theorem wd_887 : (.laysFinal "NameForgeModel" "NameForgeModel" "thens" "[I" : Cond) ∈ wT := wT_in (tb_3 _ (List.mem_of_getElem? (i := 167) (by decide +kernel))) rfl
theorem wd_889 : (.laysFinal "NameForgeModel" "NameForgeModel" "elses" "[I" : Cond) ∈ wT := wT_in (tb_3 _ (List.mem_of_getElem? (i := 169) (by decide +kernel))) rfl
theorem wd_891 : (.lays "NameForgeModel" "NameForgeModel" "built" "Z" : Cond) ∈ wT := wT_in (tb_3 _ (List.mem_of_getElem? (i := 171) (by decide +kernel))) rfl
theorem wd_893 : (.lays "NameForgeModel" "NameForgeModel" "reached" "I" : Cond) ∈ wT := wT_in (tb_3 _ (List.mem_of_getElem? (i := 173) (by decide +kernel))) rfl
theorem wd_895 : (.laysFinal "NameForgeModel" "NameForgeModel" "over" "[I" : Cond) ∈ wT := wT_in (tb_3 _ (List.mem_of_getElem? (i := 175) (by decide +kernel))) rfl
theorem wd_897 : (.laysFinal "NameForgeModel" "NameForgeModel" "before" "[I" : Cond) ∈ wT := wT_in (tb_3 _ (List.mem_of_getElem? (i := 177) (by decide +kernel))) rfl
theorem wd_899 : (.laysFinal "NameForgeModel" "NameForgeModel" "parent" "[I" : Cond) ∈ wT := wT_in (tb_3 _ (List.mem_of_getElem? (i := 179) (by decide +kernel))) rfl
theorem wd_901 : (.laysFinal "NameForgeModel" "NameForgeModel" "phis" "[I" : Cond) ∈ wT := wT_in (tb_3 _ (List.mem_of_getElem? (i := 181) (by decide +kernel))) rfl
theorem wd_903 : (.lays "NameForgeModel" "NameForgeModel" "names" "I" : Cond) ∈ wT := wT_in (tb_3 _ (List.mem_of_getElem? (i := 183) (by decide +kernel))) rfl
theorem wd_905 : (.laysFinal "NameForgeModel" "NameForgeModel" "blockOf" "[I" : Cond) ∈ wT := wT_in (tb_3 _ (List.mem_of_getElem? (i := 185) (by decide +kernel))) rfl
theorem wd_907 : (.laysFinal "NameForgeModel" "NameForgeModel" "madeBy" "[I" : Cond) ∈ wT := wT_in (tb_3 _ (List.mem_of_getElem? (i := 187) (by decide +kernel))) rfl
theorem wd_909 : (.laysFinal "NameForgeModel" "NameForgeModel" "phiName" "[I" : Cond) ∈ wT := wT_in (tb_3 _ (List.mem_of_getElem? (i := 189) (by decide +kernel))) rfl
theorem wd_911 : (.laysFinal "NameForgeModel" "NameForgeModel" "sets" "[I" : Cond) ∈ wT := wT_in (tb_3 _ (List.mem_of_getElem? (i := 191) (by decide +kernel))) rfl
theorem wd_913 : (.laysFinal "NameForgeModel" "NameForgeModel" "usesX" "[I" : Cond) ∈ wT := wT_in (tb_3 _ (List.mem_of_getElem? (i := 193) (by decide +kernel))) rfl
theorem wd_915 : (.laysFinal "NameForgeModel" "NameForgeModel" "usesY" "[I" : Cond) ∈ wT := wT_in (tb_3 _ (List.mem_of_getElem? (i := 195) (by decide +kernel))) rfl
theorem wd_917 : (.laysFinal "NameForgeModel" "NameForgeModel" "testName" "[I" : Cond) ∈ wT := wT_in (tb_3 _ (List.mem_of_getElem? (i := 197) (by decide +kernel))) rfl
theorem wd_919 : (.laysFinal "NameForgeModel" "NameForgeModel" "atEnd" "[I" : Cond) ∈ wT := wT_in (tb_3 _ (List.mem_of_getElem? (i := 199) (by decide +kernel))) rfl
theorem wd_921 : (.laysFinal "NameForgeModel" "NameForgeModel" "walk" "[I" : Cond) ∈ wT := wT_in (tb_3 _ (List.mem_of_getElem? (i := 201) (by decide +kernel))) rfl
theorem wd_923 : (.lays "NameForgeModel" "NameForgeModel" "comeTo" "I" : Cond) ∈ wT := wT_in (tb_3 _ (List.mem_of_getElem? (i := 203) (by decide +kernel))) rfl
theorem wd_925 : (.laysFinal "NameForgeModel" "NameForgeModel" "taken" "[I" : Cond) ∈ wT := wT_in (tb_3 _ (List.mem_of_getElem? (i := 205) (by decide +kernel))) rfl
theorem wd_927 : (.laysFinal "NameForgeModel" "NameForgeModel" "state" "[I" : Cond) ∈ wT := wT_in (tb_3 _ (List.mem_of_getElem? (i := 207) (by decide +kernel))) rfl
theorem wd_929 : (.laysFinal "NameForgeModel" "NameForgeModel" "number" "[I" : Cond) ∈ wT := wT_in (tb_3 _ (List.mem_of_getElem? (i := 209) (by decide +kernel))) rfl
theorem wd_931 : (.laysFinal "NameForgeModel" "NameForgeModel" "needed" "[Z" : Cond) ∈ wT := wT_in (tb_3 _ (List.mem_of_getElem? (i := 211) (by decide +kernel))) rfl
theorem wd_933 : (.lays "NameForgeModel" "NameForgeModel" "given" "I" : Cond) ∈ wT := wT_in (tb_3 _ (List.mem_of_getElem? (i := 213) (by decide +kernel))) rfl
theorem wd_935 : (.laysFinal "NameForgeModel" "NameForgeModel" "input" "[I" : Cond) ∈ wT := wT_in (tb_3 _ (List.mem_of_getElem? (i := 215) (by decide +kernel))) rfl
theorem wd_937 : (.lays "NameForgeModel" "NameForgeModel" "asked" "I" : Cond) ∈ wT := wT_in (tb_3 _ (List.mem_of_getElem? (i := 217) (by decide +kernel))) rfl
theorem wd_939 : (.lays "NameForgeModel" "NameForgeModel" "told" "I" : Cond) ∈ wT := wT_in (tb_3 _ (List.mem_of_getElem? (i := 219) (by decide +kernel))) rfl
theorem wd_941 : (.laysFinal "NameForgeModel" "NameForgeModel" "heard" "[I" : Cond) ∈ wT := wT_in (tb_3 _ (List.mem_of_getElem? (i := 221) (by decide +kernel))) rfl
theorem wd_943 : (.lays "NameForgeModel" "NameForgeModel" "ran" "I" : Cond) ∈ wT := wT_in (tb_3 _ (List.mem_of_getElem? (i := 223) (by decide +kernel))) rfl
theorem wd_945 : (.lays "NameForgeModel" "NameForgeModel" "done" "I" : Cond) ∈ wT := wT_in (tb_3 _ (List.mem_of_getElem? (i := 225) (by decide +kernel))) rfl
theorem wd_947 : (.laysFinal "NameForgeModel" "NameForgeModel" "now" "[I" : Cond) ∈ wT := wT_in (tb_3 _ (List.mem_of_getElem? (i := 227) (by decide +kernel))) rfl
theorem wd_949 : (.laysFinal "NameForgeModel" "NameForgeModel" "next" "[I" : Cond) ∈ wT := wT_in (tb_3 _ (List.mem_of_getElem? (i := 229) (by decide +kernel))) rfl
theorem wd_952 : (.methodLink "NameForgeLaw" 70 ⟨"NameForgeModel", "thrown", "()I"⟩ : Cond) ∈ wT := wT_in (tb_3 _ (List.mem_of_getElem? (i := 232) (by decide +kernel))) rfl
theorem wd_953 : (.instanceMethod ⟨"NameForgeModel", "thrown", "()I"⟩ : Cond) ∈ wT := wT_in (tb_3 _ (List.mem_of_getElem? (i := 233) (by decide +kernel))) rfl
theorem wd_954 : (.selects "NameForgeModel" ⟨"NameForgeModel", "thrown", "()I"⟩ ⟨"NameForgeModel", "thrown", "()I"⟩ : Cond) ∈ wT := wT_in (tb_3 _ (List.mem_of_getElem? (i := 234) (by decide +kernel))) rfl
theorem wd_955 : (.code ⟨"NameForgeModel", "thrown", "()I"⟩ prog_9_method_2_code 1 (some .int) : Cond) ∈ wT := wT_in (tb_3 _ (List.mem_of_getElem? (i := 235) (by decide +kernel))) rfl
theorem wd_956 : (.methodLink "NameForgeLaw" 69 ⟨"NameForgeModel", "block", "()I"⟩ : Cond) ∈ wT := wT_in (tb_3 _ (List.mem_of_getElem? (i := 236) (by decide +kernel))) rfl
theorem wd_957 : (.instanceMethod ⟨"NameForgeModel", "block", "()I"⟩ : Cond) ∈ wT := wT_in (tb_3 _ (List.mem_of_getElem? (i := 237) (by decide +kernel))) rfl
theorem wd_958 : (.selects "NameForgeModel" ⟨"NameForgeModel", "block", "()I"⟩ ⟨"NameForgeModel", "block", "()I"⟩ : Cond) ∈ wT := wT_in (tb_3 _ (List.mem_of_getElem? (i := 238) (by decide +kernel))) rfl
theorem wd_959 : (.code ⟨"NameForgeModel", "block", "()I"⟩ prog_9_method_9_code 1 (some .int) : Cond) ∈ wT := wT_in (tb_3 _ (List.mem_of_getElem? (i := 239) (by decide +kernel))) rfl
theorem wd_960 : (.methodLink "NameForgeModel" 108 ⟨"NameForgeModel", "fails", "(ZI)Z"⟩ : Cond) ∈ wT := wT_in (tb_4 _ (List.mem_of_getElem? (i := 0) (by decide +kernel))) rfl
theorem wd_962 : (.instanceMethod ⟨"NameForgeModel", "fails", "(ZI)Z"⟩ : Cond) ∈ wT := wT_in (tb_4 _ (List.mem_of_getElem? (i := 2) (by decide +kernel))) rfl
theorem wd_963 : (.code ⟨"NameForgeModel", "fails", "(ZI)Z"⟩ prog_9_method_3_code 3 (some .boolean) : Cond) ∈ wT := wT_in (tb_4 _ (List.mem_of_getElem? (i := 3) (by decide +kernel))) rfl
theorem wd_964 : (.methodLink "NameForgeLaw" 76 ⟨"NameForgeModel", "put", "(IIIII)I"⟩ : Cond) ∈ wT := wT_in (tb_4 _ (List.mem_of_getElem? (i := 4) (by decide +kernel))) rfl
theorem wd_965 : (.instanceMethod ⟨"NameForgeModel", "put", "(IIIII)I"⟩ : Cond) ∈ wT := wT_in (tb_4 _ (List.mem_of_getElem? (i := 5) (by decide +kernel))) rfl
theorem wd_966 : (.selects "NameForgeModel" ⟨"NameForgeModel", "put", "(IIIII)I"⟩ ⟨"NameForgeModel", "put", "(IIIII)I"⟩ : Cond) ∈ wT := wT_in (tb_4 _ (List.mem_of_getElem? (i := 6) (by decide +kernel))) rfl
theorem wd_967 : (.code ⟨"NameForgeModel", "put", "(IIIII)I"⟩ prog_9_method_10_code 8 (some .int) : Cond) ∈ wT := wT_in (tb_4 _ (List.mem_of_getElem? (i := 7) (by decide +kernel))) rfl
theorem wd_968 : (.methodLink "NameForgeModel" 116 ⟨"NameForgeModel", "noBlock", "(I)Z"⟩ : Cond) ∈ wT := wT_in (tb_4 _ (List.mem_of_getElem? (i := 8) (by decide +kernel))) rfl
theorem wd_970 : (.instanceMethod ⟨"NameForgeModel", "noBlock", "(I)Z"⟩ : Cond) ∈ wT := wT_in (tb_4 _ (List.mem_of_getElem? (i := 10) (by decide +kernel))) rfl
theorem wd_971 : (.code ⟨"NameForgeModel", "noBlock", "(I)Z"⟩ prog_9_method_4_code 2 (some .boolean) : Cond) ∈ wT := wT_in (tb_4 _ (List.mem_of_getElem? (i := 11) (by decide +kernel))) rfl
theorem wd_984 : (.methodLink "NameForgeLaw" 80 ⟨"NameForgeModel", "go", "(II)V"⟩ : Cond) ∈ wT := wT_in (tb_4 _ (List.mem_of_getElem? (i := 24) (by decide +kernel))) rfl
theorem wd_985 : (.instanceMethod ⟨"NameForgeModel", "go", "(II)V"⟩ : Cond) ∈ wT := wT_in (tb_4 _ (List.mem_of_getElem? (i := 25) (by decide +kernel))) rfl
theorem wd_986 : (.selects "NameForgeModel" ⟨"NameForgeModel", "go", "(II)V"⟩ ⟨"NameForgeModel", "go", "(II)V"⟩ : Cond) ∈ wT := wT_in (tb_4 _ (List.mem_of_getElem? (i := 26) (by decide +kernel))) rfl
theorem wd_987 : (.code ⟨"NameForgeModel", "go", "(II)V"⟩ prog_9_method_12_code 3 none : Cond) ∈ wT := wT_in (tb_4 _ (List.mem_of_getElem? (i := 27) (by decide +kernel))) rfl
theorem wd_992 : (.methodLink "NameForgeLaw" 84 ⟨"NameForgeModel", "fork", "(IIII)V"⟩ : Cond) ∈ wT := wT_in (tb_4 _ (List.mem_of_getElem? (i := 32) (by decide +kernel))) rfl
theorem wd_993 : (.instanceMethod ⟨"NameForgeModel", "fork", "(IIII)V"⟩ : Cond) ∈ wT := wT_in (tb_4 _ (List.mem_of_getElem? (i := 33) (by decide +kernel))) rfl
theorem wd_994 : (.selects "NameForgeModel" ⟨"NameForgeModel", "fork", "(IIII)V"⟩ ⟨"NameForgeModel", "fork", "(IIII)V"⟩ : Cond) ∈ wT := wT_in (tb_4 _ (List.mem_of_getElem? (i := 34) (by decide +kernel))) rfl
theorem wd_995 : (.code ⟨"NameForgeModel", "fork", "(IIII)V"⟩ prog_9_method_13_code 5 none : Cond) ∈ wT := wT_in (tb_4 _ (List.mem_of_getElem? (i := 35) (by decide +kernel))) rfl
theorem wd_996 : (.methodLink "NameForgeLaw" 88 ⟨"NameForgeModel", "stop", "(I)V"⟩ : Cond) ∈ wT := wT_in (tb_4 _ (List.mem_of_getElem? (i := 36) (by decide +kernel))) rfl
theorem wd_997 : (.instanceMethod ⟨"NameForgeModel", "stop", "(I)V"⟩ : Cond) ∈ wT := wT_in (tb_4 _ (List.mem_of_getElem? (i := 37) (by decide +kernel))) rfl
theorem wd_998 : (.selects "NameForgeModel" ⟨"NameForgeModel", "stop", "(I)V"⟩ ⟨"NameForgeModel", "stop", "(I)V"⟩ : Cond) ∈ wT := wT_in (tb_4 _ (List.mem_of_getElem? (i := 38) (by decide +kernel))) rfl
theorem wd_999 : (.code ⟨"NameForgeModel", "stop", "(I)V"⟩ prog_9_method_14_code 2 none : Cond) ∈ wT := wT_in (tb_4 _ (List.mem_of_getElem? (i := 39) (by decide +kernel))) rfl
theorem wd_1000 : (.methodLink "NameForgeLaw" 92 ⟨"NameForgeModel", "clear", "()V"⟩ : Cond) ∈ wT := wT_in (tb_4 _ (List.mem_of_getElem? (i := 40) (by decide +kernel))) rfl
theorem wd_1001 : (.instanceMethod ⟨"NameForgeModel", "clear", "()V"⟩ : Cond) ∈ wT := wT_in (tb_4 _ (List.mem_of_getElem? (i := 41) (by decide +kernel))) rfl
theorem wd_1002 : (.selects "NameForgeModel" ⟨"NameForgeModel", "clear", "()V"⟩ ⟨"NameForgeModel", "clear", "()V"⟩ : Cond) ∈ wT := wT_in (tb_4 _ (List.mem_of_getElem? (i := 42) (by decide +kernel))) rfl
theorem wd_1003 : (.code ⟨"NameForgeModel", "clear", "()V"⟩ prog_9_method_15_code 1 none : Cond) ∈ wT := wT_in (tb_4 _ (List.mem_of_getElem? (i := 43) (by decide +kernel))) rfl
theorem wd_1004 : (.methodLink "NameForgeLaw" 95 ⟨"NameForgeModel", "build", "()I"⟩ : Cond) ∈ wT := wT_in (tb_4 _ (List.mem_of_getElem? (i := 44) (by decide +kernel))) rfl
theorem wd_1005 : (.instanceMethod ⟨"NameForgeModel", "build", "()I"⟩ : Cond) ∈ wT := wT_in (tb_4 _ (List.mem_of_getElem? (i := 45) (by decide +kernel))) rfl
theorem wd_1006 : (.selects "NameForgeModel" ⟨"NameForgeModel", "build", "()I"⟩ ⟨"NameForgeModel", "build", "()I"⟩ : Cond) ∈ wT := wT_in (tb_4 _ (List.mem_of_getElem? (i := 46) (by decide +kernel))) rfl
theorem wd_1007 : (.code ⟨"NameForgeModel", "build", "()I"⟩ prog_9_method_37_code 1 (some .int) : Cond) ∈ wT := wT_in (tb_4 _ (List.mem_of_getElem? (i := 47) (by decide +kernel))) rfl
theorem wd_1090 : (.methodLink "NameForgeLaw" 99 ⟨"NameForgeModel", "look", "(II)I"⟩ : Cond) ∈ wT := wT_in (tb_4 _ (List.mem_of_getElem? (i := 130) (by decide +kernel))) rfl
theorem wd_1091 : (.instanceMethod ⟨"NameForgeModel", "look", "(II)I"⟩ : Cond) ∈ wT := wT_in (tb_4 _ (List.mem_of_getElem? (i := 131) (by decide +kernel))) rfl
theorem wd_1092 : (.selects "NameForgeModel" ⟨"NameForgeModel", "look", "(II)I"⟩ ⟨"NameForgeModel", "look", "(II)I"⟩ : Cond) ∈ wT := wT_in (tb_4 _ (List.mem_of_getElem? (i := 132) (by decide +kernel))) rfl
theorem wd_1093 : (.code ⟨"NameForgeModel", "look", "(II)I"⟩ prog_9_method_38_code 4 (some .int) : Cond) ∈ wT := wT_in (tb_4 _ (List.mem_of_getElem? (i := 133) (by decide +kernel))) rfl
theorem wd_1094 : (.methodLink "NameForgeLaw" 103 ⟨"NameForgeModel", "phi", "(III)I"⟩ : Cond) ∈ wT := wT_in (tb_4 _ (List.mem_of_getElem? (i := 134) (by decide +kernel))) rfl
theorem wd_1095 : (.instanceMethod ⟨"NameForgeModel", "phi", "(III)I"⟩ : Cond) ∈ wT := wT_in (tb_4 _ (List.mem_of_getElem? (i := 135) (by decide +kernel))) rfl
theorem wd_1096 : (.selects "NameForgeModel" ⟨"NameForgeModel", "phi", "(III)I"⟩ ⟨"NameForgeModel", "phi", "(III)I"⟩ : Cond) ∈ wT := wT_in (tb_4 _ (List.mem_of_getElem? (i := 136) (by decide +kernel))) rfl
theorem wd_1097 : (.code ⟨"NameForgeModel", "phi", "(III)I"⟩ prog_9_method_40_code 6 (some .int) : Cond) ∈ wT := wT_in (tb_4 _ (List.mem_of_getElem? (i := 137) (by decide +kernel))) rfl
theorem wd_1102 : (.methodLink "NameForgeLaw" 106 ⟨"NameForgeModel", "uses", "(III)I"⟩ : Cond) ∈ wT := wT_in (tb_4 _ (List.mem_of_getElem? (i := 142) (by decide +kernel))) rfl
theorem wd_1103 : (.instanceMethod ⟨"NameForgeModel", "uses", "(III)I"⟩ : Cond) ∈ wT := wT_in (tb_4 _ (List.mem_of_getElem? (i := 143) (by decide +kernel))) rfl
theorem wd_1104 : (.selects "NameForgeModel" ⟨"NameForgeModel", "uses", "(III)I"⟩ ⟨"NameForgeModel", "uses", "(III)I"⟩ : Cond) ∈ wT := wT_in (tb_4 _ (List.mem_of_getElem? (i := 144) (by decide +kernel))) rfl
theorem wd_1105 : (.code ⟨"NameForgeModel", "uses", "(III)I"⟩ prog_9_method_41_code 6 (some .int) : Cond) ∈ wT := wT_in (tb_4 _ (List.mem_of_getElem? (i := 145) (by decide +kernel))) rfl
theorem wd_1106 : (.methodLink "NameForgeLaw" 109 ⟨"NameForgeModel", "name", "(II)I"⟩ : Cond) ∈ wT := wT_in (tb_4 _ (List.mem_of_getElem? (i := 146) (by decide +kernel))) rfl
theorem wd_1107 : (.instanceMethod ⟨"NameForgeModel", "name", "(II)I"⟩ : Cond) ∈ wT := wT_in (tb_4 _ (List.mem_of_getElem? (i := 147) (by decide +kernel))) rfl
theorem wd_1108 : (.selects "NameForgeModel" ⟨"NameForgeModel", "name", "(II)I"⟩ ⟨"NameForgeModel", "name", "(II)I"⟩ : Cond) ∈ wT := wT_in (tb_4 _ (List.mem_of_getElem? (i := 148) (by decide +kernel))) rfl
theorem wd_1109 : (.code ⟨"NameForgeModel", "name", "(II)I"⟩ prog_9_method_42_code 3 (some .int) : Cond) ∈ wT := wT_in (tb_4 _ (List.mem_of_getElem? (i := 149) (by decide +kernel))) rfl
theorem wd_1110 : (.methodLink "NameForgeLaw" 114 ⟨"NameForgeModel", "give", "(I)Z"⟩ : Cond) ∈ wT := wT_in (tb_4 _ (List.mem_of_getElem? (i := 150) (by decide +kernel))) rfl
theorem wd_1111 : (.instanceMethod ⟨"NameForgeModel", "give", "(I)Z"⟩ : Cond) ∈ wT := wT_in (tb_4 _ (List.mem_of_getElem? (i := 151) (by decide +kernel))) rfl
theorem wd_1112 : (.selects "NameForgeModel" ⟨"NameForgeModel", "give", "(I)Z"⟩ ⟨"NameForgeModel", "give", "(I)Z"⟩ : Cond) ∈ wT := wT_in (tb_4 _ (List.mem_of_getElem? (i := 152) (by decide +kernel))) rfl
theorem wd_1113 : (.code ⟨"NameForgeModel", "give", "(I)Z"⟩ prog_9_method_43_code 2 (some .boolean) : Cond) ∈ wT := wT_in (tb_4 _ (List.mem_of_getElem? (i := 153) (by decide +kernel))) rfl
theorem wd_1114 : (.methodLink "NameForgeLaw" 118 ⟨"NameForgeModel", "take", "()V"⟩ : Cond) ∈ wT := wT_in (tb_4 _ (List.mem_of_getElem? (i := 154) (by decide +kernel))) rfl
theorem wd_1115 : (.instanceMethod ⟨"NameForgeModel", "take", "()V"⟩ : Cond) ∈ wT := wT_in (tb_4 _ (List.mem_of_getElem? (i := 155) (by decide +kernel))) rfl
theorem wd_1116 : (.selects "NameForgeModel" ⟨"NameForgeModel", "take", "()V"⟩ ⟨"NameForgeModel", "take", "()V"⟩ : Cond) ∈ wT := wT_in (tb_4 _ (List.mem_of_getElem? (i := 156) (by decide +kernel))) rfl
theorem wd_1117 : (.code ⟨"NameForgeModel", "take", "()V"⟩ prog_9_method_44_code 1 none : Cond) ∈ wT := wT_in (tb_4 _ (List.mem_of_getElem? (i := 157) (by decide +kernel))) rfl
theorem wd_1118 : (.methodLink "NameForgeLaw" 122 ⟨"NameForgeModel", "run", "(ZI)I"⟩ : Cond) ∈ wT := wT_in (tb_4 _ (List.mem_of_getElem? (i := 158) (by decide +kernel))) rfl
theorem wd_1119 : (.instanceMethod ⟨"NameForgeModel", "run", "(ZI)I"⟩ : Cond) ∈ wT := wT_in (tb_4 _ (List.mem_of_getElem? (i := 159) (by decide +kernel))) rfl
theorem wd_1120 : (.selects "NameForgeModel" ⟨"NameForgeModel", "run", "(ZI)I"⟩ ⟨"NameForgeModel", "run", "(ZI)I"⟩ : Cond) ∈ wT := wT_in (tb_4 _ (List.mem_of_getElem? (i := 160) (by decide +kernel))) rfl
theorem wd_1121 : (.code ⟨"NameForgeModel", "run", "(ZI)I"⟩ prog_9_method_52_code 5 (some .int) : Cond) ∈ wT := wT_in (tb_4 _ (List.mem_of_getElem? (i := 161) (by decide +kernel))) rfl
theorem wd_1150 : (.methodLink "NameForgeLaw" 126 ⟨"NameForgeModel", "told", "()I"⟩ : Cond) ∈ wT := wT_in (tb_4 _ (List.mem_of_getElem? (i := 190) (by decide +kernel))) rfl
theorem wd_1151 : (.instanceMethod ⟨"NameForgeModel", "told", "()I"⟩ : Cond) ∈ wT := wT_in (tb_4 _ (List.mem_of_getElem? (i := 191) (by decide +kernel))) rfl
theorem wd_1152 : (.selects "NameForgeModel" ⟨"NameForgeModel", "told", "()I"⟩ ⟨"NameForgeModel", "told", "()I"⟩ : Cond) ∈ wT := wT_in (tb_4 _ (List.mem_of_getElem? (i := 192) (by decide +kernel))) rfl
theorem wd_1153 : (.code ⟨"NameForgeModel", "told", "()I"⟩ prog_9_method_53_code 1 (some .int) : Cond) ∈ wT := wT_in (tb_4 _ (List.mem_of_getElem? (i := 193) (by decide +kernel))) rfl
theorem wd_1154 : (.methodLink "NameForgeLaw" 130 ⟨"NameForgeModel", "heard", "(I)I"⟩ : Cond) ∈ wT := wT_in (tb_4 _ (List.mem_of_getElem? (i := 194) (by decide +kernel))) rfl
theorem wd_1155 : (.instanceMethod ⟨"NameForgeModel", "heard", "(I)I"⟩ : Cond) ∈ wT := wT_in (tb_4 _ (List.mem_of_getElem? (i := 195) (by decide +kernel))) rfl
theorem wd_1156 : (.selects "NameForgeModel" ⟨"NameForgeModel", "heard", "(I)I"⟩ ⟨"NameForgeModel", "heard", "(I)I"⟩ : Cond) ∈ wT := wT_in (tb_4 _ (List.mem_of_getElem? (i := 196) (by decide +kernel))) rfl
theorem wd_1157 : (.code ⟨"NameForgeModel", "heard", "(I)I"⟩ prog_9_method_54_code 2 (some .int) : Cond) ∈ wT := wT_in (tb_4 _ (List.mem_of_getElem? (i := 197) (by decide +kernel))) rfl
theorem wd_1158 : (.methodLink "NameForgeLaw" 134 ⟨"NameForgeModel", "spent", "(I)I"⟩ : Cond) ∈ wT := wT_in (tb_4 _ (List.mem_of_getElem? (i := 198) (by decide +kernel))) rfl
theorem wd_1159 : (.instanceMethod ⟨"NameForgeModel", "spent", "(I)I"⟩ : Cond) ∈ wT := wT_in (tb_4 _ (List.mem_of_getElem? (i := 199) (by decide +kernel))) rfl
theorem wd_1160 : (.selects "NameForgeModel" ⟨"NameForgeModel", "spent", "(I)I"⟩ ⟨"NameForgeModel", "spent", "(I)I"⟩ : Cond) ∈ wT := wT_in (tb_4 _ (List.mem_of_getElem? (i := 200) (by decide +kernel))) rfl
theorem wd_1161 : (.code ⟨"NameForgeModel", "spent", "(I)I"⟩ prog_9_method_55_code 2 (some .int) : Cond) ∈ wT := wT_in (tb_4 _ (List.mem_of_getElem? (i := 201) (by decide +kernel))) rfl
theorem wd_1162 : (.arrayClass .long : Cond) ∈ wT := wT_in (tb_4 _ (List.mem_of_getElem? (i := 202) (by decide +kernel))) rfl
theorem inN : ∀ w ∈ u_ws RN TN 7, w ∈ wT := by
  intro w hw
  obtain ⟨k, hk, rfl⟩ := List.mem_map.mp hw
  have hk := List.mem_range.mp hk
  match k, hk with
  | 0, _ => exact wd_346
  | 1, _ => exact wd_348
  | 2, _ => exact wd_350
  | 3, _ => exact wd_352
  | 4, _ => exact wd_354
  | 5, _ => exact wd_356
  | 6, _ => exact wd_358
  | k + 7, h => omega
theorem inP : ∀ w ∈ u_ws RP TP 10, w ∈ wT := by
  intro w hw
  obtain ⟨k, hk, rfl⟩ := List.mem_map.mp hw
  have hk := List.mem_range.mp hk
  match k, hk with
  | 0, _ => exact wd_72
  | 1, _ => exact wd_74
  | 2, _ => exact wd_76
  | 3, _ => exact wd_78
  | 4, _ => exact wd_80
  | 5, _ => exact wd_82
  | 6, _ => exact wd_84
  | 7, _ => exact wd_86
  | 8, _ => exact wd_88
  | 9, _ => exact wd_90
  | k + 10, h => omega
theorem inS : ∀ w ∈ u_ws RS TS 9, w ∈ wT := by
  intro w hw
  obtain ⟨k, hk, rfl⟩ := List.mem_map.mp hw
  have hk := List.mem_range.mp hk
  match k, hk with
  | 0, _ => exact wd_118
  | 1, _ => exact wd_120
  | 2, _ => exact wd_122
  | 3, _ => exact wd_124
  | 4, _ => exact wd_126
  | 5, _ => exact wd_128
  | 6, _ => exact wd_130
  | 7, _ => exact wd_132
  | 8, _ => exact wd_134
  | k + 9, h => omega
theorem inG : ∀ w ∈ u_ws RG TG 14, w ∈ wT := by
  intro w hw
  obtain ⟨k, hk, rfl⟩ := List.mem_map.mp hw
  have hk := List.mem_range.mp hk
  match k, hk with
  | 0, _ => exact wd_189
  | 1, _ => exact wd_191
  | 2, _ => exact wd_193
  | 3, _ => exact wd_195
  | 4, _ => exact wd_197
  | 5, _ => exact wd_199
  | 6, _ => exact wd_201
  | 7, _ => exact wd_203
  | 8, _ => exact wd_205
  | 9, _ => exact wd_207
  | 10, _ => exact wd_209
  | 11, _ => exact wd_211
  | 12, _ => exact wd_213
  | 13, _ => exact wd_215
  | k + 14, h => omega
theorem inK : ∀ w ∈ u_ws RK TK 8, w ∈ wT := by
  intro w hw
  obtain ⟨k, hk, rfl⟩ := List.mem_map.mp hw
  have hk := List.mem_range.mp hk
  match k, hk with
  | 0, _ => exact wd_239
  | 1, _ => exact wd_241
  | 2, _ => exact wd_243
  | 3, _ => exact wd_245
  | 4, _ => exact wd_247
  | 5, _ => exact wd_249
  | 6, _ => exact wd_251
  | 7, _ => exact wd_253
  | k + 8, h => omega
theorem inD : ∀ w ∈ u_ws RD TD 6, w ∈ wT := by
  intro w hw
  obtain ⟨k, hk, rfl⟩ := List.mem_map.mp hw
  have hk := List.mem_range.mp hk
  match k, hk with
  | 0, _ => exact wd_270
  | 1, _ => exact wd_272
  | 2, _ => exact wd_274
  | 3, _ => exact wd_276
  | 4, _ => exact wd_278
  | 5, _ => exact wd_280
  | k + 6, h => omega
theorem inA : ∀ w ∈ u_ws RA TA 14, w ∈ wT := by
  intro w hw
  obtain ⟨k, hk, rfl⟩ := List.mem_map.mp hw
  have hk := List.mem_range.mp hk
  match k, hk with
  | 0, _ => exact wd_310
  | 1, _ => exact wd_312
  | 2, _ => exact wd_314
  | 3, _ => exact wd_316
  | 4, _ => exact wd_318
  | 5, _ => exact wd_320
  | 6, _ => exact wd_322
  | 7, _ => exact wd_324
  | 8, _ => exact wd_326
  | 9, _ => exact wd_328
  | 10, _ => exact wd_330
  | 11, _ => exact wd_332
  | 12, _ => exact wd_334
  | 13, _ => exact wd_336
  | k + 14, h => omega
theorem inR : ∀ w ∈ u_ws RR TR 41, w ∈ wT := by
  intro w hw
  obtain ⟨k, hk, rfl⟩ := List.mem_map.mp hw
  have hk := List.mem_range.mp hk
  match k, hk with
  | 0, _ => exact wd_869
  | 1, _ => exact wd_871
  | 2, _ => exact wd_873
  | 3, _ => exact wd_875
  | 4, _ => exact wd_877
  | 5, _ => exact wd_879
  | 6, _ => exact wd_881
  | 7, _ => exact wd_883
  | 8, _ => exact wd_885
  | 9, _ => exact wd_887
  | 10, _ => exact wd_889
  | 11, _ => exact wd_891
  | 12, _ => exact wd_893
  | 13, _ => exact wd_895
  | 14, _ => exact wd_897
  | 15, _ => exact wd_899
  | 16, _ => exact wd_901
  | 17, _ => exact wd_903
  | 18, _ => exact wd_905
  | 19, _ => exact wd_907
  | 20, _ => exact wd_909
  | 21, _ => exact wd_911
  | 22, _ => exact wd_913
  | 23, _ => exact wd_915
  | 24, _ => exact wd_917
  | 25, _ => exact wd_919
  | 26, _ => exact wd_921
  | 27, _ => exact wd_923
  | 28, _ => exact wd_925
  | 29, _ => exact wd_927
  | 30, _ => exact wd_929
  | 31, _ => exact wd_931
  | 32, _ => exact wd_933
  | 33, _ => exact wd_935
  | 34, _ => exact wd_937
  | 35, _ => exact wd_939
  | 36, _ => exact wd_941
  | 37, _ => exact wd_943
  | 38, _ => exact wd_945
  | 39, _ => exact wd_947
  | 40, _ => exact wd_949
  | k + 41, h => omega
abbrev ix_IllegalArgumentException : Nat := 7
abbrev rx_IllegalArgumentException : ByteArray := prog_11_method_2_code
abbrev up_IllegalArgumentException : List String := ["java/lang/RuntimeException", "java/lang/Exception"]
theorem xa_IllegalArgumentException : decode rx_IllegalArgumentException 0 = .ok (.aload_n 0, 1) := by decide +kernel
theorem xb_IllegalArgumentException : decode rx_IllegalArgumentException 1 = .ok (.aload_n 1, 1) := by decide +kernel
theorem xc_IllegalArgumentException : decode rx_IllegalArgumentException 2 = .ok (.invokespecial ix_IllegalArgumentException, 3) := by decide +kernel
theorem xd_IllegalArgumentException : decode rx_IllegalArgumentException 5 = .ok (.return_, 1) := by decide +kernel
abbrev ix_IllegalStateException : Nat := 7
abbrev rx_IllegalStateException : ByteArray := prog_12_method_2_code
abbrev up_IllegalStateException : List String := ["java/lang/RuntimeException", "java/lang/Exception"]
theorem xa_IllegalStateException : decode rx_IllegalStateException 0 = .ok (.aload_n 0, 1) := by decide +kernel
theorem xb_IllegalStateException : decode rx_IllegalStateException 1 = .ok (.aload_n 1, 1) := by decide +kernel
theorem xc_IllegalStateException : decode rx_IllegalStateException 2 = .ok (.invokespecial ix_IllegalStateException, 3) := by decide +kernel
theorem xd_IllegalStateException : decode rx_IllegalStateException 5 = .ok (.return_, 1) := by decide +kernel
abbrev ix_NoSuchElementException : Nat := 13
abbrev rx_NoSuchElementException : ByteArray := prog_18_method_4_code
abbrev up_NoSuchElementException : List String := ["java/lang/RuntimeException", "java/lang/Exception"]
theorem xa_NoSuchElementException : decode rx_NoSuchElementException 0 = .ok (.aload_n 0, 1) := by decide +kernel
theorem xb_NoSuchElementException : decode rx_NoSuchElementException 1 = .ok (.aload_n 1, 1) := by decide +kernel
theorem xc_NoSuchElementException : decode rx_NoSuchElementException 2 = .ok (.invokespecial ix_NoSuchElementException, 3) := by decide +kernel
theorem xd_NoSuchElementException : decode rx_NoSuchElementException 5 = .ok (.return_, 1) := by decide +kernel
def strs : List (Nat × String) := [(90, "no such block, kind or variable"), (106, "no such block, or none to go to"), (115, "no such block or variable, or none to go to"), (117, "no such block"), (119, "there is no block"), (138, "no such block or what"), (141, "it is not built"), (219, "steps are 0 to 200"), (228, "not kept")]
def ncs : List (String × String) := [("java/lang/IllegalStateException", "java/lang/IllegalArgumentException"), ("java/lang/IllegalStateException", "java/util/NoSuchElementException")]
def cas : List (String × String) := [("java/lang/IllegalStateException", "java/lang/IllegalStateException"), ("java/lang/IllegalArgumentException", "java/lang/IllegalArgumentException"), ("java/util/NoSuchElementException", "java/util/NoSuchElementException")]
def dcl : List MethodName := [⟨"java/lang/RuntimeException", "<init>", "()V"⟩, ⟨"java/lang/RuntimeException", "<init>", "(Ljava/lang/String;)V"⟩, ⟨"java/lang/Exception", "<init>", "()V"⟩, ⟨"java/lang/Exception", "<init>", "(Ljava/lang/String;)V"⟩, ⟨"java/lang/Throwable", "<init>", "()V"⟩, ⟨"java/lang/Throwable", "<init>", "(Ljava/lang/String;)V"⟩]
abbrev ix_Pi : Nat := 11
theorem ws_34 : (.selects "NameForgeModel" ⟨"NameForgeModel", "fails", "(ZI)Z"⟩ ⟨"NameForgeModel", "fails", "(ZI)Z"⟩ : Cond) ∈ wT := wT_in (List.mem_append_left _ (List.mem_map.mpr ⟨(⟨"NameForgeModel", "fails", "(ZI)Z"⟩, 41), List.mem_append_right _ (List.mem_append_right _ (List.mem_append_left _ (List.mem_of_getElem? (i := 2) rfl))), rfl⟩)) rfl
theorem ws_35 : (.selects "NameForgeModel" ⟨"NameForgeModel", "noBlock", "(I)Z"⟩ ⟨"NameForgeModel", "noBlock", "(I)Z"⟩ : Cond) ∈ wT := wT_in (List.mem_append_left _ (List.mem_map.mpr ⟨(⟨"NameForgeModel", "noBlock", "(I)Z"⟩, 41), List.mem_append_right _ (List.mem_append_right _ (List.mem_append_left _ (List.mem_of_getElem? (i := 3) rfl))), rfl⟩)) rfl
