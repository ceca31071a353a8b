def R_CC : String := "CodeChecker"
def R_CCode : String := "CodeChecker$Code"
def R_CLocals : String := "CodeChecker$Locals"
def R_CRows : String := "CodeChecker$Rows"
def R_CShelf : String := "CodeChecker$Shelf"
def R_CStack : String := "CodeChecker$Stack"
def R_CThings : String := "CodeChecker$Things"
def R_MC : String := "CodeCheckerModel"
def F_CC : u_T := fun k => match k with
  | 0 => ("CodeChecker", "things", "LCodeChecker$Things;", true)
  | _ => ("CodeChecker", "code", "LCodeChecker$Code;", true)
def t_CC : Nat → FieldType := fun k => match k with
  | 0 => .object "CodeChecker$Things"
  | _ => .object "CodeChecker$Code"
theorem hf_CC_0 : F_CC 0 = (R_CC, "things", "LCodeChecker$Things;", true) := by decide +kernel
theorem hf_CC_1 : F_CC 1 = (R_CC, "code", "LCodeChecker$Code;", true) := by decide +kernel
theorem hnm_CC : ∀ a, a < 2 → ∀ b, b < 2 → a ≠ b → (F_CC a).2.1 ≠ (F_CC b).2.1 := by decide +kernel
theorem hty_CC : ∀ k, k < 2 → parseFieldDescriptor (F_CC k).2.2.1 = some (t_CC k) := by decide +kernel
def F_CCode : u_T := fun k => match k with
  | 0 => ("CodeChecker$Code", "things", "LCodeChecker$Things;", true)
  | 1 => ("CodeChecker$Code", "stack", "LCodeChecker$Stack;", true)
  | 2 => ("CodeChecker$Code", "locals", "LCodeChecker$Locals;", true)
  | 3 => ("CodeChecker$Code", "labels", "[I", true)
  | 4 => ("CodeChecker$Code", "labelCount", "I", false)
  | 5 => ("CodeChecker$Code", "progress", "I", false)
  | 6 => ("CodeChecker$Code", "isConstant", "Z", false)
  | 7 => ("CodeChecker$Code", "hasInstruction", "Z", false)
  | 8 => ("CodeChecker$Code", "visibleGlobals", "I", false)
  | _ => ("CodeChecker$Code", "localCalls", "I", false)
def t_CCode : Nat → FieldType := fun k => match k with
  | 0 => .object "CodeChecker$Things"
  | 1 => .object "CodeChecker$Stack"
  | 2 => .object "CodeChecker$Locals"
  | 3 => .array .int
  | 4 => .int
  | 5 => .int
  | 6 => .boolean
  | 7 => .boolean
  | 8 => .int
  | _ => .int
theorem hf_CCode_0 : F_CCode 0 = (R_CCode, "things", "LCodeChecker$Things;", true) := by decide +kernel
theorem hf_CCode_1 : F_CCode 1 = (R_CCode, "stack", "LCodeChecker$Stack;", true) := by decide +kernel
theorem hf_CCode_2 : F_CCode 2 = (R_CCode, "locals", "LCodeChecker$Locals;", true) := by decide +kernel
theorem hf_CCode_3 : F_CCode 3 = (R_CCode, "labels", "[I", true) := by decide +kernel
theorem hf_CCode_4 : F_CCode 4 = (R_CCode, "labelCount", "I", false) := by decide +kernel
theorem hf_CCode_5 : F_CCode 5 = (R_CCode, "progress", "I", false) := by decide +kernel
theorem hf_CCode_6 : F_CCode 6 = (R_CCode, "isConstant", "Z", false) := by decide +kernel
theorem hf_CCode_7 : F_CCode 7 = (R_CCode, "hasInstruction", "Z", false) := by decide +kernel
theorem hf_CCode_8 : F_CCode 8 = (R_CCode, "visibleGlobals", "I", false) := by decide +kernel
theorem hf_CCode_9 : F_CCode 9 = (R_CCode, "localCalls", "I", false) := by decide +kernel
theorem hnm_CCode : ∀ a, a < 10 → ∀ b, b < 10 → a ≠ b → (F_CCode a).2.1 ≠ (F_CCode b).2.1 := by decide +kernel
theorem hty_CCode : ∀ k, k < 10 → parseFieldDescriptor (F_CCode k).2.2.1 = some (t_CCode k) := by decide +kernel
def F_CLocals : u_T := fun k => match k with
  | 0 => ("CodeChecker$Locals", "types", "[I", true)
  | 1 => ("CodeChecker$Locals", "ends", "[J", true)
  | 2 => ("CodeChecker$Locals", "groups", "I", false)
  | _ => ("CodeChecker$Locals", "count", "J", false)
def t_CLocals : Nat → FieldType := fun k => match k with
  | 0 => .array .int
  | 1 => .array .long
  | 2 => .int
  | _ => .long
theorem hf_CLocals_0 : F_CLocals 0 = (R_CLocals, "types", "[I", true) := by decide +kernel
theorem hf_CLocals_1 : F_CLocals 1 = (R_CLocals, "ends", "[J", true) := by decide +kernel
theorem hf_CLocals_2 : F_CLocals 2 = (R_CLocals, "groups", "I", false) := by decide +kernel
theorem hf_CLocals_3 : F_CLocals 3 = (R_CLocals, "count", "J", false) := by decide +kernel
theorem hnm_CLocals : ∀ a, a < 4 → ∀ b, b < 4 → a ≠ b → (F_CLocals a).2.1 ≠ (F_CLocals b).2.1 := by decide +kernel
theorem hty_CLocals : ∀ k, k < 4 → parseFieldDescriptor (F_CLocals k).2.2.1 = some (t_CLocals k) := by decide +kernel
def F_CRows : u_T := fun k => match k with
  | 0 => ("CodeChecker$Rows", "ofResults", "Z", true)
  | 1 => ("CodeChecker$Rows", "sizes", "[I", true)
  | _ => ("CodeChecker$Rows", "parts", "[I", true)
def t_CRows : Nat → FieldType := fun k => match k with
  | 0 => .boolean
  | 1 => .array .int
  | _ => .array .int
theorem hf_CRows_0 : F_CRows 0 = (R_CRows, "ofResults", "Z", true) := by decide +kernel
theorem hf_CRows_1 : F_CRows 1 = (R_CRows, "sizes", "[I", true) := by decide +kernel
theorem hf_CRows_2 : F_CRows 2 = (R_CRows, "parts", "[I", true) := by decide +kernel
theorem hnm_CRows : ∀ a, a < 3 → ∀ b, b < 3 → a ≠ b → (F_CRows a).2.1 ≠ (F_CRows b).2.1 := by decide +kernel
theorem hty_CRows : ∀ k, k < 3 → parseFieldDescriptor (F_CRows k).2.2.1 = some (t_CRows k) := by decide +kernel
def F_CShelf : u_T := fun k => match k with
  | 0 => ("CodeChecker$Shelf", "types", "[I", true)
  | 1 => ("CodeChecker$Shelf", "marks", "[Z", true)
  | _ => ("CodeChecker$Shelf", "count", "I", false)
def t_CShelf : Nat → FieldType := fun k => match k with
  | 0 => .array .int
  | 1 => .array .boolean
  | _ => .int
theorem hf_CShelf_0 : F_CShelf 0 = (R_CShelf, "types", "[I", true) := by decide +kernel
theorem hf_CShelf_1 : F_CShelf 1 = (R_CShelf, "marks", "[Z", true) := by decide +kernel
theorem hf_CShelf_2 : F_CShelf 2 = (R_CShelf, "count", "I", false) := by decide +kernel
theorem hnm_CShelf : ∀ a, a < 3 → ∀ b, b < 3 → a ≠ b → (F_CShelf a).2.1 ≠ (F_CShelf b).2.1 := by decide +kernel
theorem hty_CShelf : ∀ k, k < 3 → parseFieldDescriptor (F_CShelf k).2.2.1 = some (t_CShelf k) := by decide +kernel
def F_CStack : u_T := fun k => match k with
  | 0 => ("CodeChecker$Stack", "things", "LCodeChecker$Things;", true)
  | 1 => ("CodeChecker$Stack", "operands", "[I", true)
  | 2 => ("CodeChecker$Stack", "blockTypes", "[I", true)
  | 3 => ("CodeChecker$Stack", "heights", "[I", true)
  | 4 => ("CodeChecker$Stack", "openers", "[I", true)
  | 5 => ("CodeChecker$Stack", "lives", "[Z", true)
  | 6 => ("CodeChecker$Stack", "taken", "[I", true)
  | 7 => ("CodeChecker$Stack", "operandCount", "I", false)
  | 8 => ("CodeChecker$Stack", "blockCount", "I", false)
  | _ => ("CodeChecker$Stack", "fault", "I", false)
def t_CStack : Nat → FieldType := fun k => match k with
  | 0 => .object "CodeChecker$Things"
  | 1 => .array .int
  | 2 => .array .int
  | 3 => .array .int
  | 4 => .array .int
  | 5 => .array .boolean
  | 6 => .array .int
  | 7 => .int
  | 8 => .int
  | _ => .int
theorem hf_CStack_0 : F_CStack 0 = (R_CStack, "things", "LCodeChecker$Things;", true) := by decide +kernel
theorem hf_CStack_1 : F_CStack 1 = (R_CStack, "operands", "[I", true) := by decide +kernel
theorem hf_CStack_2 : F_CStack 2 = (R_CStack, "blockTypes", "[I", true) := by decide +kernel
theorem hf_CStack_3 : F_CStack 3 = (R_CStack, "heights", "[I", true) := by decide +kernel
theorem hf_CStack_4 : F_CStack 4 = (R_CStack, "openers", "[I", true) := by decide +kernel
theorem hf_CStack_5 : F_CStack 5 = (R_CStack, "lives", "[Z", true) := by decide +kernel
theorem hf_CStack_6 : F_CStack 6 = (R_CStack, "taken", "[I", true) := by decide +kernel
theorem hf_CStack_7 : F_CStack 7 = (R_CStack, "operandCount", "I", false) := by decide +kernel
theorem hf_CStack_8 : F_CStack 8 = (R_CStack, "blockCount", "I", false) := by decide +kernel
theorem hf_CStack_9 : F_CStack 9 = (R_CStack, "fault", "I", false) := by decide +kernel
theorem hnm_CStack : ∀ a, a < 10 → ∀ b, b < 10 → a ≠ b → (F_CStack a).2.1 ≠ (F_CStack b).2.1 := by decide +kernel
theorem hty_CStack : ∀ k, k < 10 → parseFieldDescriptor (F_CStack k).2.2.1 = some (t_CStack k) := by decide +kernel
def F_CThings : u_T := fun k => match k with
  | 0 => ("CodeChecker$Things", "parameters", "LCodeChecker$Rows;", true)
  | 1 => ("CodeChecker$Things", "results", "LCodeChecker$Rows;", true)
  | 2 => ("CodeChecker$Things", "functions", "LCodeChecker$Shelf;", true)
  | 3 => ("CodeChecker$Things", "tables", "LCodeChecker$Shelf;", true)
  | 4 => ("CodeChecker$Things", "memories", "LCodeChecker$Shelf;", true)
  | 5 => ("CodeChecker$Things", "globals", "LCodeChecker$Shelf;", true)
  | 6 => ("CodeChecker$Things", "elements", "LCodeChecker$Shelf;", true)
  | 7 => ("CodeChecker$Things", "data", "LCodeChecker$Shelf;", true)
  | _ => ("CodeChecker$Things", "typeCount", "I", false)
def t_CThings : Nat → FieldType := fun k => match k with
  | 0 => .object "CodeChecker$Rows"
  | 1 => .object "CodeChecker$Rows"
  | 2 => .object "CodeChecker$Shelf"
  | 3 => .object "CodeChecker$Shelf"
  | 4 => .object "CodeChecker$Shelf"
  | 5 => .object "CodeChecker$Shelf"
  | 6 => .object "CodeChecker$Shelf"
  | 7 => .object "CodeChecker$Shelf"
  | _ => .int
theorem hf_CThings_0 : F_CThings 0 = (R_CThings, "parameters", "LCodeChecker$Rows;", true) := by decide +kernel
theorem hf_CThings_1 : F_CThings 1 = (R_CThings, "results", "LCodeChecker$Rows;", true) := by decide +kernel
theorem hf_CThings_2 : F_CThings 2 = (R_CThings, "functions", "LCodeChecker$Shelf;", true) := by decide +kernel
theorem hf_CThings_3 : F_CThings 3 = (R_CThings, "tables", "LCodeChecker$Shelf;", true) := by decide +kernel
theorem hf_CThings_4 : F_CThings 4 = (R_CThings, "memories", "LCodeChecker$Shelf;", true) := by decide +kernel
theorem hf_CThings_5 : F_CThings 5 = (R_CThings, "globals", "LCodeChecker$Shelf;", true) := by decide +kernel
theorem hf_CThings_6 : F_CThings 6 = (R_CThings, "elements", "LCodeChecker$Shelf;", true) := by decide +kernel
theorem hf_CThings_7 : F_CThings 7 = (R_CThings, "data", "LCodeChecker$Shelf;", true) := by decide +kernel
theorem hf_CThings_8 : F_CThings 8 = (R_CThings, "typeCount", "I", false) := by decide +kernel
theorem hnm_CThings : ∀ a, a < 9 → ∀ b, b < 9 → a ≠ b → (F_CThings a).2.1 ≠ (F_CThings b).2.1 := by decide +kernel
theorem hty_CThings : ∀ k, k < 9 → parseFieldDescriptor (F_CThings k).2.2.1 = some (t_CThings k) := by decide +kernel
def F_MC : u_T := fun k => match k with
  | 0 => ("CodeCheckerModel", "types", "I", false)
  | 1 => ("CodeCheckerModel", "parameterCount", "[I", true)
  | 2 => ("CodeCheckerModel", "resultCount", "[I", true)
  | 3 => ("CodeCheckerModel", "parameters", "[I", true)
  | 4 => ("CodeCheckerModel", "results", "[I", true)
  | 5 => ("CodeCheckerModel", "many", "[I", true)
  | 6 => ("CodeCheckerModel", "first", "[I", true)
  | 7 => ("CodeCheckerModel", "second", "[I", true)
  | 8 => ("CodeCheckerModel", "declared", "[Z", true)
  | 9 => ("CodeCheckerModel", "state", "I", false)
  | 10 => ("CodeCheckerModel", "isBody", "Z", false)
  | 11 => ("CodeCheckerModel", "begun", "Z", false)
  | 12 => ("CodeCheckerModel", "bodyType", "I", false)
  | 13 => ("CodeCheckerModel", "constantType", "I", false)
  | 14 => ("CodeCheckerModel", "seen", "J", false)
  | 15 => ("CodeCheckerModel", "rows", "I", false)
  | 16 => ("CodeCheckerModel", "calls", "I", false)
  | 17 => ("CodeCheckerModel", "rowType", "[I", true)
  | 18 => ("CodeCheckerModel", "rowMany", "[J", true)
  | 19 => ("CodeCheckerModel", "labels", "I", false)
  | 20 => ("CodeCheckerModel", "label", "[I", true)
  | 21 => ("CodeCheckerModel", "operands", "I", false)
  | 22 => ("CodeCheckerModel", "blocks", "I", false)
  | 23 => ("CodeCheckerModel", "operand", "[I", true)
  | 24 => ("CodeCheckerModel", "begunBy", "[I", true)
  | 25 => ("CodeCheckerModel", "blockType", "[I", true)
  | 26 => ("CodeCheckerModel", "height", "[I", true)
  | 27 => ("CodeCheckerModel", "dead", "[Z", true)
  | 28 => ("CodeCheckerModel", "fault", "I", false)
  | 29 => ("CodeCheckerModel", "taken", "I", false)
  | 30 => ("CodeCheckerModel", "left", "I", false)
  | 31 => ("CodeCheckerModel", "row", "[I", true)
  | 32 => ("CodeCheckerModel", "dies", "Z", false)
  | 33 => ("CodeCheckerModel", "opens", "Z", false)
  | 34 => ("CodeCheckerModel", "ends", "Z", false)
  | 35 => ("CodeCheckerModel", "isOther", "Z", false)
  | 36 => ("CodeCheckerModel", "want", "[I", true)
  | 37 => ("CodeCheckerModel", "wants", "I", false)
  | _ => ("CodeCheckerModel", "taking", "[I", true)
def t_MC : Nat → FieldType := fun k => match k with
  | 0 => .int
  | 1 => .array .int
  | 2 => .array .int
  | 3 => .array .int
  | 4 => .array .int
  | 5 => .array .int
  | 6 => .array .int
  | 7 => .array .int
  | 8 => .array .boolean
  | 9 => .int
  | 10 => .boolean
  | 11 => .boolean
  | 12 => .int
  | 13 => .int
  | 14 => .long
  | 15 => .int
  | 16 => .int
  | 17 => .array .int
  | 18 => .array .long
  | 19 => .int
  | 20 => .array .int
  | 21 => .int
  | 22 => .int
  | 23 => .array .int
  | 24 => .array .int
  | 25 => .array .int
  | 26 => .array .int
  | 27 => .array .boolean
  | 28 => .int
  | 29 => .int
  | 30 => .int
  | 31 => .array .int
  | 32 => .boolean
  | 33 => .boolean
  | 34 => .boolean
  | 35 => .boolean
  | 36 => .array .int
  | 37 => .int
  | _ => .array .int
theorem hf_MC_0 : F_MC 0 = (R_MC, "types", "I", false) := by decide +kernel
theorem hf_MC_1 : F_MC 1 = (R_MC, "parameterCount", "[I", true) := by decide +kernel
theorem hf_MC_2 : F_MC 2 = (R_MC, "resultCount", "[I", true) := by decide +kernel
theorem hf_MC_3 : F_MC 3 = (R_MC, "parameters", "[I", true) := by decide +kernel
theorem hf_MC_4 : F_MC 4 = (R_MC, "results", "[I", true) := by decide +kernel
theorem hf_MC_5 : F_MC 5 = (R_MC, "many", "[I", true) := by decide +kernel
theorem hf_MC_6 : F_MC 6 = (R_MC, "first", "[I", true) := by decide +kernel
theorem hf_MC_7 : F_MC 7 = (R_MC, "second", "[I", true) := by decide +kernel
theorem hf_MC_8 : F_MC 8 = (R_MC, "declared", "[Z", true) := by decide +kernel
theorem hf_MC_9 : F_MC 9 = (R_MC, "state", "I", false) := by decide +kernel
theorem hf_MC_10 : F_MC 10 = (R_MC, "isBody", "Z", false) := by decide +kernel
theorem hf_MC_11 : F_MC 11 = (R_MC, "begun", "Z", false) := by decide +kernel
theorem hf_MC_12 : F_MC 12 = (R_MC, "bodyType", "I", false) := by decide +kernel
theorem hf_MC_13 : F_MC 13 = (R_MC, "constantType", "I", false) := by decide +kernel
theorem hf_MC_14 : F_MC 14 = (R_MC, "seen", "J", false) := by decide +kernel
theorem hf_MC_15 : F_MC 15 = (R_MC, "rows", "I", false) := by decide +kernel
theorem hf_MC_16 : F_MC 16 = (R_MC, "calls", "I", false) := by decide +kernel
theorem hf_MC_17 : F_MC 17 = (R_MC, "rowType", "[I", true) := by decide +kernel
theorem hf_MC_18 : F_MC 18 = (R_MC, "rowMany", "[J", true) := by decide +kernel
theorem hf_MC_19 : F_MC 19 = (R_MC, "labels", "I", false) := by decide +kernel
theorem hf_MC_20 : F_MC 20 = (R_MC, "label", "[I", true) := by decide +kernel
theorem hf_MC_21 : F_MC 21 = (R_MC, "operands", "I", false) := by decide +kernel
theorem hf_MC_22 : F_MC 22 = (R_MC, "blocks", "I", false) := by decide +kernel
theorem hf_MC_23 : F_MC 23 = (R_MC, "operand", "[I", true) := by decide +kernel
theorem hf_MC_24 : F_MC 24 = (R_MC, "begunBy", "[I", true) := by decide +kernel
theorem hf_MC_25 : F_MC 25 = (R_MC, "blockType", "[I", true) := by decide +kernel
theorem hf_MC_26 : F_MC 26 = (R_MC, "height", "[I", true) := by decide +kernel
theorem hf_MC_27 : F_MC 27 = (R_MC, "dead", "[Z", true) := by decide +kernel
theorem hf_MC_28 : F_MC 28 = (R_MC, "fault", "I", false) := by decide +kernel
theorem hf_MC_29 : F_MC 29 = (R_MC, "taken", "I", false) := by decide +kernel
theorem hf_MC_30 : F_MC 30 = (R_MC, "left", "I", false) := by decide +kernel
theorem hf_MC_31 : F_MC 31 = (R_MC, "row", "[I", true) := by decide +kernel
theorem hf_MC_32 : F_MC 32 = (R_MC, "dies", "Z", false) := by decide +kernel
theorem hf_MC_33 : F_MC 33 = (R_MC, "opens", "Z", false) := by decide +kernel
theorem hf_MC_34 : F_MC 34 = (R_MC, "ends", "Z", false) := by decide +kernel
theorem hf_MC_35 : F_MC 35 = (R_MC, "isOther", "Z", false) := by decide +kernel
theorem hf_MC_36 : F_MC 36 = (R_MC, "want", "[I", true) := by decide +kernel
theorem hf_MC_37 : F_MC 37 = (R_MC, "wants", "I", false) := by decide +kernel
theorem hf_MC_38 : F_MC 38 = (R_MC, "taking", "[I", true) := by decide +kernel
theorem hnm_MC : ∀ a, a < 39 → ∀ b, b < 39 → a ≠ b → (F_MC a).2.1 ≠ (F_MC b).2.1 := by decide +kernel
theorem hty_MC : ∀ k, k < 39 → parseFieldDescriptor (F_MC k).2.2.1 = some (t_MC k) := by decide +kernel
def zcl : List vw_C := [(R_CC, F_CC, 2), (R_CCode, F_CCode, 10), (R_CLocals, F_CLocals, 4), (R_CRows, F_CRows, 3), (R_CShelf, F_CShelf, 3), (R_CStack, F_CStack, 10), (R_CThings, F_CThings, 9), (R_MC, F_MC, 39)]
theorem hcl_CC : zcl[0]? = some (R_CC, F_CC, 2) := rfl
theorem hcl_CCode : zcl[1]? = some (R_CCode, F_CCode, 10) := rfl
theorem hcl_CLocals : zcl[2]? = some (R_CLocals, F_CLocals, 4) := rfl
theorem hcl_CRows : zcl[3]? = some (R_CRows, F_CRows, 3) := rfl
theorem hcl_CShelf : zcl[4]? = some (R_CShelf, F_CShelf, 3) := rfl
theorem hcl_CStack : zcl[5]? = some (R_CStack, F_CStack, 10) := rfl
theorem hcl_CThings : zcl[6]? = some (R_CThings, F_CThings, 9) := rfl
theorem hcl_MC : zcl[7]? = some (R_MC, F_MC, 39) := rfl
abbrev b_CC_init : ByteArray := prog_1_method_1_code
def y_CC_init : MethodName := ⟨R_CC, "<init>", "()V"⟩
abbrev b_CC_type : ByteArray := prog_1_method_2_code
def y_CC_type : MethodName := ⟨R_CC, "type", "()I"⟩
abbrev b_CC_part : ByteArray := prog_1_method_3_code
def y_CC_part : MethodName := ⟨R_CC, "part", "(ZI)I"⟩
abbrev b_CC_add : ByteArray := prog_1_method_4_code
def y_CC_add : MethodName := ⟨R_CC, "add", "(III)I"⟩
abbrev b_CC_declare : ByteArray := prog_1_method_5_code
def y_CC_declare : MethodName := ⟨R_CC, "declare", "(I)Z"⟩
abbrev b_CC_begin : ByteArray := prog_1_method_6_code
def y_CC_begin : MethodName := ⟨R_CC, "begin", "(I)Z"⟩
abbrev b_CC_constant : ByteArray := prog_1_method_7_code
def y_CC_constant : MethodName := ⟨R_CC, "constant", "(II)Z"⟩
abbrev b_CC_local : ByteArray := prog_1_method_8_code
def y_CC_local : MethodName := ⟨R_CC, "local", "(II)Z"⟩
abbrev b_CC_label : ByteArray := prog_1_method_9_code
def y_CC_label : MethodName := ⟨R_CC, "label", "(I)I"⟩
abbrev b_CC_step : ByteArray := prog_1_method_10_code
def y_CC_step : MethodName := ⟨R_CC, "step", "(III)I"⟩
abbrev b_CC_state : ByteArray := prog_1_method_11_code
def y_CC_state : MethodName := ⟨R_CC, "state", "()I"⟩
abbrev b_CC_look : ByteArray := prog_1_method_12_code
def y_CC_look : MethodName := ⟨R_CC, "look", "(I)J"⟩
abbrev b_CC_operand : ByteArray := prog_1_method_13_code
def y_CC_operand : MethodName := ⟨R_CC, "operand", "(I)I"⟩
abbrev b_CC_isValueType : ByteArray := prog_1_method_14_code
def y_CC_isValueType : MethodName := ⟨R_CC, "isValueType", "(I)Z"⟩
abbrev b_CC_isReferenceType : ByteArray := prog_1_method_15_code
def y_CC_isReferenceType : MethodName := ⟨R_CC, "isReferenceType", "(I)Z"⟩
abbrev b_CC_withoutSign : ByteArray := prog_1_method_16_code
def y_CC_withoutSign : MethodName := ⟨R_CC, "withoutSign", "(I)J"⟩
abbrev b_CC_isInstruction : ByteArray := prog_1_method_17_code
def y_CC_isInstruction : MethodName := ⟨R_CC, "isInstruction", "(I)Z"⟩
abbrev b_CC_isBlockType : ByteArray := prog_1_method_18_code
def y_CC_isBlockType : MethodName := ⟨R_CC, "isBlockType", "(I)Z"⟩
abbrev b_CC_plainLine : ByteArray := prog_1_method_19_code
def y_CC_plainLine : MethodName := ⟨R_CC, "plainLine", "(I)I"⟩
abbrev b_CCode_init : ByteArray := prog_2_method_1_code
def y_CCode_init : MethodName := ⟨R_CCode, "<init>", "(LCodeChecker$Things;)V"⟩
abbrev b_CCode_isOpen : ByteArray := prog_2_method_2_code
def y_CCode_isOpen : MethodName := ⟨R_CCode, "isOpen", "()Z"⟩
abbrev b_CCode_open : ByteArray := prog_2_method_3_code
def y_CCode_open : MethodName := ⟨R_CCode, "open", "(IZ)V"⟩
abbrev b_CCode_openBody : ByteArray := prog_2_method_4_code
def y_CCode_openBody : MethodName := ⟨R_CCode, "openBody", "(I)V"⟩
abbrev b_CCode_openConstant : ByteArray := prog_2_method_5_code
def y_CCode_openConstant : MethodName := ⟨R_CCode, "openConstant", "(II)V"⟩
abbrev b_CCode_addLocals : ByteArray := prog_2_method_6_code
def y_CCode_addLocals : MethodName := ⟨R_CCode, "addLocals", "(II)Z"⟩
abbrev b_CCode_addLabel : ByteArray := prog_2_method_7_code
def y_CCode_addLabel : MethodName := ⟨R_CCode, "addLabel", "(I)I"⟩
abbrev b_CCode_finishInstruction : ByteArray := prog_2_method_8_code
def y_CCode_finishInstruction : MethodName := ⟨R_CCode, "finishInstruction", "(I)V"⟩
abbrev b_CCode_figure : ByteArray := prog_2_method_9_code
def y_CCode_figure : MethodName := ⟨R_CCode, "figure", "(I)J"⟩
abbrev b_CCode_faultAhead : ByteArray := prog_2_method_10_code
def y_CCode_faultAhead : MethodName := ⟨R_CCode, "faultAhead", "(III)I"⟩
abbrev b_CCode_isMalformed : ByteArray := prog_2_method_11_code
def y_CCode_isMalformed : MethodName := ⟨R_CCode, "isMalformed", "(II)Z"⟩
abbrev b_CCode_mayStandInConstant : ByteArray := prog_2_method_12_code
def y_CCode_mayStandInConstant : MethodName := ⟨R_CCode, "mayStandInConstant", "(II)Z"⟩
abbrev b_CCode_namesWhatIsMissing : ByteArray := prog_2_method_13_code
def y_CCode_namesWhatIsMissing : MethodName := ⟨R_CCode, "namesWhatIsMissing", "(III)Z"⟩
abbrev b_CCode_isLabelMissing : ByteArray := prog_2_method_14_code
def y_CCode_isLabelMissing : MethodName := ⟨R_CCode, "isLabelMissing", "()Z"⟩
abbrev b_CCode_misfit : ByteArray := prog_2_method_15_code
def y_CCode_misfit : MethodName := ⟨R_CCode, "misfit", "(III)I"⟩
abbrev b_CCode_accessFault : ByteArray := prog_2_method_16_code
def y_CCode_accessFault : MethodName := ⟨R_CCode, "accessFault", "(II)I"⟩
abbrev b_CCode_carryOut : ByteArray := prog_2_method_17_code
def y_CCode_carryOut : MethodName := ⟨R_CCode, "carryOut", "(II)I"⟩
abbrev b_CCode_carryOutPlain : ByteArray := prog_2_method_18_code
def y_CCode_carryOutPlain : MethodName := ⟨R_CCode, "carryOutPlain", "(I)V"⟩
abbrev b_CCode_carryOutBlock : ByteArray := prog_2_method_19_code
def y_CCode_carryOutBlock : MethodName := ⟨R_CCode, "carryOutBlock", "(II)V"⟩
abbrev b_CCode_carryOutBranch : ByteArray := prog_2_method_20_code
def y_CCode_carryOutBranch : MethodName := ⟨R_CCode, "carryOutBranch", "(II)V"⟩
abbrev b_CCode_branchByRow : ByteArray := prog_2_method_21_code
def y_CCode_branchByRow : MethodName := ⟨R_CCode, "branchByRow", "(I)V"⟩
abbrev b_CCode_enterFunction : ByteArray := prog_2_method_22_code
def y_CCode_enterFunction : MethodName := ⟨R_CCode, "enterFunction", "(I)V"⟩
abbrev b_CCode_carryOutVariable : ByteArray := prog_2_method_23_code
def y_CCode_carryOutVariable : MethodName := ⟨R_CCode, "carryOutVariable", "(II)V"⟩
abbrev b_CCode_carryOutAccess : ByteArray := prog_2_method_24_code
def y_CCode_carryOutAccess : MethodName := ⟨R_CCode, "carryOutAccess", "(I)V"⟩
abbrev b_CCode_carryOutReference : ByteArray := prog_2_method_25_code
def y_CCode_carryOutReference : MethodName := ⟨R_CCode, "carryOutReference", "(II)V"⟩
abbrev b_CLocals_init : ByteArray := prog_3_method_1_code
def y_CLocals_init : MethodName := ⟨R_CLocals, "<init>", "()V"⟩
abbrev b_CLocals_clear : ByteArray := prog_3_method_2_code
def y_CLocals_clear : MethodName := ⟨R_CLocals, "clear", "()V"⟩
abbrev b_CLocals_append : ByteArray := prog_3_method_3_code
def y_CLocals_append : MethodName := ⟨R_CLocals, "append", "(IJ)V"⟩
abbrev b_CLocals_has : ByteArray := prog_3_method_4_code
def y_CLocals_has : MethodName := ⟨R_CLocals, "has", "(I)Z"⟩
abbrev b_CLocals_typeOf : ByteArray := prog_3_method_5_code
def y_CLocals_typeOf : MethodName := ⟨R_CLocals, "typeOf", "(I)I"⟩
abbrev b_CRows_init : ByteArray := prog_4_method_1_code
def y_CRows_init : MethodName := ⟨R_CRows, "<init>", "(Z)V"⟩
abbrev b_CRows_append : ByteArray := prog_4_method_2_code
def y_CRows_append : MethodName := ⟨R_CRows, "append", "(II)I"⟩
abbrev b_CRows_sizeOf : ByteArray := prog_4_method_3_code
def y_CRows_sizeOf : MethodName := ⟨R_CRows, "sizeOf", "(I)I"⟩
abbrev b_CRows_partOf : ByteArray := prog_4_method_4_code
def y_CRows_partOf : MethodName := ⟨R_CRows, "partOf", "(II)I"⟩
abbrev b_CShelf_init : ByteArray := prog_5_method_1_code
def y_CShelf_init : MethodName := ⟨R_CShelf, "<init>", "()V"⟩
abbrev b_CShelf_put : ByteArray := prog_5_method_2_code
def y_CShelf_put : MethodName := ⟨R_CShelf, "put", "(IZ)I"⟩
abbrev b_CShelf_has : ByteArray := prog_5_method_3_code
def y_CShelf_has : MethodName := ⟨R_CShelf, "has", "(I)Z"⟩
abbrev b_CShelf_typeOf : ByteArray := prog_5_method_4_code
def y_CShelf_typeOf : MethodName := ⟨R_CShelf, "typeOf", "(I)I"⟩
abbrev b_CShelf_isMarked : ByteArray := prog_5_method_5_code
def y_CShelf_isMarked : MethodName := ⟨R_CShelf, "isMarked", "(I)Z"⟩
abbrev b_CShelf_mark : ByteArray := prog_5_method_6_code
def y_CShelf_mark : MethodName := ⟨R_CShelf, "mark", "(I)Z"⟩
abbrev b_CStack_init : ByteArray := prog_6_method_1_code
def y_CStack_init : MethodName := ⟨R_CStack, "<init>", "(LCodeChecker$Things;)V"⟩
abbrev b_CStack_restart : ByteArray := prog_6_method_2_code
def y_CStack_restart : MethodName := ⟨R_CStack, "restart", "(I)V"⟩
abbrev b_CStack_fail : ByteArray := prog_6_method_3_code
def y_CStack_fail : MethodName := ⟨R_CStack, "fail", "(I)V"⟩
abbrev b_CStack_hasInnermost : ByteArray := prog_6_method_4_code
def y_CStack_hasInnermost : MethodName := ⟨R_CStack, "hasInnermost", "()Z"⟩
abbrev b_CStack_hasBlock : ByteArray := prog_6_method_5_code
def y_CStack_hasBlock : MethodName := ⟨R_CStack, "hasBlock", "(I)Z"⟩
abbrev b_CStack_ofBlock : ByteArray := prog_6_method_6_code
def y_CStack_ofBlock : MethodName := ⟨R_CStack, "ofBlock", "([II)I"⟩
abbrev b_CStack_height : ByteArray := prog_6_method_7_code
def y_CStack_height : MethodName := ⟨R_CStack, "height", "()I"⟩
abbrev b_CStack_opener : ByteArray := prog_6_method_8_code
def y_CStack_opener : MethodName := ⟨R_CStack, "opener", "()I"⟩
abbrev b_CStack_isLive : ByteArray := prog_6_method_9_code
def y_CStack_isLive : MethodName := ⟨R_CStack, "isLive", "()Z"⟩
abbrev b_CStack_operandFromEnd : ByteArray := prog_6_method_10_code
def y_CStack_operandFromEnd : MethodName := ⟨R_CStack, "operandFromEnd", "(I)I"⟩
abbrev b_CStack_takeAny : ByteArray := prog_6_method_11_code
def y_CStack_takeAny : MethodName := ⟨R_CStack, "takeAny", "()I"⟩
abbrev b_CStack_take : ByteArray := prog_6_method_12_code
def y_CStack_take : MethodName := ⟨R_CStack, "take", "(I)I"⟩
abbrev b_CStack_give : ByteArray := prog_6_method_13_code
def y_CStack_give : MethodName := ⟨R_CStack, "give", "(I)V"⟩
abbrev b_CStack_takeTimes : ByteArray := prog_6_method_14_code
def y_CStack_takeTimes : MethodName := ⟨R_CStack, "takeTimes", "(II)V"⟩
abbrev b_CStack_takeRow : ByteArray := prog_6_method_15_code
def y_CStack_takeRow : MethodName := ⟨R_CStack, "takeRow", "(LCodeChecker$Rows;I)V"⟩
abbrev b_CStack_giveRow : ByteArray := prog_6_method_16_code
def y_CStack_giveRow : MethodName := ⟨R_CStack, "giveRow", "(LCodeChecker$Rows;I)V"⟩
abbrev b_CStack_die : ByteArray := prog_6_method_17_code
def y_CStack_die : MethodName := ⟨R_CStack, "die", "()V"⟩
abbrev b_CStack_pushBlock : ByteArray := prog_6_method_18_code
def y_CStack_pushBlock : MethodName := ⟨R_CStack, "pushBlock", "(II)V"⟩
abbrev b_CStack_openBlock : ByteArray := prog_6_method_19_code
def y_CStack_openBlock : MethodName := ⟨R_CStack, "openBlock", "(II)V"⟩
abbrev b_CStack_expectNoMoreOperands : ByteArray := prog_6_method_20_code
def y_CStack_expectNoMoreOperands : MethodName := ⟨R_CStack, "expectNoMoreOperands", "()V"⟩
abbrev b_CStack_turnToElse : ByteArray := prog_6_method_21_code
def y_CStack_turnToElse : MethodName := ⟨R_CStack, "turnToElse", "()V"⟩
abbrev b_CStack_closeBlock : ByteArray := prog_6_method_22_code
def y_CStack_closeBlock : MethodName := ⟨R_CStack, "closeBlock", "()V"⟩
abbrev b_CStack_labelRows : ByteArray := prog_6_method_23_code
def y_CStack_labelRows : MethodName := ⟨R_CStack, "labelRows", "(I)LCodeChecker$Rows;"⟩
abbrev b_CStack_labelSize : ByteArray := prog_6_method_24_code
def y_CStack_labelSize : MethodName := ⟨R_CStack, "labelSize", "(I)I"⟩
abbrev b_CStack_takeLabel : ByteArray := prog_6_method_25_code
def y_CStack_takeLabel : MethodName := ⟨R_CStack, "takeLabel", "(I)V"⟩
abbrev b_CStack_giveLabel : ByteArray := prog_6_method_26_code
def y_CStack_giveLabel : MethodName := ⟨R_CStack, "giveLabel", "(I)V"⟩
abbrev b_CStack_passLabel : ByteArray := prog_6_method_27_code
def y_CStack_passLabel : MethodName := ⟨R_CStack, "passLabel", "(II)V"⟩
abbrev b_CStack_takeOutermostResults : ByteArray := prog_6_method_28_code
def y_CStack_takeOutermostResults : MethodName := ⟨R_CStack, "takeOutermostResults", "()V"⟩
abbrev b_CStack_takeReference : ByteArray := prog_6_method_29_code
def y_CStack_takeReference : MethodName := ⟨R_CStack, "takeReference", "()V"⟩
abbrev b_CStack_choose : ByteArray := prog_6_method_30_code
def y_CStack_choose : MethodName := ⟨R_CStack, "choose", "()V"⟩
abbrev b_CThings_init : ByteArray := prog_7_method_1_code
def y_CThings_init : MethodName := ⟨R_CThings, "<init>", "()V"⟩
abbrev b_CThings_makeType : ByteArray := prog_7_method_2_code
def y_CThings_makeType : MethodName := ⟨R_CThings, "makeType", "()I"⟩
abbrev b_CThings_hasType : ByteArray := prog_7_method_3_code
def y_CThings_hasType : MethodName := ⟨R_CThings, "hasType", "(I)Z"⟩
abbrev b_CThings_extendLatestType : ByteArray := prog_7_method_4_code
def y_CThings_extendLatestType : MethodName := ⟨R_CThings, "extendLatestType", "(ZI)I"⟩
abbrev b_CThings_addThing : ByteArray := prog_7_method_5_code
def y_CThings_addThing : MethodName := ⟨R_CThings, "addThing", "(III)I"⟩
abbrev b_CThings_hasMemory : ByteArray := prog_7_method_6_code
def y_CThings_hasMemory : MethodName := ⟨R_CThings, "hasMemory", "()Z"⟩
abbrev b_CThings_hasLikeParametersAndResults : ByteArray := prog_7_method_7_code
def y_CThings_hasLikeParametersAndResults : MethodName := ⟨R_CThings, "hasLikeParametersAndResults", "(I)Z"⟩
abbrev b_MC_init : ByteArray := prog_9_method_1_code
def y_MC_init : MethodName := ⟨R_MC, "<init>", "()V"⟩
abbrev b_MC_isReference : ByteArray := prog_9_method_2_code
def y_MC_isReference : MethodName := ⟨R_MC, "isReference", "(I)Z"⟩
abbrev b_MC_isValue : ByteArray := prog_9_method_3_code
def y_MC_isValue : MethodName := ⟨R_MC, "isValue", "(I)Z"⟩
abbrev b_MC_type : ByteArray := prog_9_method_4_code
def y_MC_type : MethodName := ⟨R_MC, "type", "()I"⟩
abbrev b_MC_part : ByteArray := prog_9_method_5_code
def y_MC_part : MethodName := ⟨R_MC, "part", "(ZI)I"⟩
abbrev b_MC_add : ByteArray := prog_9_method_6_code
def y_MC_add : MethodName := ⟨R_MC, "add", "(III)I"⟩
abbrev b_MC_declare : ByteArray := prog_9_method_7_code
def y_MC_declare : MethodName := ⟨R_MC, "declare", "(I)Z"⟩
abbrev b_MC_has : ByteArray := prog_9_method_8_code
def y_MC_has : MethodName := ⟨R_MC, "has", "(II)Z"⟩
abbrev b_MC_attribute : ByteArray := prog_9_method_9_code
def y_MC_attribute : MethodName := ⟨R_MC, "attribute", "(II)I"⟩
abbrev b_MC_beginCode : ByteArray := prog_9_method_10_code
def y_MC_beginCode : MethodName := ⟨R_MC, "beginCode", "(Z)V"⟩
abbrev b_MC_begin : ByteArray := prog_9_method_11_code
def y_MC_begin : MethodName := ⟨R_MC, "begin", "(I)Z"⟩
abbrev b_MC_constant : ByteArray := prog_9_method_12_code
def y_MC_constant : MethodName := ⟨R_MC, "constant", "(II)Z"⟩
abbrev b_MC_addRow : ByteArray := prog_9_method_13_code
def y_MC_addRow : MethodName := ⟨R_MC, "addRow", "(IJ)V"⟩
abbrev b_MC_local : ByteArray := prog_9_method_14_code
def y_MC_local : MethodName := ⟨R_MC, "local", "(II)Z"⟩
abbrev b_MC_label : ByteArray := prog_9_method_15_code
def y_MC_label : MethodName := ⟨R_MC, "label", "(I)I"⟩
abbrev b_MC_localType : ByteArray := prog_9_method_16_code
def y_MC_localType : MethodName := ⟨R_MC, "localType", "(I)I"⟩
abbrev b_MC_countOf : ByteArray := prog_9_method_17_code
def y_MC_countOf : MethodName := ⟨R_MC, "countOf", "(IZ)I"⟩
abbrev b_MC_partOf : ByteArray := prog_9_method_18_code
def y_MC_partOf : MethodName := ⟨R_MC, "partOf", "(IZI)I"⟩
abbrev b_MC_isBlockType : ByteArray := prog_9_method_19_code
def y_MC_isBlockType : MethodName := ⟨R_MC, "isBlockType", "(I)Z"⟩
abbrev b_MC_blockOf : ByteArray := prog_9_method_20_code
def y_MC_blockOf : MethodName := ⟨R_MC, "blockOf", "(I)I"⟩
abbrev b_MC_isLabel : ByteArray := prog_9_method_21_code
def y_MC_isLabel : MethodName := ⟨R_MC, "isLabel", "(I)Z"⟩
abbrev b_MC_labelCount : ByteArray := prog_9_method_22_code
def y_MC_labelCount : MethodName := ⟨R_MC, "labelCount", "(I)I"⟩
abbrev b_MC_labelPart : ByteArray := prog_9_method_23_code
def y_MC_labelPart : MethodName := ⟨R_MC, "labelPart", "(II)I"⟩
abbrev b_MC_stop : ByteArray := prog_9_method_24_code
def y_MC_stop : MethodName := ⟨R_MC, "stop", "(I)V"⟩
abbrev b_MC_take : ByteArray := prog_9_method_25_code
def y_MC_take : MethodName := ⟨R_MC, "take", "(I)V"⟩
abbrev b_MC_give : ByteArray := prog_9_method_26_code
def y_MC_give : MethodName := ⟨R_MC, "give", "(I)V"⟩
abbrev b_MC_die : ByteArray := prog_9_method_27_code
def y_MC_die : MethodName := ⟨R_MC, "die", "()V"⟩
abbrev b_MC_takeTwo : ByteArray := prog_9_method_28_code
def y_MC_takeTwo : MethodName := ⟨R_MC, "takeTwo", "(II)V"⟩
abbrev b_MC_takeThree : ByteArray := prog_9_method_29_code
def y_MC_takeThree : MethodName := ⟨R_MC, "takeThree", "()V"⟩
abbrev b_MC_wantNothing : ByteArray := prog_9_method_30_code
def y_MC_wantNothing : MethodName := ⟨R_MC, "wantNothing", "()V"⟩
abbrev b_MC_wantOne : ByteArray := prog_9_method_31_code
def y_MC_wantOne : MethodName := ⟨R_MC, "wantOne", "(I)V"⟩
abbrev b_MC_wantParts : ByteArray := prog_9_method_32_code
def y_MC_wantParts : MethodName := ⟨R_MC, "wantParts", "(IZ)V"⟩
abbrev b_MC_wantBlock : ByteArray := prog_9_method_33_code
def y_MC_wantBlock : MethodName := ⟨R_MC, "wantBlock", "(IZ)V"⟩
abbrev b_MC_wantLabel : ByteArray := prog_9_method_34_code
def y_MC_wantLabel : MethodName := ⟨R_MC, "wantLabel", "(I)V"⟩
abbrev b_MC_takeWanted : ByteArray := prog_9_method_35_code
def y_MC_takeWanted : MethodName := ⟨R_MC, "takeWanted", "()V"⟩
abbrev b_MC_giveWanted : ByteArray := prog_9_method_36_code
def y_MC_giveWanted : MethodName := ⟨R_MC, "giveWanted", "()V"⟩
abbrev b_MC_one : ByteArray := prog_9_method_37_code
def y_MC_one : MethodName := ⟨R_MC, "one", "(II)V"⟩
abbrev b_MC_two : ByteArray := prog_9_method_38_code
def y_MC_two : MethodName := ⟨R_MC, "two", "(II)V"⟩
abbrev b_MC_isInstruction : ByteArray := prog_9_method_39_code
def y_MC_isInstruction : MethodName := ⟨R_MC, "isInstruction", "(I)Z"⟩
abbrev b_MC_isFormed : ByteArray := prog_9_method_40_code
def y_MC_isFormed : MethodName := ⟨R_MC, "isFormed", "(II)Z"⟩
abbrev b_MC_mayBeConstant : ByteArray := prog_9_method_41_code
def y_MC_mayBeConstant : MethodName := ⟨R_MC, "mayBeConstant", "(II)Z"⟩
abbrev b_MC_isThere : ByteArray := prog_9_method_42_code
def y_MC_isThere : MethodName := ⟨R_MC, "isThere", "(III)Z"⟩
abbrev b_MC_bytesOf : ByteArray := prog_9_method_43_code
def y_MC_bytesOf : MethodName := ⟨R_MC, "bytesOf", "(I)I"⟩
abbrev b_MC_require : ByteArray := prog_9_method_44_code
def y_MC_require : MethodName := ⟨R_MC, "require", "(III)V"⟩
abbrev b_MC_control : ByteArray := prog_9_method_45_code
def y_MC_control : MethodName := ⟨R_MC, "control", "(III)V"⟩
abbrev b_MC_call : ByteArray := prog_9_method_46_code
def y_MC_call : MethodName := ⟨R_MC, "call", "(I)V"⟩
abbrev b_MC_open : ByteArray := prog_9_method_47_code
def y_MC_open : MethodName := ⟨R_MC, "open", "(II)V"⟩
abbrev b_MC_close : ByteArray := prog_9_method_48_code
def y_MC_close : MethodName := ⟨R_MC, "close", "()V"⟩
abbrev b_MC_choose : ByteArray := prog_9_method_49_code
def y_MC_choose : MethodName := ⟨R_MC, "choose", "()V"⟩
abbrev b_MC_end : ByteArray := prog_9_method_50_code
def y_MC_end : MethodName := ⟨R_MC, "end", "()V"⟩
abbrev b_MC_table : ByteArray := prog_9_method_51_code
def y_MC_table : MethodName := ⟨R_MC, "table", "(I)V"⟩
abbrev b_MC_choice : ByteArray := prog_9_method_52_code
def y_MC_choice : MethodName := ⟨R_MC, "choice", "()V"⟩
abbrev b_MC_named : ByteArray := prog_9_method_53_code
def y_MC_named : MethodName := ⟨R_MC, "named", "(II)V"⟩
abbrev b_MC_memory : ByteArray := prog_9_method_54_code
def y_MC_memory : MethodName := ⟨R_MC, "memory", "(I)V"⟩
abbrev b_MC_number : ByteArray := prog_9_method_55_code
def y_MC_number : MethodName := ⟨R_MC, "number", "(I)V"⟩
abbrev b_MC_calculate : ByteArray := prog_9_method_56_code
def y_MC_calculate : MethodName := ⟨R_MC, "calculate", "(ZI)V"⟩
abbrev b_MC_from : ByteArray := prog_9_method_57_code
def y_MC_from : MethodName := ⟨R_MC, "from", "(I)I"⟩
abbrev b_MC_to : ByteArray := prog_9_method_58_code
def y_MC_to : MethodName := ⟨R_MC, "to", "(I)I"⟩
abbrev b_MC_other : ByteArray := prog_9_method_59_code
def y_MC_other : MethodName := ⟨R_MC, "other", "(II)V"⟩
abbrev b_MC_perform : ByteArray := prog_9_method_60_code
def y_MC_perform : MethodName := ⟨R_MC, "perform", "(III)V"⟩
abbrev b_MC_examine : ByteArray := prog_9_method_61_code
def y_MC_examine : MethodName := ⟨R_MC, "examine", "(III)V"⟩
abbrev b_MC_step : ByteArray := prog_9_method_62_code
def y_MC_step : MethodName := ⟨R_MC, "step", "(III)I"⟩
abbrev b_MC_state : ByteArray := prog_9_method_63_code
def y_MC_state : MethodName := ⟨R_MC, "state", "()I"⟩
abbrev b_MC_look : ByteArray := prog_9_method_64_code
def y_MC_look : MethodName := ⟨R_MC, "look", "(I)J"⟩
abbrev b_MC_operand : ByteArray := prog_9_method_65_code
def y_MC_operand : MethodName := ⟨R_MC, "operand", "(I)I"⟩
