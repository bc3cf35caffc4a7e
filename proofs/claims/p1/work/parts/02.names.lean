/-! ===== BEGIN printed: names, fields, word lists, decode rows ===== -/
def RX0 : String := "RowTypes$Expression"
def TX0 : u_T := fun k => match k with
  | 0 => ("RowTypes$Expression", "signs", "[I", true)
  | 1 => ("RowTypes$Expression", "kinds", "[I", true)
  | 2 => ("RowTypes$Expression", "links", "[I", true)
  | 3 => ("RowTypes$Expression", "length", "I", false)
  | _ => ("RowTypes$Expression", "kept", "LRowTypes$Kept;", true)
def tyX0 : Nat → FieldType := fun k => match k with
  | 0 => .array .int
  | 1 => .array .int
  | 2 => .array .int
  | 3 => .int
  | _ => .object "RowTypes$Kept"
abbrev wsX00 : List Cond := u_ws RX0 TX0 5
theorem nmX0 : ∀ a, a < 5 → ∀ b, b < 5 → a ≠ b → (TX0 a).2.1 ≠ (TX0 b).2.1 := by decide +kernel
theorem tyX0_ok : ∀ k, k < 5 → parseFieldDescriptor (TX0 k).2.2.1 = some (tyX0 k) := by decide +kernel
abbrev cX0_init : ByteArray := prog_2_method_1_code
def yX0_init : MethodName := ⟨RX0, "<init>", "()V"⟩
abbrev cX0_take : ByteArray := prog_2_method_2_code
def yX0_take : MethodName := ⟨RX0, "take", "([II)V"⟩
abbrev cX0_signAt : ByteArray := prog_2_method_3_code
def yX0_signAt : MethodName := ⟨RX0, "signAt", "(I)I"⟩
def RX1 : String := "RowTypes$Finder"
def TX1 : u_T := fun k => match k with
  | 0 => ("RowTypes$Finder", "nodes", "LRowTypes$Nodes;", true)
  | 1 => ("RowTypes$Finder", "unifier", "LRowTypes$Unifier;", true)
  | 2 => ("RowTypes$Finder", "texts", "[LRowTypes$Expression;", true)
  | 3 => ("RowTypes$Finder", "definitions", "I", false)
  | 4 => ("RowTypes$Finder", "expression", "LRowTypes$Expression;", false)
  | 5 => ("RowTypes$Finder", "found", "[I", true)
  | 6 => ("RowTypes$Finder", "boundNames", "[I", true)
  | 7 => ("RowTypes$Finder", "boundTypes", "[I", true)
  | 8 => ("RowTypes$Finder", "boundSchemes", "[LRowTypes$Kept;", true)
  | 9 => ("RowTypes$Finder", "bound", "I", false)
  | 10 => ("RowTypes$Finder", "schemes", "[LRowTypes$Kept;", true)
  | 11 => ("RowTypes$Finder", "schemesUsed", "I", false)
  | 12 => ("RowTypes$Finder", "flat", "LRowTypes$Kept;", true)
  | 13 => ("RowTypes$Finder", "fault", "I", false)
  | 14 => ("RowTypes$Finder", "faultPlace", "I", false)
  | _ => ("RowTypes$Finder", "faultLabel", "I", false)
def tyX1 : Nat → FieldType := fun k => match k with
  | 0 => .object "RowTypes$Nodes"
  | 1 => .object "RowTypes$Unifier"
  | 2 => .array (.object "RowTypes$Expression")
  | 3 => .int
  | 4 => .object "RowTypes$Expression"
  | 5 => .array .int
  | 6 => .array .int
  | 7 => .array .int
  | 8 => .array (.object "RowTypes$Kept")
  | 9 => .int
  | 10 => .array (.object "RowTypes$Kept")
  | 11 => .int
  | 12 => .object "RowTypes$Kept"
  | 13 => .int
  | 14 => .int
  | _ => .int
abbrev wsX10 : List Cond := u_ws RX1 TX1 16
theorem nmX1 : ∀ a, a < 16 → ∀ b, b < 16 → a ≠ b → (TX1 a).2.1 ≠ (TX1 b).2.1 := by decide +kernel
theorem tyX1_ok : ∀ k, k < 16 → parseFieldDescriptor (TX1 k).2.2.1 = some (tyX1 k) := by decide +kernel
abbrev cX1_init : ByteArray := prog_3_method_1_code
def yX1_init : MethodName := ⟨RX1, "<init>", "(LRowTypes$Nodes;LRowTypes$Unifier;[LRowTypes$Expression;)V"⟩
def RX2 : String := "RowTypes$Ints"
def TX2 : u_T := fun k => match k with
  | 0 => ("RowTypes$Ints", "items", "[I", false)
  | _ => ("RowTypes$Ints", "used", "I", false)
def tyX2 : Nat → FieldType := fun k => match k with
  | 0 => .array .int
  | _ => .int
abbrev wsX20 : List Cond := u_ws RX2 TX2 2
theorem nmX2 : ∀ a, a < 2 → ∀ b, b < 2 → a ≠ b → (TX2 a).2.1 ≠ (TX2 b).2.1 := by decide +kernel
theorem tyX2_ok : ∀ k, k < 2 → parseFieldDescriptor (TX2 k).2.2.1 = some (tyX2 k) := by decide +kernel
abbrev cX2_init : ByteArray := prog_4_method_1_code
def yX2_init : MethodName := ⟨RX2, "<init>", "()V"⟩
abbrev cX2_clear : ByteArray := prog_4_method_2_code
def yX2_clear : MethodName := ⟨RX2, "clear", "()V"⟩
abbrev cX2_length : ByteArray := prog_4_method_3_code
def yX2_length : MethodName := ⟨RX2, "length", "()I"⟩
abbrev cX2_push : ByteArray := prog_4_method_4_code
def yX2_push : MethodName := ⟨RX2, "push", "(I)V"⟩
abbrev cX2_pop : ByteArray := prog_4_method_5_code
def yX2_pop : MethodName := ⟨RX2, "pop", "()I"⟩
def RX3 : String := "RowTypes$Kept"
def TX3 : u_T := fun k => match k with
  | 0 => ("RowTypes$Kept", "parts", "[I", true)
  | 1 => ("RowTypes$Kept", "length", "I", false)
  | 2 => ("RowTypes$Kept", "lacks", "[I", true)
  | 3 => ("RowTypes$Kept", "given", "[I", true)
  | _ => ("RowTypes$Kept", "variables", "I", false)
def tyX3 : Nat → FieldType := fun k => match k with
  | 0 => .array .int
  | 1 => .int
  | 2 => .array .int
  | 3 => .array .int
  | _ => .int
abbrev wsX30 : List Cond := u_ws RX3 TX3 5
theorem nmX3 : ∀ a, a < 5 → ∀ b, b < 5 → a ≠ b → (TX3 a).2.1 ≠ (TX3 b).2.1 := by decide +kernel
theorem tyX3_ok : ∀ k, k < 5 → parseFieldDescriptor (TX3 k).2.2.1 = some (tyX3 k) := by decide +kernel
abbrev cX3_init : ByteArray := prog_5_method_1_code
def yX3_init : MethodName := ⟨RX3, "<init>", "()V"⟩
def RX4 : String := "RowTypes$Machine"
def TX4 : u_T := fun k => match k with
  | 0 => ("RowTypes$Machine", "texts", "[LRowTypes$Expression;", true)
  | 1 => ("RowTypes$Machine", "definitions", "I", false)
  | 2 => ("RowTypes$Machine", "sorts", "[I", true)
  | 3 => ("RowTypes$Machine", "numbers", "[I", true)
  | 4 => ("RowTypes$Machine", "owners", "[I", true)
  | 5 => ("RowTypes$Machine", "inners", "[I", true)
  | 6 => ("RowTypes$Machine", "fields", "[I", true)
  | 7 => ("RowTypes$Machine", "lengths", "[J", true)
  | 8 => ("RowTypes$Machine", "values", "I", false)
  | 9 => ("RowTypes$Machine", "names", "[I", true)
  | 10 => ("RowTypes$Machine", "namedValues", "[I", true)
  | 11 => ("RowTypes$Machine", "namesBehind", "[I", true)
  | 12 => ("RowTypes$Machine", "bindings", "I", false)
  | 13 => ("RowTypes$Machine", "due", "LRowTypes$Ints;", true)
  | 14 => ("RowTypes$Machine", "done", "LRowTypes$Ints;", true)
  | 15 => ("RowTypes$Machine", "steps", "I", false)
  | _ => ("RowTypes$Machine", "result", "I", false)
def tyX4 : Nat → FieldType := fun k => match k with
  | 0 => .array (.object "RowTypes$Expression")
  | 1 => .int
  | 2 => .array .int
  | 3 => .array .int
  | 4 => .array .int
  | 5 => .array .int
  | 6 => .array .int
  | 7 => .array .long
  | 8 => .int
  | 9 => .array .int
  | 10 => .array .int
  | 11 => .array .int
  | 12 => .int
  | 13 => .object "RowTypes$Ints"
  | 14 => .object "RowTypes$Ints"
  | 15 => .int
  | _ => .int
abbrev wsX40 : List Cond := u_ws RX4 TX4 17
theorem nmX4 : ∀ a, a < 17 → ∀ b, b < 17 → a ≠ b → (TX4 a).2.1 ≠ (TX4 b).2.1 := by decide +kernel
theorem tyX4_ok : ∀ k, k < 17 → parseFieldDescriptor (TX4 k).2.2.1 = some (tyX4 k) := by decide +kernel
abbrev cX4_init : ByteArray := prog_6_method_1_code
def yX4_init : MethodName := ⟨RX4, "<init>", "([LRowTypes$Expression;)V"⟩
def RX5 : String := "RowTypes$Nodes"
def TX5 : u_T := fun k => match k with
  | 0 => ("RowTypes$Nodes", "kinds", "[I", false)
  | 1 => ("RowTypes$Nodes", "firsts", "[I", false)
  | 2 => ("RowTypes$Nodes", "seconds", "[I", false)
  | 3 => ("RowTypes$Nodes", "bits", "[I", false)
  | 4 => ("RowTypes$Nodes", "links", "[I", false)
  | 5 => ("RowTypes$Nodes", "marks", "[I", false)
  | 6 => ("RowTypes$Nodes", "used", "I", false)
  | 7 => ("RowTypes$Nodes", "mark", "I", false)
  | 8 => ("RowTypes$Nodes", "work", "LRowTypes$Ints;", true)
  | 9 => ("RowTypes$Nodes", "types", "[I", true)
  | 10 => ("RowTypes$Nodes", "otherTypes", "[I", true)
  | _ => ("RowTypes$Nodes", "variables", "[I", true)
def tyX5 : Nat → FieldType := fun k => match k with
  | 0 => .array .int
  | 1 => .array .int
  | 2 => .array .int
  | 3 => .array .int
  | 4 => .array .int
  | 5 => .array .int
  | 6 => .int
  | 7 => .int
  | 8 => .object "RowTypes$Ints"
  | 9 => .array .int
  | 10 => .array .int
  | _ => .array .int
abbrev wsX50 : List Cond := u_ws RX5 TX5 12
theorem nmX5 : ∀ a, a < 12 → ∀ b, b < 12 → a ≠ b → (TX5 a).2.1 ≠ (TX5 b).2.1 := by decide +kernel
theorem tyX5_ok : ∀ k, k < 12 → parseFieldDescriptor (TX5 k).2.2.1 = some (tyX5 k) := by decide +kernel
abbrev cX5_init : ByteArray := prog_7_method_1_code
def yX5_init : MethodName := ⟨RX5, "<init>", "()V"⟩
def RX6 : String := "RowTypes$Reader"
def TX6 : u_T := fun k => match k with
  | 0 => ("RowTypes$Reader", "due", "LRowTypes$Ints;", true)
  | 1 => ("RowTypes$Reader", "lastBranch", "[I", true)
  | 2 => ("RowTypes$Reader", "branchLabels", "[I", true)
  | 3 => ("RowTypes$Reader", "into", "LRowTypes$Expression;", false)
  | _ => ("RowTypes$Reader", "at", "I", false)
def tyX6 : Nat → FieldType := fun k => match k with
  | 0 => .object "RowTypes$Ints"
  | 1 => .array .int
  | 2 => .array .int
  | 3 => .object "RowTypes$Expression"
  | _ => .int
abbrev wsX60 : List Cond := u_ws RX6 TX6 5
theorem nmX6 : ∀ a, a < 5 → ∀ b, b < 5 → a ≠ b → (TX6 a).2.1 ≠ (TX6 b).2.1 := by decide +kernel
theorem tyX6_ok : ∀ k, k < 5 → parseFieldDescriptor (TX6 k).2.2.1 = some (tyX6 k) := by decide +kernel
abbrev cX6_init : ByteArray := prog_8_method_1_code
def yX6_init : MethodName := ⟨RX6, "<init>", "()V"⟩
abbrev cX6_read : ByteArray := prog_8_method_2_code
def yX6_read : MethodName := ⟨RX6, "read", "([IILRowTypes$Expression;)I"⟩
abbrev cX6_accepts : ByteArray := prog_8_method_3_code
def yX6_accepts : MethodName := ⟨RX6, "accepts", "(II)Z"⟩
abbrev cX6_acceptsExpression : ByteArray := prog_8_method_5_code
def yX6_acceptsExpression : MethodName := ⟨RX6, "acceptsExpression", "()Z"⟩
abbrev cX6_kindOf : ByteArray := prog_8_method_9_code
def yX6_kindOf : MethodName := ⟨RX6, "kindOf", "(II)I"⟩
def RX7 : String := "RowTypes$Scribe"
def TX7 : u_T := fun k => match k with
  | 0 => ("RowTypes$Scribe", "due", "LRowTypes$Ints;", true)
  | 1 => ("RowTypes$Scribe", "signs", "LRowTypes$Ints;", true)
  | 2 => ("RowTypes$Scribe", "part", "I", false)
  | _ => ("RowTypes$Scribe", "signOfPart", "J", false)
def tyX7 : Nat → FieldType := fun k => match k with
  | 0 => .object "RowTypes$Ints"
  | 1 => .object "RowTypes$Ints"
  | 2 => .int
  | _ => .long
abbrev wsX70 : List Cond := u_ws RX7 TX7 4
theorem nmX7 : ∀ a, a < 4 → ∀ b, b < 4 → a ≠ b → (TX7 a).2.1 ≠ (TX7 b).2.1 := by decide +kernel
theorem tyX7_ok : ∀ k, k < 4 → parseFieldDescriptor (TX7 k).2.2.1 = some (tyX7 k) := by decide +kernel
abbrev cX7_init : ByteArray := prog_9_method_1_code
def yX7_init : MethodName := ⟨RX7, "<init>", "()V"⟩
def RX8 : String := "RowTypes$Survey"
def TX8 : u_T := fun k => match k with
  | 0 => ("RowTypes$Survey", "due", "LRowTypes$Ints;", true)
  | 1 => ("RowTypes$Survey", "freeNames", "I", false)
  | _ => ("RowTypes$Survey", "deepest", "I", false)
def tyX8 : Nat → FieldType := fun k => match k with
  | 0 => .object "RowTypes$Ints"
  | 1 => .int
  | _ => .int
abbrev wsX80 : List Cond := u_ws RX8 TX8 3
theorem nmX8 : ∀ a, a < 3 → ∀ b, b < 3 → a ≠ b → (TX8 a).2.1 ≠ (TX8 b).2.1 := by decide +kernel
theorem tyX8_ok : ∀ k, k < 3 → parseFieldDescriptor (TX8 k).2.2.1 = some (tyX8 k) := by decide +kernel
abbrev cX8_init : ByteArray := prog_10_method_1_code
def yX8_init : MethodName := ⟨RX8, "<init>", "()V"⟩
def RX9 : String := "RowTypes$TypeReader"
def TX9 : u_T := fun k => match k with
  | 0 => ("RowTypes$TypeReader", "nodes", "LRowTypes$Nodes;", true)
  | 1 => ("RowTypes$TypeReader", "due", "LRowTypes$Ints;", true)
  | 2 => ("RowTypes$TypeReader", "built", "LRowTypes$Ints;", true)
  | 3 => ("RowTypes$TypeReader", "signs", "[I", false)
  | 4 => ("RowTypes$TypeReader", "length", "I", false)
  | 5 => ("RowTypes$TypeReader", "at", "I", false)
  | _ => ("RowTypes$TypeReader", "result", "I", false)
def tyX9 : Nat → FieldType := fun k => match k with
  | 0 => .object "RowTypes$Nodes"
  | 1 => .object "RowTypes$Ints"
  | 2 => .object "RowTypes$Ints"
  | 3 => .array .int
  | 4 => .int
  | 5 => .int
  | _ => .int
abbrev wsX90 : List Cond := u_ws RX9 TX9 7
theorem nmX9 : ∀ a, a < 7 → ∀ b, b < 7 → a ≠ b → (TX9 a).2.1 ≠ (TX9 b).2.1 := by decide +kernel
theorem tyX9_ok : ∀ k, k < 7 → parseFieldDescriptor (TX9 k).2.2.1 = some (tyX9 k) := by decide +kernel
abbrev cX9_init : ByteArray := prog_11_method_1_code
def yX9_init : MethodName := ⟨RX9, "<init>", "(LRowTypes$Nodes;)V"⟩
def RX10 : String := "RowTypes$Unifier"
def TX10 : u_T := fun k => match k with
  | 0 => ("RowTypes$Unifier", "nodes", "LRowTypes$Nodes;", true)
  | 1 => ("RowTypes$Unifier", "due", "LRowTypes$Ints;", true)
  | 2 => ("RowTypes$Unifier", "fault", "I", false)
  | 3 => ("RowTypes$Unifier", "label", "I", false)
  | _ => ("RowTypes$Unifier", "becameSame", "Z", false)
def tyX10 : Nat → FieldType := fun k => match k with
  | 0 => .object "RowTypes$Nodes"
  | 1 => .object "RowTypes$Ints"
  | 2 => .int
  | 3 => .int
  | _ => .boolean
abbrev wsX100 : List Cond := u_ws RX10 TX10 5
theorem nmX10 : ∀ a, a < 5 → ∀ b, b < 5 → a ≠ b → (TX10 a).2.1 ≠ (TX10 b).2.1 := by decide +kernel
theorem tyX10_ok : ∀ k, k < 5 → parseFieldDescriptor (TX10 k).2.2.1 = some (tyX10 k) := by decide +kernel
abbrev cX10_init : ByteArray := prog_12_method_1_code
def yX10_init : MethodName := ⟨RX10, "<init>", "(LRowTypes$Nodes;)V"⟩
def RX11 : String := "RowTypes"
def TX11 : u_T := fun k => match k with
  | 0 => ("RowTypes", "text", "[I", true)
  | 1 => ("RowTypes", "textLength", "I", false)
  | 2 => ("RowTypes", "texts", "[LRowTypes$Expression;", true)
  | 3 => ("RowTypes", "definitions", "I", false)
  | 4 => ("RowTypes", "hasIt", "Z", false)
  | 5 => ("RowTypes", "answer", "LRowTypes$Kept;", false)
  | 6 => ("RowTypes", "made", "LRowTypes$Kept;", false)
  | 7 => ("RowTypes", "hasAnswer", "Z", false)
  | 8 => ("RowTypes", "told", "[I", true)
  | 9 => ("RowTypes", "toldLength", "I", false)
  | 10 => ("RowTypes", "workedOut", "I", false)
  | 11 => ("RowTypes", "reader", "LRowTypes$Reader;", true)
  | 12 => ("RowTypes", "nodes", "LRowTypes$Nodes;", true)
  | 13 => ("RowTypes", "typeReader", "LRowTypes$TypeReader;", true)
  | 14 => ("RowTypes", "unifier", "LRowTypes$Unifier;", true)
  | 15 => ("RowTypes", "finder", "LRowTypes$Finder;", true)
  | 16 => ("RowTypes", "machine", "LRowTypes$Machine;", true)
  | 17 => ("RowTypes", "survey", "LRowTypes$Survey;", true)
  | _ => ("RowTypes", "scribe", "LRowTypes$Scribe;", true)
def tyX11 : Nat → FieldType := fun k => match k with
  | 0 => .array .int
  | 1 => .int
  | 2 => .array (.object "RowTypes$Expression")
  | 3 => .int
  | 4 => .boolean
  | 5 => .object "RowTypes$Kept"
  | 6 => .object "RowTypes$Kept"
  | 7 => .boolean
  | 8 => .array .int
  | 9 => .int
  | 10 => .int
  | 11 => .object "RowTypes$Reader"
  | 12 => .object "RowTypes$Nodes"
  | 13 => .object "RowTypes$TypeReader"
  | 14 => .object "RowTypes$Unifier"
  | 15 => .object "RowTypes$Finder"
  | 16 => .object "RowTypes$Machine"
  | 17 => .object "RowTypes$Survey"
  | _ => .object "RowTypes$Scribe"
abbrev wsX110 : List Cond := u_ws RX11 TX11 19
theorem nmX11 : ∀ a, a < 19 → ∀ b, b < 19 → a ≠ b → (TX11 a).2.1 ≠ (TX11 b).2.1 := by decide +kernel
theorem tyX11_ok : ∀ k, k < 19 → parseFieldDescriptor (TX11 k).2.2.1 = some (tyX11 k) := by decide +kernel
abbrev cX11_init : ByteArray := prog_1_method_1_code
def yX11_init : MethodName := ⟨RX11, "<init>", "()V"⟩
abbrev cX11_sign : ByteArray := prog_1_method_2_code
def yX11_sign : MethodName := ⟨RX11, "sign", "(I)I"⟩
abbrev cX11_end : ByteArray := prog_1_method_3_code
def yX11_end : MethodName := ⟨RX11, "end", "(I)Z"⟩
abbrev cX11_infers : ByteArray := prog_1_method_4_code
def yX11_infers : MethodName := ⟨RX11, "infers", "()I"⟩
abbrev cX11_defines : ByteArray := prog_1_method_5_code
def yX11_defines : MethodName := ⟨RX11, "defines", "()I"⟩
abbrev cX11_forgets : ByteArray := prog_1_method_6_code
def yX11_forgets : MethodName := ⟨RX11, "forgets", "(I)I"⟩
abbrev cX11_size : ByteArray := prog_1_method_7_code
def yX11_size : MethodName := ⟨RX11, "size", "(I)I"⟩
abbrev cX11_type : ByteArray := prog_1_method_8_code
def yX11_type : MethodName := ⟨RX11, "type", "(II)I"⟩
abbrev cX11_lacks : ByteArray := prog_1_method_9_code
def yX11_lacks : MethodName := ⟨RX11, "lacks", "(II)I"⟩
abbrev cX11_sort : ByteArray := prog_1_method_10_code
def yX11_sort : MethodName := ⟨RX11, "sort", "(I)I"⟩
abbrev cX11_needs : ByteArray := prog_1_method_11_code
def yX11_needs : MethodName := ⟨RX11, "needs", "(I)I"⟩
abbrev cX11_field : ByteArray := prog_1_method_12_code
def yX11_field : MethodName := ⟨RX11, "field", "(II)I"⟩
abbrev cX11_side : ByteArray := prog_1_method_13_code
def yX11_side : MethodName := ⟨RX11, "side", "(II)I"⟩
abbrev cX11_closes : ByteArray := prog_1_method_14_code
def yX11_closes : MethodName := ⟨RX11, "closes", "(I)I"⟩
abbrev cX11_fits : ByteArray := prog_1_method_15_code
def yX11_fits : MethodName := ⟨RX11, "fits", "(I)I"⟩
abbrev cX11_above : ByteArray := prog_1_method_16_code
def yX11_above : MethodName := ⟨RX11, "above", "(II)I"⟩
abbrev cX11_meets : ByteArray := prog_1_method_17_code
def yX11_meets : MethodName := ⟨RX11, "meets", "(II)I"⟩
abbrev cX11_applies : ByteArray := prog_1_method_18_code
def yX11_applies : MethodName := ⟨RX11, "applies", "(II)I"⟩
abbrev cX11_part : ByteArray := prog_1_method_19_code
def yX11_part : MethodName := ⟨RX11, "part", "(II)I"⟩
abbrev cX11_steps : ByteArray := prog_1_method_20_code
def yX11_steps : MethodName := ⟨RX11, "steps", "(I)I"⟩
abbrev cX11_value : ByteArray := prog_1_method_21_code
def yX11_value : MethodName := ⟨RX11, "value", "(II)I"⟩
abbrev cX11_taken : ByteArray := prog_1_method_22_code
def yX11_taken : MethodName := ⟨RX11, "taken", "(II)I"⟩
abbrev cX11_parts : ByteArray := prog_1_method_23_code
def yX11_parts : MethodName := ⟨RX11, "parts", "(I)I"⟩
abbrev cX11_often : ByteArray := prog_1_method_24_code
def yX11_often : MethodName := ⟨RX11, "often", "(II)I"⟩
abbrev cX11_free : ByteArray := prog_1_method_25_code
def yX11_free : MethodName := ⟨RX11, "free", "(I)I"⟩
abbrev cX11_count : ByteArray := prog_1_method_26_code
def yX11_count : MethodName := ⟨RX11, "count", "(I)I"⟩
abbrev cX11_row : ByteArray := prog_1_method_27_code
def yX11_row : MethodName := ⟨RX11, "row", "(I)J"⟩
abbrev cX11_textOf : ByteArray := prog_1_method_28_code
def yX11_textOf : MethodName := ⟨RX11, "textOf", "(I)I"⟩
abbrev cX11_keptOf : ByteArray := prog_1_method_29_code
def yX11_keptOf : MethodName := ⟨RX11, "keptOf", "(I)LRowTypes$Kept;"⟩
abbrev cX11_readText : ByteArray := prog_1_method_30_code
def yX11_readText : MethodName := ⟨RX11, "readText", "()I"⟩
abbrev cX11_nameBit : ByteArray := prog_1_method_43_code
def yX11_nameBit : MethodName := ⟨RX11, "nameBit", "(I)I"⟩
def RX12 : String := "RowTypesModel"
def TX12 : u_T := fun k => match k with
  | 0 => ("RowTypesModel", "text", "[B", true)
  | 1 => ("RowTypesModel", "typed", "I", false)
  | 2 => ("RowTypesModel", "row", "[J", true)
  | 3 => ("RowTypesModel", "rowMany", "I", false)
  | 4 => ("RowTypesModel", "thrown", "I", false)
  | 5 => ("RowTypesModel", "kind", "[I", true)
  | 6 => ("RowTypesModel", "place", "[I", true)
  | 7 => ("RowTypesModel", "label", "[I", true)
  | 8 => ("RowTypesModel", "label2", "[I", true)
  | 9 => ("RowTypesModel", "name", "[I", true)
  | 10 => ("RowTypesModel", "one", "[I", true)
  | 11 => ("RowTypesModel", "two", "[I", true)
  | 12 => ("RowTypesModel", "next", "[I", true)
  | 13 => ("RowTypesModel", "nodeMany", "[I", true)
  | 14 => ("RowTypesModel", "rootOf", "[I", true)
  | 15 => ("RowTypesModel", "definedMany", "I", false)
  | 16 => ("RowTypesModel", "hasIt", "Z", false)
  | 17 => ("RowTypesModel", "length", "I", false)
  | 18 => ("RowTypesModel", "at", "I", false)
  | 19 => ("RowTypesModel", "wrong", "I", false)
  | 20 => ("RowTypesModel", "sortOf", "[I", true)
  | 21 => ("RowTypesModel", "left", "[I", true)
  | 22 => ("RowTypesModel", "right", "[I", true)
  | 23 => ("RowTypesModel", "typeMany", "I", false)
  | 24 => ("RowTypesModel", "fields", "[I", true)
  | 25 => ("RowTypesModel", "endOf", "[I", true)
  | 26 => ("RowTypesModel", "rows", "I", false)
  | 27 => ("RowTypesModel", "lacking", "[I", true)
  | 28 => ("RowTypesModel", "leads", "[I", true)
  | 29 => ("RowTypesModel", "ends", "I", false)
  | 30 => ("RowTypesModel", "bad", "I", false)
  | 31 => ("RowTypesModel", "badPlace", "I", false)
  | 32 => ("RowTypesModel", "badLabel", "I", false)
  | 33 => ("RowTypesModel", "heldType", "[I", true)
  | 34 => ("RowTypesModel", "heldEnd", "[I", true)
  | 35 => ("RowTypesModel", "freshType", "[I", true)
  | 36 => ("RowTypesModel", "freshEnd", "[I", true)
  | 37 => ("RowTypesModel", "aroundName", "[I", true)
  | 38 => ("RowTypesModel", "aroundType", "[I", true)
  | 39 => ("RowTypesModel", "aroundHeld", "[I", true)
  | 40 => ("RowTypesModel", "around", "I", false)
  | 41 => ("RowTypesModel", "typeOf", "[I", true)
  | 42 => ("RowTypesModel", "walk", "[I", true)
  | 43 => ("RowTypesModel", "lackOf", "[I", true)
  | 44 => ("RowTypesModel", "variables", "[I", true)
  | 45 => ("RowTypesModel", "great", "[I", true)
  | 46 => ("RowTypesModel", "hasAnswer", "Z", false)
  | 47 => ("RowTypesModel", "numberType", "[I", true)
  | 48 => ("RowTypesModel", "numberEnd", "[I", true)
  | 49 => ("RowTypesModel", "written", "I", false)
  | 50 => ("RowTypesModel", "loaded", "[I", true)
  | 51 => ("RowTypesModel", "cursor", "I", false)
  | 52 => ("RowTypesModel", "out", "[I", true)
  | 53 => ("RowTypesModel", "outMany", "I", false)
  | 54 => ("RowTypesModel", "standsType", "[I", true)
  | 55 => ("RowTypesModel", "standsRow", "[I", true)
  | 56 => ("RowTypesModel", "valueSort", "[I", true)
  | 57 => ("RowTypesModel", "valueNumber", "[I", true)
  | 58 => ("RowTypesModel", "valueHas", "[I", true)
  | 59 => ("RowTypesModel", "valueFields", "[I", true)
  | 60 => ("RowTypesModel", "valueMany", "I", false)
  | 61 => ("RowTypesModel", "boundName", "[I", true)
  | 62 => ("RowTypesModel", "boundValue", "[I", true)
  | 63 => ("RowTypesModel", "boundNext", "[I", true)
  | 64 => ("RowTypesModel", "boundMany", "I", false)
  | _ => ("RowTypesModel", "done", "I", false)
def tyX12 : Nat → FieldType := fun k => match k with
  | 0 => .array .byte
  | 1 => .int
  | 2 => .array .long
  | 3 => .int
  | 4 => .int
  | 5 => .array .int
  | 6 => .array .int
  | 7 => .array .int
  | 8 => .array .int
  | 9 => .array .int
  | 10 => .array .int
  | 11 => .array .int
  | 12 => .array .int
  | 13 => .array .int
  | 14 => .array .int
  | 15 => .int
  | 16 => .boolean
  | 17 => .int
  | 18 => .int
  | 19 => .int
  | 20 => .array .int
  | 21 => .array .int
  | 22 => .array .int
  | 23 => .int
  | 24 => .array .int
  | 25 => .array .int
  | 26 => .int
  | 27 => .array .int
  | 28 => .array .int
  | 29 => .int
  | 30 => .int
  | 31 => .int
  | 32 => .int
  | 33 => .array .int
  | 34 => .array .int
  | 35 => .array .int
  | 36 => .array .int
  | 37 => .array .int
  | 38 => .array .int
  | 39 => .array .int
  | 40 => .int
  | 41 => .array .int
  | 42 => .array .int
  | 43 => .array .int
  | 44 => .array .int
  | 45 => .array .int
  | 46 => .boolean
  | 47 => .array .int
  | 48 => .array .int
  | 49 => .int
  | 50 => .array .int
  | 51 => .int
  | 52 => .array .int
  | 53 => .int
  | 54 => .array .int
  | 55 => .array .int
  | 56 => .array .int
  | 57 => .array .int
  | 58 => .array .int
  | 59 => .array .int
  | 60 => .int
  | 61 => .array .int
  | 62 => .array .int
  | 63 => .array .int
  | 64 => .int
  | _ => .int
abbrev wsX120 : List Cond := u_ws RX12 TX12 66
theorem nmX12 : ∀ a, a < 66 → ∀ b, b < 66 → a ≠ b → (TX12 a).2.1 ≠ (TX12 b).2.1 := by decide +kernel
theorem tyX12_ok : ∀ k, k < 66 → parseFieldDescriptor (TX12 k).2.2.1 = some (tyX12 k) := by decide +kernel
abbrev cX12_init : ByteArray := prog_14_method_1_code
def yX12_init : MethodName := ⟨RX12, "<init>", "()V"⟩
abbrev cX12_thrown : ByteArray := prog_14_method_2_code
def yX12_thrown : MethodName := ⟨RX12, "thrown", "()I"⟩
abbrev cX12_in : ByteArray := prog_14_method_3_code
def yX12_in : MethodName := ⟨RX12, "in", "(JJJ)Z"⟩
abbrev cX12_lost : ByteArray := prog_14_method_4_code
def yX12_lost : MethodName := ⟨RX12, "lost", "()I"⟩
abbrev cX12_sign : ByteArray := prog_14_method_6_code
def yX12_sign : MethodName := ⟨RX12, "sign", "(I)I"⟩
abbrev cX12_end : ByteArray := prog_14_method_7_code
def yX12_end : MethodName := ⟨RX12, "end", "(I)Z"⟩
abbrev cX12_here : ByteArray := prog_14_method_8_code
def yX12_here : MethodName := ⟨RX12, "here", "()I"⟩
abbrev cX12_fault : ByteArray := prog_14_method_9_code
def yX12_fault : MethodName := ⟨RX12, "fault", "()V"⟩
abbrev cX12_begin : ByteArray := prog_14_method_10_code
def yX12_begin : MethodName := ⟨RX12, "begin", "()V"⟩
abbrev cX12_readOne : ByteArray := prog_14_method_15_code
def yX12_readOne : MethodName := ⟨RX12, "readOne", "()I"⟩
abbrev cX12_readAside : ByteArray := prog_14_method_25_code
def yX12_readAside : MethodName := ⟨RX12, "readAside", "()I"⟩
abbrev cX12_infers : ByteArray := prog_14_method_75_code
def yX12_infers : MethodName := ⟨RX12, "infers", "()I"⟩
abbrev cX12_defines : ByteArray := prog_14_method_76_code
def yX12_defines : MethodName := ⟨RX12, "defines", "()I"⟩
abbrev cX12_forgets : ByteArray := prog_14_method_78_code
def yX12_forgets : MethodName := ⟨RX12, "forgets", "(I)I"⟩
abbrev cX12_slotOf : ByteArray := prog_14_method_79_code
def yX12_slotOf : MethodName := ⟨RX12, "slotOf", "(I)I"⟩
abbrev cX12_size : ByteArray := prog_14_method_81_code
def yX12_size : MethodName := ⟨RX12, "size", "(I)I"⟩
abbrev cX12_type : ByteArray := prog_14_method_88_code
def yX12_type : MethodName := ⟨RX12, "type", "(II)I"⟩
abbrev cX12_lacks : ByteArray := prog_14_method_89_code
def yX12_lacks : MethodName := ⟨RX12, "lacks", "(II)I"⟩
abbrev cX12_sort : ByteArray := prog_14_method_92_code
def yX12_sort : MethodName := ⟨RX12, "sort", "(I)I"⟩
abbrev cX12_needs : ByteArray := prog_14_method_93_code
def yX12_needs : MethodName := ⟨RX12, "needs", "(I)I"⟩
abbrev cX12_field : ByteArray := prog_14_method_94_code
def yX12_field : MethodName := ⟨RX12, "field", "(II)I"⟩
abbrev cX12_side : ByteArray := prog_14_method_95_code
def yX12_side : MethodName := ⟨RX12, "side", "(II)I"⟩
abbrev cX12_closes : ByteArray := prog_14_method_96_code
def yX12_closes : MethodName := ⟨RX12, "closes", "(I)I"⟩
abbrev cX12_fits : ByteArray := prog_14_method_99_code
def yX12_fits : MethodName := ⟨RX12, "fits", "(I)I"⟩
abbrev cX12_above : ByteArray := prog_14_method_105_code
def yX12_above : MethodName := ⟨RX12, "above", "(II)I"⟩
abbrev cX12_meets : ByteArray := prog_14_method_107_code
def yX12_meets : MethodName := ⟨RX12, "meets", "(II)I"⟩
abbrev cX12_applies : ByteArray := prog_14_method_108_code
def yX12_applies : MethodName := ⟨RX12, "applies", "(II)I"⟩
abbrev cX12_textSlot : ByteArray := prog_14_method_109_code
def yX12_textSlot : MethodName := ⟨RX12, "textSlot", "(I)I"⟩
abbrev cX12_part : ByteArray := prog_14_method_110_code
def yX12_part : MethodName := ⟨RX12, "part", "(II)I"⟩
abbrev cX12_steps : ByteArray := prog_14_method_125_code
def yX12_steps : MethodName := ⟨RX12, "steps", "(I)I"⟩
abbrev cX12_value : ByteArray := prog_14_method_128_code
def yX12_value : MethodName := ⟨RX12, "value", "(II)I"⟩
abbrev cX12_taken : ByteArray := prog_14_method_129_code
def yX12_taken : MethodName := ⟨RX12, "taken", "(II)I"⟩
abbrev cX12_parts : ByteArray := prog_14_method_131_code
def yX12_parts : MethodName := ⟨RX12, "parts", "(I)I"⟩
abbrev cX12_often : ByteArray := prog_14_method_133_code
def yX12_often : MethodName := ⟨RX12, "often", "(II)I"⟩
abbrev cX12_free : ByteArray := prog_14_method_135_code
def yX12_free : MethodName := ⟨RX12, "free", "(I)I"⟩
abbrev cX12_count : ByteArray := prog_14_method_136_code
def yX12_count : MethodName := ⟨RX12, "count", "(I)I"⟩
abbrev cX12_row : ByteArray := prog_14_method_137_code
def yX12_row : MethodName := ⟨RX12, "row", "(I)J"⟩
def RL : String := "RowTypesLaw"
abbrev cL_row : ByteArray := method_3_code
def yL_row : MethodName := ⟨RL, "row", "(LRowTypes;I[J)I"⟩
abbrev cL_law : ByteArray := code
def yL_law : MethodName := ⟨RL, "law", "([I)Z"⟩
abbrev vwCl : List vw_C := [(RX0, TX0, 5), (RX1, TX1, 16), (RX2, TX2, 2), (RX3, TX3, 5), (RX4, TX4, 17), (RX5, TX5, 12), (RX6, TX6, 5), (RX7, TX7, 4), (RX8, TX8, 3), (RX9, TX9, 7), (RX10, TX10, 5), (RX11, TX11, 19), (RX12, TX12, 66)]
theorem dX3_init_0 : decode cX3_init 0 = .ok (.aload_n 0, 1) := by decide +kernel
theorem dX3_init_1 : decode cX3_init 1 = .ok (.invokespecial 3, 3) := by decide +kernel
theorem dX3_init_4 : decode cX3_init 4 = .ok (.aload_n 0, 1) := by decide +kernel
theorem dX3_init_5 : decode cX3_init 5 = .ok (.bipush 61, 2) := by decide +kernel
theorem dX3_init_7 : decode cX3_init 7 = .ok (.newarray .int, 2) := by decide +kernel
theorem dX3_init_9 : decode cX3_init 9 = .ok (.putfield 9, 3) := by decide +kernel
theorem dX3_init_12 : decode cX3_init 12 = .ok (.aload_n 0, 1) := by decide +kernel
theorem dX3_init_13 : decode cX3_init 13 = .ok (.bipush 61, 2) := by decide +kernel
theorem dX3_init_15 : decode cX3_init 15 = .ok (.newarray .int, 2) := by decide +kernel
theorem dX3_init_17 : decode cX3_init 17 = .ok (.putfield 15, 3) := by decide +kernel
theorem dX3_init_20 : decode cX3_init 20 = .ok (.aload_n 0, 1) := by decide +kernel
theorem dX3_init_21 : decode cX3_init 21 = .ok (.bipush 61, 2) := by decide +kernel
theorem dX3_init_23 : decode cX3_init 23 = .ok (.newarray .int, 2) := by decide +kernel
theorem dX3_init_25 : decode cX3_init 25 = .ok (.putfield 18, 3) := by decide +kernel
theorem dX3_init_28 : decode cX3_init 28 = .ok (.return_, 1) := by decide +kernel
theorem dX2_init_0 : decode cX2_init 0 = .ok (.aload_n 0, 1) := by decide +kernel
theorem dX2_init_1 : decode cX2_init 1 = .ok (.invokespecial 3, 3) := by decide +kernel
theorem dX2_init_4 : decode cX2_init 4 = .ok (.aload_n 0, 1) := by decide +kernel
theorem dX2_init_5 : decode cX2_init 5 = .ok (.sipush 256, 3) := by decide +kernel
theorem dX2_init_8 : decode cX2_init 8 = .ok (.newarray .int, 2) := by decide +kernel
theorem dX2_init_10 : decode cX2_init 10 = .ok (.putfield 9, 3) := by decide +kernel
theorem dX2_init_13 : decode cX2_init 13 = .ok (.return_, 1) := by decide +kernel
theorem dX0_init_0 : decode cX0_init 0 = .ok (.aload_n 0, 1) := by decide +kernel
theorem dX0_init_1 : decode cX0_init 1 = .ok (.invokespecial 3, 3) := by decide +kernel
theorem dX0_init_4 : decode cX0_init 4 = .ok (.aload_n 0, 1) := by decide +kernel
theorem dX0_init_5 : decode cX0_init 5 = .ok (.bipush 100, 2) := by decide +kernel
theorem dX0_init_7 : decode cX0_init 7 = .ok (.newarray .int, 2) := by decide +kernel
theorem dX0_init_9 : decode cX0_init 9 = .ok (.putfield 9, 3) := by decide +kernel
theorem dX0_init_12 : decode cX0_init 12 = .ok (.aload_n 0, 1) := by decide +kernel
theorem dX0_init_13 : decode cX0_init 13 = .ok (.bipush 100, 2) := by decide +kernel
theorem dX0_init_15 : decode cX0_init 15 = .ok (.newarray .int, 2) := by decide +kernel
theorem dX0_init_17 : decode cX0_init 17 = .ok (.putfield 15, 3) := by decide +kernel
theorem dX0_init_20 : decode cX0_init 20 = .ok (.aload_n 0, 1) := by decide +kernel
theorem dX0_init_21 : decode cX0_init 21 = .ok (.bipush 100, 2) := by decide +kernel
theorem dX0_init_23 : decode cX0_init 23 = .ok (.newarray .int, 2) := by decide +kernel
theorem dX0_init_25 : decode cX0_init 25 = .ok (.putfield 18, 3) := by decide +kernel
theorem dX0_init_28 : decode cX0_init 28 = .ok (.aload_n 0, 1) := by decide +kernel
theorem dX0_init_29 : decode cX0_init 29 = .ok (.new 21, 3) := by decide +kernel
theorem dX0_init_32 : decode cX0_init 32 = .ok (.dup, 1) := by decide +kernel
theorem dX0_init_33 : decode cX0_init 33 = .ok (.invokespecial 23, 3) := by decide +kernel
theorem dX0_init_36 : decode cX0_init 36 = .ok (.putfield 24, 3) := by decide +kernel
theorem dX0_init_39 : decode cX0_init 39 = .ok (.return_, 1) := by decide +kernel
theorem dX6_init_0 : decode cX6_init 0 = .ok (.aload_n 0, 1) := by decide +kernel
theorem dX6_init_1 : decode cX6_init 1 = .ok (.invokespecial 3, 3) := by decide +kernel
theorem dX6_init_4 : decode cX6_init 4 = .ok (.aload_n 0, 1) := by decide +kernel
theorem dX6_init_5 : decode cX6_init 5 = .ok (.new 9, 3) := by decide +kernel
theorem dX6_init_8 : decode cX6_init 8 = .ok (.dup, 1) := by decide +kernel
theorem dX6_init_9 : decode cX6_init 9 = .ok (.invokespecial 11, 3) := by decide +kernel
theorem dX6_init_12 : decode cX6_init 12 = .ok (.putfield 12, 3) := by decide +kernel
theorem dX6_init_15 : decode cX6_init 15 = .ok (.aload_n 0, 1) := by decide +kernel
theorem dX6_init_16 : decode cX6_init 16 = .ok (.bipush 100, 2) := by decide +kernel
theorem dX6_init_18 : decode cX6_init 18 = .ok (.newarray .int, 2) := by decide +kernel
theorem dX6_init_20 : decode cX6_init 20 = .ok (.putfield 18, 3) := by decide +kernel
theorem dX6_init_23 : decode cX6_init 23 = .ok (.aload_n 0, 1) := by decide +kernel
theorem dX6_init_24 : decode cX6_init 24 = .ok (.bipush 100, 2) := by decide +kernel
theorem dX6_init_26 : decode cX6_init 26 = .ok (.newarray .int, 2) := by decide +kernel
theorem dX6_init_28 : decode cX6_init 28 = .ok (.putfield 22, 3) := by decide +kernel
theorem dX6_init_31 : decode cX6_init 31 = .ok (.return_, 1) := by decide +kernel
theorem dX5_init_0 : decode cX5_init 0 = .ok (.aload_n 0, 1) := by decide +kernel
theorem dX5_init_1 : decode cX5_init 1 = .ok (.invokespecial 3, 3) := by decide +kernel
theorem dX5_init_4 : decode cX5_init 4 = .ok (.aload_n 0, 1) := by decide +kernel
theorem dX5_init_5 : decode cX5_init 5 = .ok (.sipush 1024, 3) := by decide +kernel
theorem dX5_init_8 : decode cX5_init 8 = .ok (.newarray .int, 2) := by decide +kernel
theorem dX5_init_10 : decode cX5_init 10 = .ok (.putfield 11, 3) := by decide +kernel
theorem dX5_init_13 : decode cX5_init 13 = .ok (.aload_n 0, 1) := by decide +kernel
theorem dX5_init_14 : decode cX5_init 14 = .ok (.sipush 1024, 3) := by decide +kernel
theorem dX5_init_17 : decode cX5_init 17 = .ok (.newarray .int, 2) := by decide +kernel
theorem dX5_init_19 : decode cX5_init 19 = .ok (.putfield 15, 3) := by decide +kernel
theorem dX5_init_22 : decode cX5_init 22 = .ok (.aload_n 0, 1) := by decide +kernel
theorem dX5_init_23 : decode cX5_init 23 = .ok (.sipush 1024, 3) := by decide +kernel
theorem dX5_init_26 : decode cX5_init 26 = .ok (.newarray .int, 2) := by decide +kernel
theorem dX5_init_28 : decode cX5_init 28 = .ok (.putfield 18, 3) := by decide +kernel
theorem dX5_init_31 : decode cX5_init 31 = .ok (.aload_n 0, 1) := by decide +kernel
theorem dX5_init_32 : decode cX5_init 32 = .ok (.sipush 1024, 3) := by decide +kernel
theorem dX5_init_35 : decode cX5_init 35 = .ok (.newarray .int, 2) := by decide +kernel
theorem dX5_init_37 : decode cX5_init 37 = .ok (.putfield 21, 3) := by decide +kernel
theorem dX5_init_40 : decode cX5_init 40 = .ok (.aload_n 0, 1) := by decide +kernel
theorem dX5_init_41 : decode cX5_init 41 = .ok (.sipush 1024, 3) := by decide +kernel
theorem dX5_init_44 : decode cX5_init 44 = .ok (.newarray .int, 2) := by decide +kernel
theorem dX5_init_46 : decode cX5_init 46 = .ok (.putfield 24, 3) := by decide +kernel
theorem dX5_init_49 : decode cX5_init 49 = .ok (.aload_n 0, 1) := by decide +kernel
theorem dX5_init_50 : decode cX5_init 50 = .ok (.sipush 1024, 3) := by decide +kernel
theorem dX5_init_53 : decode cX5_init 53 = .ok (.newarray .int, 2) := by decide +kernel
theorem dX5_init_55 : decode cX5_init 55 = .ok (.putfield 27, 3) := by decide +kernel
theorem dX5_init_58 : decode cX5_init 58 = .ok (.aload_n 0, 1) := by decide +kernel
theorem dX5_init_59 : decode cX5_init 59 = .ok (.new 30, 3) := by decide +kernel
theorem dX5_init_62 : decode cX5_init 62 = .ok (.dup, 1) := by decide +kernel
theorem dX5_init_63 : decode cX5_init 63 = .ok (.invokespecial 32, 3) := by decide +kernel
theorem dX5_init_66 : decode cX5_init 66 = .ok (.putfield 33, 3) := by decide +kernel
theorem dX5_init_69 : decode cX5_init 69 = .ok (.aload_n 0, 1) := by decide +kernel
theorem dX5_init_70 : decode cX5_init 70 = .ok (.bipush 8, 2) := by decide +kernel
theorem dX5_init_72 : decode cX5_init 72 = .ok (.newarray .int, 2) := by decide +kernel
theorem dX5_init_74 : decode cX5_init 74 = .ok (.putfield 37, 3) := by decide +kernel
theorem dX5_init_77 : decode cX5_init 77 = .ok (.aload_n 0, 1) := by decide +kernel
theorem dX5_init_78 : decode cX5_init 78 = .ok (.bipush 8, 2) := by decide +kernel
theorem dX5_init_80 : decode cX5_init 80 = .ok (.newarray .int, 2) := by decide +kernel
theorem dX5_init_82 : decode cX5_init 82 = .ok (.putfield 40, 3) := by decide +kernel
theorem dX5_init_85 : decode cX5_init 85 = .ok (.aload_n 0, 1) := by decide +kernel
theorem dX5_init_86 : decode cX5_init 86 = .ok (.bipush 61, 2) := by decide +kernel
theorem dX5_init_88 : decode cX5_init 88 = .ok (.newarray .int, 2) := by decide +kernel
theorem dX5_init_90 : decode cX5_init 90 = .ok (.putfield 43, 3) := by decide +kernel
theorem dX5_init_93 : decode cX5_init 93 = .ok (.return_, 1) := by decide +kernel
theorem dX9_init_0 : decode cX9_init 0 = .ok (.aload_n 0, 1) := by decide +kernel
theorem dX9_init_1 : decode cX9_init 1 = .ok (.invokespecial 3, 3) := by decide +kernel
theorem dX9_init_4 : decode cX9_init 4 = .ok (.aload_n 0, 1) := by decide +kernel
theorem dX9_init_5 : decode cX9_init 5 = .ok (.new 9, 3) := by decide +kernel
theorem dX9_init_8 : decode cX9_init 8 = .ok (.dup, 1) := by decide +kernel
theorem dX9_init_9 : decode cX9_init 9 = .ok (.invokespecial 11, 3) := by decide +kernel
theorem dX9_init_12 : decode cX9_init 12 = .ok (.putfield 12, 3) := by decide +kernel
theorem dX9_init_15 : decode cX9_init 15 = .ok (.aload_n 0, 1) := by decide +kernel
theorem dX9_init_16 : decode cX9_init 16 = .ok (.new 9, 3) := by decide +kernel
theorem dX9_init_19 : decode cX9_init 19 = .ok (.dup, 1) := by decide +kernel
theorem dX9_init_20 : decode cX9_init 20 = .ok (.invokespecial 11, 3) := by decide +kernel
theorem dX9_init_23 : decode cX9_init 23 = .ok (.putfield 18, 3) := by decide +kernel
theorem dX9_init_26 : decode cX9_init 26 = .ok (.aload_n 0, 1) := by decide +kernel
theorem dX9_init_27 : decode cX9_init 27 = .ok (.aload_n 1, 1) := by decide +kernel
theorem dX9_init_28 : decode cX9_init 28 = .ok (.putfield 21, 3) := by decide +kernel
theorem dX9_init_31 : decode cX9_init 31 = .ok (.return_, 1) := by decide +kernel
theorem dX10_init_0 : decode cX10_init 0 = .ok (.aload_n 0, 1) := by decide +kernel
theorem dX10_init_1 : decode cX10_init 1 = .ok (.invokespecial 3, 3) := by decide +kernel
theorem dX10_init_4 : decode cX10_init 4 = .ok (.aload_n 0, 1) := by decide +kernel
theorem dX10_init_5 : decode cX10_init 5 = .ok (.new 9, 3) := by decide +kernel
theorem dX10_init_8 : decode cX10_init 8 = .ok (.dup, 1) := by decide +kernel
theorem dX10_init_9 : decode cX10_init 9 = .ok (.invokespecial 11, 3) := by decide +kernel
theorem dX10_init_12 : decode cX10_init 12 = .ok (.putfield 12, 3) := by decide +kernel
theorem dX10_init_15 : decode cX10_init 15 = .ok (.aload_n 0, 1) := by decide +kernel
theorem dX10_init_16 : decode cX10_init 16 = .ok (.aload_n 1, 1) := by decide +kernel
theorem dX10_init_17 : decode cX10_init 17 = .ok (.putfield 18, 3) := by decide +kernel
theorem dX10_init_20 : decode cX10_init 20 = .ok (.return_, 1) := by decide +kernel
theorem dX1_init_0 : decode cX1_init 0 = .ok (.aload_n 0, 1) := by decide +kernel
theorem dX1_init_1 : decode cX1_init 1 = .ok (.invokespecial 3, 3) := by decide +kernel
theorem dX1_init_4 : decode cX1_init 4 = .ok (.aload_n 0, 1) := by decide +kernel
theorem dX1_init_5 : decode cX1_init 5 = .ok (.bipush 100, 2) := by decide +kernel
theorem dX1_init_7 : decode cX1_init 7 = .ok (.newarray .int, 2) := by decide +kernel
theorem dX1_init_9 : decode cX1_init 9 = .ok (.putfield 9, 3) := by decide +kernel
theorem dX1_init_12 : decode cX1_init 12 = .ok (.aload_n 0, 1) := by decide +kernel
theorem dX1_init_13 : decode cX1_init 13 = .ok (.bipush 100, 2) := by decide +kernel
theorem dX1_init_15 : decode cX1_init 15 = .ok (.newarray .int, 2) := by decide +kernel
theorem dX1_init_17 : decode cX1_init 17 = .ok (.putfield 15, 3) := by decide +kernel
theorem dX1_init_20 : decode cX1_init 20 = .ok (.aload_n 0, 1) := by decide +kernel
theorem dX1_init_21 : decode cX1_init 21 = .ok (.bipush 100, 2) := by decide +kernel
theorem dX1_init_23 : decode cX1_init 23 = .ok (.newarray .int, 2) := by decide +kernel
theorem dX1_init_25 : decode cX1_init 25 = .ok (.putfield 18, 3) := by decide +kernel
theorem dX1_init_28 : decode cX1_init 28 = .ok (.aload_n 0, 1) := by decide +kernel
theorem dX1_init_29 : decode cX1_init 29 = .ok (.bipush 100, 2) := by decide +kernel
theorem dX1_init_31 : decode cX1_init 31 = .ok (.anewarray 21, 3) := by decide +kernel
theorem dX1_init_34 : decode cX1_init 34 = .ok (.putfield 23, 3) := by decide +kernel
theorem dX1_init_37 : decode cX1_init 37 = .ok (.aload_n 0, 1) := by decide +kernel
theorem dX1_init_38 : decode cX1_init 38 = .ok (.bipush 20, 2) := by decide +kernel
theorem dX1_init_40 : decode cX1_init 40 = .ok (.anewarray 21, 3) := by decide +kernel
theorem dX1_init_43 : decode cX1_init 43 = .ok (.putfield 27, 3) := by decide +kernel
theorem dX1_init_46 : decode cX1_init 46 = .ok (.aload_n 0, 1) := by decide +kernel
theorem dX1_init_47 : decode cX1_init 47 = .ok (.new 21, 3) := by decide +kernel
theorem dX1_init_50 : decode cX1_init 50 = .ok (.dup, 1) := by decide +kernel
theorem dX1_init_51 : decode cX1_init 51 = .ok (.invokespecial 30, 3) := by decide +kernel
theorem dX1_init_54 : decode cX1_init 54 = .ok (.putfield 31, 3) := by decide +kernel
theorem dX1_init_57 : decode cX1_init 57 = .ok (.aload_n 0, 1) := by decide +kernel
theorem dX1_init_58 : decode cX1_init 58 = .ok (.aload_n 1, 1) := by decide +kernel
theorem dX1_init_59 : decode cX1_init 59 = .ok (.putfield 35, 3) := by decide +kernel
theorem dX1_init_62 : decode cX1_init 62 = .ok (.aload_n 0, 1) := by decide +kernel
theorem dX1_init_63 : decode cX1_init 63 = .ok (.aload_n 2, 1) := by decide +kernel
theorem dX1_init_64 : decode cX1_init 64 = .ok (.putfield 39, 3) := by decide +kernel
theorem dX1_init_67 : decode cX1_init 67 = .ok (.aload_n 0, 1) := by decide +kernel
theorem dX1_init_68 : decode cX1_init 68 = .ok (.aload_n 3, 1) := by decide +kernel
theorem dX1_init_69 : decode cX1_init 69 = .ok (.putfield 43, 3) := by decide +kernel
theorem dX1_init_72 : decode cX1_init 72 = .ok (.iconst 0, 1) := by decide +kernel
theorem dX1_init_73 : decode cX1_init 73 = .ok (.istore 4, 2) := by decide +kernel
theorem dX1_init_75 : decode cX1_init 75 = .ok (.iload 4, 2) := by decide +kernel
theorem dX1_init_77 : decode cX1_init 77 = .ok (.aload_n 0, 1) := by decide +kernel
theorem dX1_init_78 : decode cX1_init 78 = .ok (.getfield 27, 3) := by decide +kernel
theorem dX1_init_81 : decode cX1_init 81 = .ok (.arraylength, 1) := by decide +kernel
theorem dX1_init_82 : decode cX1_init 82 = .ok (.if_icmp .ge 23, 3) := by decide +kernel
theorem dX1_init_85 : decode cX1_init 85 = .ok (.aload_n 0, 1) := by decide +kernel
theorem dX1_init_86 : decode cX1_init 86 = .ok (.getfield 27, 3) := by decide +kernel
theorem dX1_init_89 : decode cX1_init 89 = .ok (.iload 4, 2) := by decide +kernel
theorem dX1_init_91 : decode cX1_init 91 = .ok (.new 21, 3) := by decide +kernel
theorem dX1_init_94 : decode cX1_init 94 = .ok (.dup, 1) := by decide +kernel
theorem dX1_init_95 : decode cX1_init 95 = .ok (.invokespecial 30, 3) := by decide +kernel
theorem dX1_init_98 : decode cX1_init 98 = .ok (.aastore, 1) := by decide +kernel
theorem dX1_init_99 : decode cX1_init 99 = .ok (.iinc 4 1, 3) := by decide +kernel
theorem dX1_init_102 : decode cX1_init 102 = .ok (.goto (-27), 3) := by decide +kernel
theorem dX1_init_105 : decode cX1_init 105 = .ok (.return_, 1) := by decide +kernel
theorem dX4_init_0 : decode cX4_init 0 = .ok (.aload_n 0, 1) := by decide +kernel
theorem dX4_init_1 : decode cX4_init 1 = .ok (.invokespecial 3, 3) := by decide +kernel
theorem dX4_init_4 : decode cX4_init 4 = .ok (.aload_n 0, 1) := by decide +kernel
theorem dX4_init_5 : decode cX4_init 5 = .ok (.sipush 502, 3) := by decide +kernel
theorem dX4_init_8 : decode cX4_init 8 = .ok (.newarray .int, 2) := by decide +kernel
theorem dX4_init_10 : decode cX4_init 10 = .ok (.putfield 11, 3) := by decide +kernel
theorem dX4_init_13 : decode cX4_init 13 = .ok (.aload_n 0, 1) := by decide +kernel
theorem dX4_init_14 : decode cX4_init 14 = .ok (.sipush 502, 3) := by decide +kernel
theorem dX4_init_17 : decode cX4_init 17 = .ok (.newarray .int, 2) := by decide +kernel
theorem dX4_init_19 : decode cX4_init 19 = .ok (.putfield 15, 3) := by decide +kernel
theorem dX4_init_22 : decode cX4_init 22 = .ok (.aload_n 0, 1) := by decide +kernel
theorem dX4_init_23 : decode cX4_init 23 = .ok (.sipush 502, 3) := by decide +kernel
theorem dX4_init_26 : decode cX4_init 26 = .ok (.newarray .int, 2) := by decide +kernel
theorem dX4_init_28 : decode cX4_init 28 = .ok (.putfield 18, 3) := by decide +kernel
theorem dX4_init_31 : decode cX4_init 31 = .ok (.aload_n 0, 1) := by decide +kernel
theorem dX4_init_32 : decode cX4_init 32 = .ok (.sipush 502, 3) := by decide +kernel
theorem dX4_init_35 : decode cX4_init 35 = .ok (.newarray .int, 2) := by decide +kernel
theorem dX4_init_37 : decode cX4_init 37 = .ok (.putfield 21, 3) := by decide +kernel
theorem dX4_init_40 : decode cX4_init 40 = .ok (.aload_n 0, 1) := by decide +kernel
theorem dX4_init_41 : decode cX4_init 41 = .ok (.sipush 4016, 3) := by decide +kernel
theorem dX4_init_44 : decode cX4_init 44 = .ok (.newarray .int, 2) := by decide +kernel
theorem dX4_init_46 : decode cX4_init 46 = .ok (.putfield 24, 3) := by decide +kernel
theorem dX4_init_49 : decode cX4_init 49 = .ok (.aload_n 0, 1) := by decide +kernel
theorem dX4_init_50 : decode cX4_init 50 = .ok (.sipush 502, 3) := by decide +kernel
theorem dX4_init_53 : decode cX4_init 53 = .ok (.newarray .long, 2) := by decide +kernel
theorem dX4_init_55 : decode cX4_init 55 = .ok (.putfield 27, 3) := by decide +kernel
theorem dX4_init_58 : decode cX4_init 58 = .ok (.aload_n 0, 1) := by decide +kernel
theorem dX4_init_59 : decode cX4_init 59 = .ok (.sipush 502, 3) := by decide +kernel
theorem dX4_init_62 : decode cX4_init 62 = .ok (.newarray .int, 2) := by decide +kernel
theorem dX4_init_64 : decode cX4_init 64 = .ok (.putfield 31, 3) := by decide +kernel
theorem dX4_init_67 : decode cX4_init 67 = .ok (.aload_n 0, 1) := by decide +kernel
theorem dX4_init_68 : decode cX4_init 68 = .ok (.sipush 502, 3) := by decide +kernel
theorem dX4_init_71 : decode cX4_init 71 = .ok (.newarray .int, 2) := by decide +kernel
theorem dX4_init_73 : decode cX4_init 73 = .ok (.putfield 34, 3) := by decide +kernel
theorem dX4_init_76 : decode cX4_init 76 = .ok (.aload_n 0, 1) := by decide +kernel
theorem dX4_init_77 : decode cX4_init 77 = .ok (.sipush 502, 3) := by decide +kernel
theorem dX4_init_80 : decode cX4_init 80 = .ok (.newarray .int, 2) := by decide +kernel
theorem dX4_init_82 : decode cX4_init 82 = .ok (.putfield 37, 3) := by decide +kernel
theorem dX4_init_85 : decode cX4_init 85 = .ok (.aload_n 0, 1) := by decide +kernel
theorem dX4_init_86 : decode cX4_init 86 = .ok (.new 40, 3) := by decide +kernel
theorem dX4_init_89 : decode cX4_init 89 = .ok (.dup, 1) := by decide +kernel
theorem dX4_init_90 : decode cX4_init 90 = .ok (.invokespecial 42, 3) := by decide +kernel
theorem dX4_init_93 : decode cX4_init 93 = .ok (.putfield 43, 3) := by decide +kernel
theorem dX4_init_96 : decode cX4_init 96 = .ok (.aload_n 0, 1) := by decide +kernel
theorem dX4_init_97 : decode cX4_init 97 = .ok (.new 40, 3) := by decide +kernel
theorem dX4_init_100 : decode cX4_init 100 = .ok (.dup, 1) := by decide +kernel
theorem dX4_init_101 : decode cX4_init 101 = .ok (.invokespecial 42, 3) := by decide +kernel
theorem dX4_init_104 : decode cX4_init 104 = .ok (.putfield 47, 3) := by decide +kernel
theorem dX4_init_107 : decode cX4_init 107 = .ok (.aload_n 0, 1) := by decide +kernel
theorem dX4_init_108 : decode cX4_init 108 = .ok (.aload_n 1, 1) := by decide +kernel
theorem dX4_init_109 : decode cX4_init 109 = .ok (.putfield 50, 3) := by decide +kernel
theorem dX4_init_112 : decode cX4_init 112 = .ok (.return_, 1) := by decide +kernel
theorem dX8_init_0 : decode cX8_init 0 = .ok (.aload_n 0, 1) := by decide +kernel
theorem dX8_init_1 : decode cX8_init 1 = .ok (.invokespecial 3, 3) := by decide +kernel
theorem dX8_init_4 : decode cX8_init 4 = .ok (.aload_n 0, 1) := by decide +kernel
theorem dX8_init_5 : decode cX8_init 5 = .ok (.new 9, 3) := by decide +kernel
theorem dX8_init_8 : decode cX8_init 8 = .ok (.dup, 1) := by decide +kernel
theorem dX8_init_9 : decode cX8_init 9 = .ok (.invokespecial 11, 3) := by decide +kernel
theorem dX8_init_12 : decode cX8_init 12 = .ok (.putfield 12, 3) := by decide +kernel
theorem dX8_init_15 : decode cX8_init 15 = .ok (.return_, 1) := by decide +kernel
theorem dX7_init_0 : decode cX7_init 0 = .ok (.aload_n 0, 1) := by decide +kernel
theorem dX7_init_1 : decode cX7_init 1 = .ok (.invokespecial 3, 3) := by decide +kernel
theorem dX7_init_4 : decode cX7_init 4 = .ok (.aload_n 0, 1) := by decide +kernel
theorem dX7_init_5 : decode cX7_init 5 = .ok (.new 9, 3) := by decide +kernel
theorem dX7_init_8 : decode cX7_init 8 = .ok (.dup, 1) := by decide +kernel
theorem dX7_init_9 : decode cX7_init 9 = .ok (.invokespecial 11, 3) := by decide +kernel
theorem dX7_init_12 : decode cX7_init 12 = .ok (.putfield 12, 3) := by decide +kernel
theorem dX7_init_15 : decode cX7_init 15 = .ok (.aload_n 0, 1) := by decide +kernel
theorem dX7_init_16 : decode cX7_init 16 = .ok (.new 9, 3) := by decide +kernel
theorem dX7_init_19 : decode cX7_init 19 = .ok (.dup, 1) := by decide +kernel
theorem dX7_init_20 : decode cX7_init 20 = .ok (.invokespecial 11, 3) := by decide +kernel
theorem dX7_init_23 : decode cX7_init 23 = .ok (.putfield 18, 3) := by decide +kernel
theorem dX7_init_26 : decode cX7_init 26 = .ok (.return_, 1) := by decide +kernel
theorem dX11_init_0 : decode cX11_init 0 = .ok (.aload_n 0, 1) := by decide +kernel
theorem dX11_init_1 : decode cX11_init 1 = .ok (.invokespecial 3, 3) := by decide +kernel
theorem dX11_init_4 : decode cX11_init 4 = .ok (.aload_n 0, 1) := by decide +kernel
theorem dX11_init_5 : decode cX11_init 5 = .ok (.bipush 100, 2) := by decide +kernel
theorem dX11_init_7 : decode cX11_init 7 = .ok (.newarray .int, 2) := by decide +kernel
theorem dX11_init_9 : decode cX11_init 9 = .ok (.putfield 9, 3) := by decide +kernel
theorem dX11_init_12 : decode cX11_init 12 = .ok (.aload_n 0, 1) := by decide +kernel
theorem dX11_init_13 : decode cX11_init 13 = .ok (.bipush 10, 2) := by decide +kernel
theorem dX11_init_15 : decode cX11_init 15 = .ok (.anewarray 13, 3) := by decide +kernel
theorem dX11_init_18 : decode cX11_init 18 = .ok (.putfield 15, 3) := by decide +kernel
theorem dX11_init_21 : decode cX11_init 21 = .ok (.aload_n 0, 1) := by decide +kernel
theorem dX11_init_22 : decode cX11_init 22 = .ok (.new 19, 3) := by decide +kernel
theorem dX11_init_25 : decode cX11_init 25 = .ok (.dup, 1) := by decide +kernel
theorem dX11_init_26 : decode cX11_init 26 = .ok (.invokespecial 21, 3) := by decide +kernel
theorem dX11_init_29 : decode cX11_init 29 = .ok (.putfield 22, 3) := by decide +kernel
theorem dX11_init_32 : decode cX11_init 32 = .ok (.aload_n 0, 1) := by decide +kernel
theorem dX11_init_33 : decode cX11_init 33 = .ok (.new 19, 3) := by decide +kernel
theorem dX11_init_36 : decode cX11_init 36 = .ok (.dup, 1) := by decide +kernel
theorem dX11_init_37 : decode cX11_init 37 = .ok (.invokespecial 21, 3) := by decide +kernel
theorem dX11_init_40 : decode cX11_init 40 = .ok (.putfield 26, 3) := by decide +kernel
theorem dX11_init_43 : decode cX11_init 43 = .ok (.aload_n 0, 1) := by decide +kernel
theorem dX11_init_44 : decode cX11_init 44 = .ok (.bipush 11, 2) := by decide +kernel
theorem dX11_init_46 : decode cX11_init 46 = .ok (.newarray .int, 2) := by decide +kernel
theorem dX11_init_48 : decode cX11_init 48 = .ok (.putfield 29, 3) := by decide +kernel
theorem dX11_init_51 : decode cX11_init 51 = .ok (.aload_n 0, 1) := by decide +kernel
theorem dX11_init_52 : decode cX11_init 52 = .ok (.bipush 9, 2) := by decide +kernel
theorem dX11_init_54 : decode cX11_init 54 = .ok (.putfield 32, 3) := by decide +kernel
theorem dX11_init_57 : decode cX11_init 57 = .ok (.aload_n 0, 1) := by decide +kernel
theorem dX11_init_58 : decode cX11_init 58 = .ok (.new 36, 3) := by decide +kernel
theorem dX11_init_61 : decode cX11_init 61 = .ok (.dup, 1) := by decide +kernel
theorem dX11_init_62 : decode cX11_init 62 = .ok (.invokespecial 38, 3) := by decide +kernel
theorem dX11_init_65 : decode cX11_init 65 = .ok (.putfield 39, 3) := by decide +kernel
theorem dX11_init_68 : decode cX11_init 68 = .ok (.aload_n 0, 1) := by decide +kernel
theorem dX11_init_69 : decode cX11_init 69 = .ok (.new 43, 3) := by decide +kernel
theorem dX11_init_72 : decode cX11_init 72 = .ok (.dup, 1) := by decide +kernel
theorem dX11_init_73 : decode cX11_init 73 = .ok (.invokespecial 45, 3) := by decide +kernel
theorem dX11_init_76 : decode cX11_init 76 = .ok (.putfield 46, 3) := by decide +kernel
theorem dX11_init_79 : decode cX11_init 79 = .ok (.aload_n 0, 1) := by decide +kernel
theorem dX11_init_80 : decode cX11_init 80 = .ok (.new 50, 3) := by decide +kernel
theorem dX11_init_83 : decode cX11_init 83 = .ok (.dup, 1) := by decide +kernel
theorem dX11_init_84 : decode cX11_init 84 = .ok (.aload_n 0, 1) := by decide +kernel
theorem dX11_init_85 : decode cX11_init 85 = .ok (.getfield 46, 3) := by decide +kernel
theorem dX11_init_88 : decode cX11_init 88 = .ok (.invokespecial 52, 3) := by decide +kernel
theorem dX11_init_91 : decode cX11_init 91 = .ok (.putfield 55, 3) := by decide +kernel
theorem dX11_init_94 : decode cX11_init 94 = .ok (.aload_n 0, 1) := by decide +kernel
theorem dX11_init_95 : decode cX11_init 95 = .ok (.new 59, 3) := by decide +kernel
theorem dX11_init_98 : decode cX11_init 98 = .ok (.dup, 1) := by decide +kernel
theorem dX11_init_99 : decode cX11_init 99 = .ok (.aload_n 0, 1) := by decide +kernel
theorem dX11_init_100 : decode cX11_init 100 = .ok (.getfield 46, 3) := by decide +kernel
theorem dX11_init_103 : decode cX11_init 103 = .ok (.invokespecial 61, 3) := by decide +kernel
theorem dX11_init_106 : decode cX11_init 106 = .ok (.putfield 62, 3) := by decide +kernel
theorem dX11_init_109 : decode cX11_init 109 = .ok (.aload_n 0, 1) := by decide +kernel
theorem dX11_init_110 : decode cX11_init 110 = .ok (.new 66, 3) := by decide +kernel
theorem dX11_init_113 : decode cX11_init 113 = .ok (.dup, 1) := by decide +kernel
theorem dX11_init_114 : decode cX11_init 114 = .ok (.aload_n 0, 1) := by decide +kernel
theorem dX11_init_115 : decode cX11_init 115 = .ok (.getfield 46, 3) := by decide +kernel
theorem dX11_init_118 : decode cX11_init 118 = .ok (.aload_n 0, 1) := by decide +kernel
theorem dX11_init_119 : decode cX11_init 119 = .ok (.getfield 62, 3) := by decide +kernel
theorem dX11_init_122 : decode cX11_init 122 = .ok (.aload_n 0, 1) := by decide +kernel
theorem dX11_init_123 : decode cX11_init 123 = .ok (.getfield 15, 3) := by decide +kernel
theorem dX11_init_126 : decode cX11_init 126 = .ok (.invokespecial 68, 3) := by decide +kernel
theorem dX11_init_129 : decode cX11_init 129 = .ok (.putfield 71, 3) := by decide +kernel
theorem dX11_init_132 : decode cX11_init 132 = .ok (.aload_n 0, 1) := by decide +kernel
theorem dX11_init_133 : decode cX11_init 133 = .ok (.new 75, 3) := by decide +kernel
theorem dX11_init_136 : decode cX11_init 136 = .ok (.dup, 1) := by decide +kernel
theorem dX11_init_137 : decode cX11_init 137 = .ok (.aload_n 0, 1) := by decide +kernel
theorem dX11_init_138 : decode cX11_init 138 = .ok (.getfield 15, 3) := by decide +kernel
theorem dX11_init_141 : decode cX11_init 141 = .ok (.invokespecial 77, 3) := by decide +kernel
theorem dX11_init_144 : decode cX11_init 144 = .ok (.putfield 80, 3) := by decide +kernel
theorem dX11_init_147 : decode cX11_init 147 = .ok (.aload_n 0, 1) := by decide +kernel
theorem dX11_init_148 : decode cX11_init 148 = .ok (.new 84, 3) := by decide +kernel
theorem dX11_init_151 : decode cX11_init 151 = .ok (.dup, 1) := by decide +kernel
theorem dX11_init_152 : decode cX11_init 152 = .ok (.invokespecial 86, 3) := by decide +kernel
theorem dX11_init_155 : decode cX11_init 155 = .ok (.putfield 87, 3) := by decide +kernel
theorem dX11_init_158 : decode cX11_init 158 = .ok (.aload_n 0, 1) := by decide +kernel
theorem dX11_init_159 : decode cX11_init 159 = .ok (.new 91, 3) := by decide +kernel
theorem dX11_init_162 : decode cX11_init 162 = .ok (.dup, 1) := by decide +kernel
theorem dX11_init_163 : decode cX11_init 163 = .ok (.invokespecial 93, 3) := by decide +kernel
theorem dX11_init_166 : decode cX11_init 166 = .ok (.putfield 94, 3) := by decide +kernel
theorem dX11_init_169 : decode cX11_init 169 = .ok (.iconst 0, 1) := by decide +kernel
theorem dX11_init_170 : decode cX11_init 170 = .ok (.istore_n 1, 1) := by decide +kernel
theorem dX11_init_171 : decode cX11_init 171 = .ok (.iload_n 1, 1) := by decide +kernel
theorem dX11_init_172 : decode cX11_init 172 = .ok (.aload_n 0, 1) := by decide +kernel
theorem dX11_init_173 : decode cX11_init 173 = .ok (.getfield 15, 3) := by decide +kernel
theorem dX11_init_176 : decode cX11_init 176 = .ok (.arraylength, 1) := by decide +kernel
theorem dX11_init_177 : decode cX11_init 177 = .ok (.if_icmp .ge 22, 3) := by decide +kernel
theorem dX11_init_180 : decode cX11_init 180 = .ok (.aload_n 0, 1) := by decide +kernel
theorem dX11_init_181 : decode cX11_init 181 = .ok (.getfield 15, 3) := by decide +kernel
theorem dX11_init_184 : decode cX11_init 184 = .ok (.iload_n 1, 1) := by decide +kernel
theorem dX11_init_185 : decode cX11_init 185 = .ok (.new 13, 3) := by decide +kernel
theorem dX11_init_188 : decode cX11_init 188 = .ok (.dup, 1) := by decide +kernel
theorem dX11_init_189 : decode cX11_init 189 = .ok (.invokespecial 98, 3) := by decide +kernel
theorem dX11_init_192 : decode cX11_init 192 = .ok (.aastore, 1) := by decide +kernel
theorem dX11_init_193 : decode cX11_init 193 = .ok (.iinc 1 1, 3) := by decide +kernel
theorem dX11_init_196 : decode cX11_init 196 = .ok (.goto (-25), 3) := by decide +kernel
theorem dX11_init_199 : decode cX11_init 199 = .ok (.return_, 1) := by decide +kernel
theorem dX11_textOf_0 : decode cX11_textOf 0 = .ok (.iload_n 1, 1) := by decide +kernel
theorem dX11_textOf_1 : decode cX11_textOf 1 = .ok (.iconst (-1), 1) := by decide +kernel
theorem dX11_textOf_2 : decode cX11_textOf 2 = .ok (.if_icmp .ne 17, 3) := by decide +kernel
theorem dX11_textOf_5 : decode cX11_textOf 5 = .ok (.aload_n 0, 1) := by decide +kernel
theorem dX11_textOf_6 : decode cX11_textOf 6 = .ok (.getfield 144, 3) := by decide +kernel
theorem dX11_textOf_9 : decode cX11_textOf 9 = .ok (.ifCond .eq 8, 3) := by decide +kernel
theorem dX11_textOf_17 : decode cX11_textOf 17 = .ok (.iconst (-1), 1) := by decide +kernel
theorem dX11_textOf_18 : decode cX11_textOf 18 = .ok (.ireturn, 1) := by decide +kernel
theorem dX11_textOf_19 : decode cX11_textOf 19 = .ok (.iload_n 1, 1) := by decide +kernel
theorem dX11_textOf_20 : decode cX11_textOf 20 = .ok (.ifCond .lt 21, 3) := by decide +kernel
theorem dX11_textOf_23 : decode cX11_textOf 23 = .ok (.iload_n 1, 1) := by decide +kernel
theorem dX11_textOf_24 : decode cX11_textOf 24 = .ok (.aload_n 0, 1) := by decide +kernel
theorem dX11_textOf_25 : decode cX11_textOf 25 = .ok (.getfield 106, 3) := by decide +kernel
theorem dX11_textOf_28 : decode cX11_textOf 28 = .ok (.if_icmp .ge 13, 3) := by decide +kernel
theorem dX11_textOf_41 : decode cX11_textOf 41 = .ok (.iconst (-1), 1) := by decide +kernel
theorem dX11_textOf_42 : decode cX11_textOf 42 = .ok (.ireturn, 1) := by decide +kernel
theorem dX11_keptOf_0 : decode cX11_keptOf 0 = .ok (.iload_n 1, 1) := by decide +kernel
theorem dX11_keptOf_1 : decode cX11_keptOf 1 = .ok (.bipush (-2), 2) := by decide +kernel
theorem dX11_keptOf_3 : decode cX11_keptOf 3 = .ok (.if_icmp .ne 19, 3) := by decide +kernel
theorem dX11_keptOf_6 : decode cX11_keptOf 6 = .ok (.aload_n 0, 1) := by decide +kernel
theorem dX11_keptOf_7 : decode cX11_keptOf 7 = .ok (.getfield 295, 3) := by decide +kernel
theorem dX11_keptOf_10 : decode cX11_keptOf 10 = .ok (.ifCond .eq 10, 3) := by decide +kernel
theorem dX11_keptOf_20 : decode cX11_keptOf 20 = .ok (.aconst_null, 1) := by decide +kernel
theorem dX11_keptOf_21 : decode cX11_keptOf 21 = .ok (.areturn, 1) := by decide +kernel
theorem dX11_keptOf_22 : decode cX11_keptOf 22 = .ok (.aload_n 0, 1) := by decide +kernel
theorem dX11_keptOf_23 : decode cX11_keptOf 23 = .ok (.iload_n 1, 1) := by decide +kernel
theorem dX11_keptOf_24 : decode cX11_keptOf 24 = .ok (.invokevirtual 257, 3) := by decide +kernel
theorem dX11_keptOf_27 : decode cX11_keptOf 27 = .ok (.istore_n 2, 1) := by decide +kernel
theorem dX11_keptOf_28 : decode cX11_keptOf 28 = .ok (.iload_n 2, 1) := by decide +kernel
theorem dX11_keptOf_29 : decode cX11_keptOf 29 = .ok (.iconst (-1), 1) := by decide +kernel
theorem dX11_keptOf_30 : decode cX11_keptOf 30 = .ok (.if_icmp .ne 7, 3) := by decide +kernel
theorem dX11_keptOf_33 : decode cX11_keptOf 33 = .ok (.aconst_null, 1) := by decide +kernel
theorem dX11_keptOf_34 : decode cX11_keptOf 34 = .ok (.goto 12, 3) := by decide +kernel
theorem dX11_keptOf_46 : decode cX11_keptOf 46 = .ok (.areturn, 1) := by decide +kernel
theorem dX11_size_0 : decode cX11_size 0 = .ok (.aload_n 0, 1) := by decide +kernel
theorem dX11_size_1 : decode cX11_size 1 = .ok (.iload_n 1, 1) := by decide +kernel
theorem dX11_size_2 : decode cX11_size 2 = .ok (.invokevirtual 161, 3) := by decide +kernel
theorem dX11_size_5 : decode cX11_size 5 = .ok (.astore_n 2, 1) := by decide +kernel
theorem dX11_size_6 : decode cX11_size 6 = .ok (.aload_n 2, 1) := by decide +kernel
theorem dX11_size_7 : decode cX11_size 7 = .ok (.ifnonnull 5, 3) := by decide +kernel
theorem dX11_size_10 : decode cX11_size 10 = .ok (.iconst (-1), 1) := by decide +kernel
theorem dX11_size_11 : decode cX11_size 11 = .ok (.ireturn, 1) := by decide +kernel
theorem dX11_sort_0 : decode cX11_sort 0 = .ok (.aload_n 0, 1) := by decide +kernel
theorem dX11_sort_1 : decode cX11_sort 1 = .ok (.iload_n 1, 1) := by decide +kernel
theorem dX11_sort_2 : decode cX11_sort 2 = .ok (.invokevirtual 161, 3) := by decide +kernel
theorem dX11_sort_5 : decode cX11_sort 5 = .ok (.astore_n 2, 1) := by decide +kernel
theorem dX11_sort_6 : decode cX11_sort 6 = .ok (.aload_n 2, 1) := by decide +kernel
theorem dX11_sort_7 : decode cX11_sort 7 = .ok (.ifnonnull 5, 3) := by decide +kernel
theorem dX11_sort_10 : decode cX11_sort 10 = .ok (.iconst (-1), 1) := by decide +kernel
theorem dX11_sort_11 : decode cX11_sort 11 = .ok (.ireturn, 1) := by decide +kernel
theorem dX11_needs_0 : decode cX11_needs 0 = .ok (.aload_n 0, 1) := by decide +kernel
theorem dX11_needs_1 : decode cX11_needs 1 = .ok (.iload_n 1, 1) := by decide +kernel
theorem dX11_needs_2 : decode cX11_needs 2 = .ok (.invokevirtual 161, 3) := by decide +kernel
theorem dX11_needs_5 : decode cX11_needs 5 = .ok (.astore_n 2, 1) := by decide +kernel
theorem dX11_needs_6 : decode cX11_needs 6 = .ok (.aload_n 2, 1) := by decide +kernel
theorem dX11_needs_7 : decode cX11_needs 7 = .ok (.ifnonnull 5, 3) := by decide +kernel
theorem dX11_needs_10 : decode cX11_needs 10 = .ok (.iconst (-1), 1) := by decide +kernel
theorem dX11_needs_11 : decode cX11_needs 11 = .ok (.ireturn, 1) := by decide +kernel
theorem dX11_closes_0 : decode cX11_closes 0 = .ok (.aload_n 0, 1) := by decide +kernel
theorem dX11_closes_1 : decode cX11_closes 1 = .ok (.iload_n 1, 1) := by decide +kernel
theorem dX11_closes_2 : decode cX11_closes 2 = .ok (.invokevirtual 161, 3) := by decide +kernel
theorem dX11_closes_5 : decode cX11_closes 5 = .ok (.astore_n 2, 1) := by decide +kernel
theorem dX11_closes_6 : decode cX11_closes 6 = .ok (.aload_n 2, 1) := by decide +kernel
theorem dX11_closes_7 : decode cX11_closes 7 = .ok (.ifnonnull 5, 3) := by decide +kernel
theorem dX11_closes_10 : decode cX11_closes 10 = .ok (.iconst (-1), 1) := by decide +kernel
theorem dX11_closes_11 : decode cX11_closes 11 = .ok (.ireturn, 1) := by decide +kernel
theorem dX11_fits_0 : decode cX11_fits 0 = .ok (.aload_n 0, 1) := by decide +kernel
theorem dX11_fits_1 : decode cX11_fits 1 = .ok (.getfield 99, 3) := by decide +kernel
theorem dX11_fits_4 : decode cX11_fits 4 = .ok (.istore_n 2, 1) := by decide +kernel
theorem dX11_fits_5 : decode cX11_fits 5 = .ok (.aload_n 0, 1) := by decide +kernel
theorem dX11_fits_6 : decode cX11_fits 6 = .ok (.iconst 0, 1) := by decide +kernel
theorem dX11_fits_7 : decode cX11_fits 7 = .ok (.putfield 99, 3) := by decide +kernel
theorem dX11_fits_10 : decode cX11_fits 10 = .ok (.aload_n 0, 1) := by decide +kernel
theorem dX11_fits_11 : decode cX11_fits 11 = .ok (.iload_n 1, 1) := by decide +kernel
theorem dX11_fits_12 : decode cX11_fits 12 = .ok (.invokevirtual 161, 3) := by decide +kernel
theorem dX11_fits_15 : decode cX11_fits 15 = .ok (.astore_n 3, 1) := by decide +kernel
theorem dX11_fits_16 : decode cX11_fits 16 = .ok (.aload_n 3, 1) := by decide +kernel
theorem dX11_fits_17 : decode cX11_fits 17 = .ok (.ifnonnull 5, 3) := by decide +kernel
theorem dX11_fits_20 : decode cX11_fits 20 = .ok (.iconst (-1), 1) := by decide +kernel
theorem dX11_fits_21 : decode cX11_fits 21 = .ok (.ireturn, 1) := by decide +kernel
theorem dX11_type_0 : decode cX11_type 0 = .ok (.aload_n 0, 1) := by decide +kernel
theorem dX11_type_1 : decode cX11_type 1 = .ok (.iload_n 1, 1) := by decide +kernel
theorem dX11_type_2 : decode cX11_type 2 = .ok (.invokevirtual 161, 3) := by decide +kernel
theorem dX11_type_5 : decode cX11_type 5 = .ok (.astore_n 3, 1) := by decide +kernel
theorem dX11_type_6 : decode cX11_type 6 = .ok (.aload_n 3, 1) := by decide +kernel
theorem dX11_type_7 : decode cX11_type 7 = .ok (.ifnonnull 5, 3) := by decide +kernel
theorem dX11_type_10 : decode cX11_type 10 = .ok (.iconst (-1), 1) := by decide +kernel
theorem dX11_type_11 : decode cX11_type 11 = .ok (.ireturn, 1) := by decide +kernel
theorem dX11_lacks_0 : decode cX11_lacks 0 = .ok (.aload_n 0, 1) := by decide +kernel
theorem dX11_lacks_1 : decode cX11_lacks 1 = .ok (.iload_n 1, 1) := by decide +kernel
theorem dX11_lacks_2 : decode cX11_lacks 2 = .ok (.invokevirtual 161, 3) := by decide +kernel
theorem dX11_lacks_5 : decode cX11_lacks 5 = .ok (.astore_n 3, 1) := by decide +kernel
theorem dX11_lacks_6 : decode cX11_lacks 6 = .ok (.aload_n 3, 1) := by decide +kernel
theorem dX11_lacks_7 : decode cX11_lacks 7 = .ok (.ifnull 15, 3) := by decide +kernel
theorem dX11_lacks_22 : decode cX11_lacks 22 = .ok (.iconst (-1), 1) := by decide +kernel
theorem dX11_lacks_23 : decode cX11_lacks 23 = .ok (.ireturn, 1) := by decide +kernel
theorem dX11_field_0 : decode cX11_field 0 = .ok (.aload_n 0, 1) := by decide +kernel
theorem dX11_field_1 : decode cX11_field 1 = .ok (.iload_n 1, 1) := by decide +kernel
theorem dX11_field_2 : decode cX11_field 2 = .ok (.invokevirtual 161, 3) := by decide +kernel
theorem dX11_field_5 : decode cX11_field 5 = .ok (.astore_n 3, 1) := by decide +kernel
theorem dX11_field_6 : decode cX11_field 6 = .ok (.aload_n 3, 1) := by decide +kernel
theorem dX11_field_7 : decode cX11_field 7 = .ok (.ifnull 10, 3) := by decide +kernel
theorem dX11_field_17 : decode cX11_field 17 = .ok (.iconst (-1), 1) := by decide +kernel
theorem dX11_field_18 : decode cX11_field 18 = .ok (.ireturn, 1) := by decide +kernel
theorem dX11_side_0 : decode cX11_side 0 = .ok (.aload_n 0, 1) := by decide +kernel
theorem dX11_side_1 : decode cX11_side 1 = .ok (.iload_n 1, 1) := by decide +kernel
theorem dX11_side_2 : decode cX11_side 2 = .ok (.invokevirtual 161, 3) := by decide +kernel
theorem dX11_side_5 : decode cX11_side 5 = .ok (.astore_n 3, 1) := by decide +kernel
theorem dX11_side_6 : decode cX11_side 6 = .ok (.aload_n 3, 1) := by decide +kernel
theorem dX11_side_7 : decode cX11_side 7 = .ok (.ifnull 12, 3) := by decide +kernel
theorem dX11_side_19 : decode cX11_side 19 = .ok (.iconst (-1), 1) := by decide +kernel
theorem dX11_side_20 : decode cX11_side 20 = .ok (.ireturn, 1) := by decide +kernel
theorem dX11_above_0 : decode cX11_above 0 = .ok (.aload_n 0, 1) := by decide +kernel
theorem dX11_above_1 : decode cX11_above 1 = .ok (.iload_n 1, 1) := by decide +kernel
theorem dX11_above_2 : decode cX11_above 2 = .ok (.invokevirtual 161, 3) := by decide +kernel
theorem dX11_above_5 : decode cX11_above 5 = .ok (.astore_n 3, 1) := by decide +kernel
theorem dX11_above_6 : decode cX11_above 6 = .ok (.aload_n 0, 1) := by decide +kernel
theorem dX11_above_7 : decode cX11_above 7 = .ok (.iload_n 2, 1) := by decide +kernel
theorem dX11_above_8 : decode cX11_above 8 = .ok (.invokevirtual 161, 3) := by decide +kernel
theorem dX11_above_11 : decode cX11_above 11 = .ok (.astore 4, 2) := by decide +kernel
theorem dX11_above_13 : decode cX11_above 13 = .ok (.aload_n 3, 1) := by decide +kernel
theorem dX11_above_14 : decode cX11_above 14 = .ok (.ifnull 8, 3) := by decide +kernel
theorem dX11_above_22 : decode cX11_above 22 = .ok (.iconst (-1), 1) := by decide +kernel
theorem dX11_above_23 : decode cX11_above 23 = .ok (.ireturn, 1) := by decide +kernel
theorem dX11_meets_0 : decode cX11_meets 0 = .ok (.aload_n 0, 1) := by decide +kernel
theorem dX11_meets_1 : decode cX11_meets 1 = .ok (.iload_n 1, 1) := by decide +kernel
theorem dX11_meets_2 : decode cX11_meets 2 = .ok (.invokevirtual 161, 3) := by decide +kernel
theorem dX11_meets_5 : decode cX11_meets 5 = .ok (.astore_n 3, 1) := by decide +kernel
theorem dX11_meets_6 : decode cX11_meets 6 = .ok (.aload_n 0, 1) := by decide +kernel
theorem dX11_meets_7 : decode cX11_meets 7 = .ok (.iload_n 2, 1) := by decide +kernel
theorem dX11_meets_8 : decode cX11_meets 8 = .ok (.invokevirtual 161, 3) := by decide +kernel
theorem dX11_meets_11 : decode cX11_meets 11 = .ok (.astore 4, 2) := by decide +kernel
theorem dX11_meets_13 : decode cX11_meets 13 = .ok (.aload_n 3, 1) := by decide +kernel
theorem dX11_meets_14 : decode cX11_meets 14 = .ok (.ifnull 8, 3) := by decide +kernel
theorem dX11_meets_22 : decode cX11_meets 22 = .ok (.iconst (-1), 1) := by decide +kernel
theorem dX11_meets_23 : decode cX11_meets 23 = .ok (.ireturn, 1) := by decide +kernel
theorem dX11_applies_0 : decode cX11_applies 0 = .ok (.aload_n 0, 1) := by decide +kernel
theorem dX11_applies_1 : decode cX11_applies 1 = .ok (.iload_n 1, 1) := by decide +kernel
theorem dX11_applies_2 : decode cX11_applies 2 = .ok (.invokevirtual 161, 3) := by decide +kernel
theorem dX11_applies_5 : decode cX11_applies 5 = .ok (.astore_n 3, 1) := by decide +kernel
theorem dX11_applies_6 : decode cX11_applies 6 = .ok (.aload_n 0, 1) := by decide +kernel
theorem dX11_applies_7 : decode cX11_applies 7 = .ok (.iload_n 2, 1) := by decide +kernel
theorem dX11_applies_8 : decode cX11_applies 8 = .ok (.invokevirtual 161, 3) := by decide +kernel
theorem dX11_applies_11 : decode cX11_applies 11 = .ok (.astore 4, 2) := by decide +kernel
theorem dX11_applies_13 : decode cX11_applies 13 = .ok (.aload_n 3, 1) := by decide +kernel
theorem dX11_applies_14 : decode cX11_applies 14 = .ok (.ifnull 8, 3) := by decide +kernel
theorem dX11_applies_22 : decode cX11_applies 22 = .ok (.iconst (-1), 1) := by decide +kernel
theorem dX11_applies_23 : decode cX11_applies 23 = .ok (.ireturn, 1) := by decide +kernel
theorem dX11_steps_0 : decode cX11_steps 0 = .ok (.aload_n 0, 1) := by decide +kernel
theorem dX11_steps_1 : decode cX11_steps 1 = .ok (.iload_n 1, 1) := by decide +kernel
theorem dX11_steps_2 : decode cX11_steps 2 = .ok (.invokevirtual 257, 3) := by decide +kernel
theorem dX11_steps_5 : decode cX11_steps 5 = .ok (.istore_n 2, 1) := by decide +kernel
theorem dX11_steps_6 : decode cX11_steps 6 = .ok (.iload_n 2, 1) := by decide +kernel
theorem dX11_steps_7 : decode cX11_steps 7 = .ok (.iconst (-1), 1) := by decide +kernel
theorem dX11_steps_8 : decode cX11_steps 8 = .ok (.if_icmp .ne 5, 3) := by decide +kernel
theorem dX11_steps_11 : decode cX11_steps 11 = .ok (.iconst (-1), 1) := by decide +kernel
theorem dX11_steps_12 : decode cX11_steps 12 = .ok (.ireturn, 1) := by decide +kernel
theorem dX11_parts_0 : decode cX11_parts 0 = .ok (.aload_n 0, 1) := by decide +kernel
theorem dX11_parts_1 : decode cX11_parts 1 = .ok (.iload_n 1, 1) := by decide +kernel
theorem dX11_parts_2 : decode cX11_parts 2 = .ok (.invokevirtual 257, 3) := by decide +kernel
theorem dX11_parts_5 : decode cX11_parts 5 = .ok (.istore_n 2, 1) := by decide +kernel
theorem dX11_parts_6 : decode cX11_parts 6 = .ok (.iload_n 2, 1) := by decide +kernel
theorem dX11_parts_7 : decode cX11_parts 7 = .ok (.iconst (-1), 1) := by decide +kernel
theorem dX11_parts_8 : decode cX11_parts 8 = .ok (.if_icmp .ne 5, 3) := by decide +kernel
theorem dX11_parts_11 : decode cX11_parts 11 = .ok (.iconst (-1), 1) := by decide +kernel
theorem dX11_parts_12 : decode cX11_parts 12 = .ok (.ireturn, 1) := by decide +kernel
theorem dX11_free_0 : decode cX11_free 0 = .ok (.aload_n 0, 1) := by decide +kernel
theorem dX11_free_1 : decode cX11_free 1 = .ok (.iload_n 1, 1) := by decide +kernel
theorem dX11_free_2 : decode cX11_free 2 = .ok (.invokevirtual 257, 3) := by decide +kernel
theorem dX11_free_5 : decode cX11_free 5 = .ok (.istore_n 2, 1) := by decide +kernel
theorem dX11_free_6 : decode cX11_free 6 = .ok (.iload_n 2, 1) := by decide +kernel
theorem dX11_free_7 : decode cX11_free 7 = .ok (.iconst (-1), 1) := by decide +kernel
theorem dX11_free_8 : decode cX11_free 8 = .ok (.if_icmp .ne 5, 3) := by decide +kernel
theorem dX11_free_11 : decode cX11_free 11 = .ok (.iconst (-1), 1) := by decide +kernel
theorem dX11_free_12 : decode cX11_free 12 = .ok (.ireturn, 1) := by decide +kernel
theorem dX11_part_0 : decode cX11_part 0 = .ok (.aload_n 0, 1) := by decide +kernel
theorem dX11_part_1 : decode cX11_part 1 = .ok (.iload_n 1, 1) := by decide +kernel
theorem dX11_part_2 : decode cX11_part 2 = .ok (.invokevirtual 257, 3) := by decide +kernel
theorem dX11_part_5 : decode cX11_part 5 = .ok (.istore_n 3, 1) := by decide +kernel
theorem dX11_part_6 : decode cX11_part 6 = .ok (.iload_n 3, 1) := by decide +kernel
theorem dX11_part_7 : decode cX11_part 7 = .ok (.iconst (-1), 1) := by decide +kernel
theorem dX11_part_8 : decode cX11_part 8 = .ok (.if_icmp .ne 5, 3) := by decide +kernel
theorem dX11_part_11 : decode cX11_part 11 = .ok (.iconst (-1), 1) := by decide +kernel
theorem dX11_part_12 : decode cX11_part 12 = .ok (.ireturn, 1) := by decide +kernel
theorem dX11_value_0 : decode cX11_value 0 = .ok (.aload_n 0, 1) := by decide +kernel
theorem dX11_value_1 : decode cX11_value 1 = .ok (.iload_n 1, 1) := by decide +kernel
theorem dX11_value_2 : decode cX11_value 2 = .ok (.invokevirtual 257, 3) := by decide +kernel
theorem dX11_value_5 : decode cX11_value 5 = .ok (.istore_n 3, 1) := by decide +kernel
theorem dX11_value_6 : decode cX11_value 6 = .ok (.iload_n 3, 1) := by decide +kernel
theorem dX11_value_7 : decode cX11_value 7 = .ok (.iconst (-1), 1) := by decide +kernel
theorem dX11_value_8 : decode cX11_value 8 = .ok (.if_icmp .eq 8, 3) := by decide +kernel
theorem dX11_value_16 : decode cX11_value 16 = .ok (.iconst (-1), 1) := by decide +kernel
theorem dX11_value_17 : decode cX11_value 17 = .ok (.ireturn, 1) := by decide +kernel
theorem dX11_taken_0 : decode cX11_taken 0 = .ok (.aload_n 0, 1) := by decide +kernel
theorem dX11_taken_1 : decode cX11_taken 1 = .ok (.iload_n 1, 1) := by decide +kernel
theorem dX11_taken_2 : decode cX11_taken 2 = .ok (.invokevirtual 257, 3) := by decide +kernel
theorem dX11_taken_5 : decode cX11_taken 5 = .ok (.istore_n 3, 1) := by decide +kernel
theorem dX11_taken_6 : decode cX11_taken 6 = .ok (.iload_n 3, 1) := by decide +kernel
theorem dX11_taken_7 : decode cX11_taken 7 = .ok (.iconst (-1), 1) := by decide +kernel
theorem dX11_taken_8 : decode cX11_taken 8 = .ok (.if_icmp .eq 10, 3) := by decide +kernel
theorem dX11_taken_18 : decode cX11_taken 18 = .ok (.iconst (-1), 1) := by decide +kernel
theorem dX11_taken_19 : decode cX11_taken 19 = .ok (.ireturn, 1) := by decide +kernel
theorem dX11_often_0 : decode cX11_often 0 = .ok (.aload_n 0, 1) := by decide +kernel
theorem dX11_often_1 : decode cX11_often 1 = .ok (.iload_n 1, 1) := by decide +kernel
theorem dX11_often_2 : decode cX11_often 2 = .ok (.invokevirtual 257, 3) := by decide +kernel
theorem dX11_often_5 : decode cX11_often 5 = .ok (.istore_n 3, 1) := by decide +kernel
theorem dX11_often_6 : decode cX11_often 6 = .ok (.iload_n 3, 1) := by decide +kernel
theorem dX11_often_7 : decode cX11_often 7 = .ok (.iconst (-1), 1) := by decide +kernel
theorem dX11_often_8 : decode cX11_often 8 = .ok (.if_icmp .eq 10, 3) := by decide +kernel
theorem dX11_often_18 : decode cX11_often 18 = .ok (.iconst (-1), 1) := by decide +kernel
theorem dX11_often_19 : decode cX11_often 19 = .ok (.ireturn, 1) := by decide +kernel
theorem dX11_end_0 : decode cX11_end 0 = .ok (.iload_n 1, 1) := by decide +kernel
theorem dX11_end_1 : decode cX11_end 1 = .ok (.ifCond .lt 11, 3) := by decide +kernel
theorem dX11_end_4 : decode cX11_end 4 = .ok (.iload_n 1, 1) := by decide +kernel
theorem dX11_end_5 : decode cX11_end 5 = .ok (.aload_n 0, 1) := by decide +kernel
theorem dX11_end_6 : decode cX11_end 6 = .ok (.getfield 99, 3) := by decide +kernel
theorem dX11_end_9 : decode cX11_end 9 = .ok (.if_icmp .le 5, 3) := by decide +kernel
theorem dX11_end_12 : decode cX11_end 12 = .ok (.iconst 0, 1) := by decide +kernel
theorem dX11_end_13 : decode cX11_end 13 = .ok (.ireturn, 1) := by decide +kernel
theorem dX11_end_14 : decode cX11_end 14 = .ok (.aload_n 0, 1) := by decide +kernel
theorem dX11_end_15 : decode cX11_end 15 = .ok (.iload_n 1, 1) := by decide +kernel
theorem dX11_end_16 : decode cX11_end 16 = .ok (.putfield 99, 3) := by decide +kernel
theorem dX11_end_19 : decode cX11_end 19 = .ok (.iconst 1, 1) := by decide +kernel
theorem dX11_end_20 : decode cX11_end 20 = .ok (.ireturn, 1) := by decide +kernel
theorem dX11_forgets_0 : decode cX11_forgets 0 = .ok (.iload_n 1, 1) := by decide +kernel
theorem dX11_forgets_1 : decode cX11_forgets 1 = .ok (.ifCond .lt 11, 3) := by decide +kernel
theorem dX11_forgets_4 : decode cX11_forgets 4 = .ok (.iload_n 1, 1) := by decide +kernel
theorem dX11_forgets_5 : decode cX11_forgets 5 = .ok (.aload_n 0, 1) := by decide +kernel
theorem dX11_forgets_6 : decode cX11_forgets 6 = .ok (.getfield 106, 3) := by decide +kernel
theorem dX11_forgets_9 : decode cX11_forgets 9 = .ok (.if_icmp .le 5, 3) := by decide +kernel
theorem dX11_forgets_12 : decode cX11_forgets 12 = .ok (.iconst (-1), 1) := by decide +kernel
theorem dX11_forgets_13 : decode cX11_forgets 13 = .ok (.ireturn, 1) := by decide +kernel
theorem dX11_forgets_14 : decode cX11_forgets 14 = .ok (.aload_n 0, 1) := by decide +kernel
theorem dX11_forgets_15 : decode cX11_forgets 15 = .ok (.getfield 144, 3) := by decide +kernel
theorem dX11_forgets_18 : decode cX11_forgets 18 = .ok (.ifCond .eq 56, 3) := by decide +kernel
theorem dX11_forgets_74 : decode cX11_forgets 74 = .ok (.aload_n 0, 1) := by decide +kernel
theorem dX11_forgets_75 : decode cX11_forgets 75 = .ok (.getfield 106, 3) := by decide +kernel
theorem dX11_forgets_78 : decode cX11_forgets 78 = .ok (.iload_n 1, 1) := by decide +kernel
theorem dX11_forgets_79 : decode cX11_forgets 79 = .ok (.isub, 1) := by decide +kernel
theorem dX11_forgets_80 : decode cX11_forgets 80 = .ok (.istore_n 2, 1) := by decide +kernel
theorem dX11_forgets_81 : decode cX11_forgets 81 = .ok (.aload_n 0, 1) := by decide +kernel
theorem dX11_forgets_82 : decode cX11_forgets 82 = .ok (.iload_n 1, 1) := by decide +kernel
theorem dX11_forgets_83 : decode cX11_forgets 83 = .ok (.putfield 106, 3) := by decide +kernel
theorem dX11_forgets_86 : decode cX11_forgets 86 = .ok (.aload_n 0, 1) := by decide +kernel
theorem dX11_forgets_87 : decode cX11_forgets 87 = .ok (.bipush 9, 2) := by decide +kernel
theorem dX11_forgets_89 : decode cX11_forgets 89 = .ok (.putfield 32, 3) := by decide +kernel
theorem dX11_forgets_92 : decode cX11_forgets 92 = .ok (.iload_n 2, 1) := by decide +kernel
theorem dX11_forgets_93 : decode cX11_forgets 93 = .ok (.ireturn, 1) := by decide +kernel
theorem dX11_count_0 : decode cX11_count 0 = .ok (.iload_n 1, 1) := by decide +kernel
theorem dX11_count_1 : decode cX11_count 1 = .ok (.tableswitch 76 0 4 #[35, 40, 53, 66, 71], 35) := by decide +kernel
theorem dX11_count_36 : decode cX11_count 36 = .ok (.aload_n 0, 1) := by decide +kernel
theorem dX11_count_37 : decode cX11_count 37 = .ok (.getfield 106, 3) := by decide +kernel
theorem dX11_count_40 : decode cX11_count 40 = .ok (.ireturn, 1) := by decide +kernel
theorem dX11_count_41 : decode cX11_count 41 = .ok (.aload_n 0, 1) := by decide +kernel
theorem dX11_count_42 : decode cX11_count 42 = .ok (.getfield 144, 3) := by decide +kernel
theorem dX11_count_45 : decode cX11_count 45 = .ok (.ifCond .eq 7, 3) := by decide +kernel
theorem dX11_count_52 : decode cX11_count 52 = .ok (.iconst 0, 1) := by decide +kernel
theorem dX11_count_53 : decode cX11_count 53 = .ok (.ireturn, 1) := by decide +kernel
theorem dX11_count_54 : decode cX11_count 54 = .ok (.aload_n 0, 1) := by decide +kernel
theorem dX11_count_55 : decode cX11_count 55 = .ok (.getfield 295, 3) := by decide +kernel
theorem dX11_count_58 : decode cX11_count 58 = .ok (.ifCond .eq 7, 3) := by decide +kernel
theorem dX11_count_65 : decode cX11_count 65 = .ok (.iconst 0, 1) := by decide +kernel
theorem dX11_count_66 : decode cX11_count 66 = .ok (.ireturn, 1) := by decide +kernel
theorem dX11_count_67 : decode cX11_count 67 = .ok (.aload_n 0, 1) := by decide +kernel
theorem dX11_count_68 : decode cX11_count 68 = .ok (.getfield 298, 3) := by decide +kernel
theorem dX11_count_71 : decode cX11_count 71 = .ok (.ireturn, 1) := by decide +kernel
theorem dX11_count_72 : decode cX11_count 72 = .ok (.aload_n 0, 1) := by decide +kernel
theorem dX11_count_73 : decode cX11_count 73 = .ok (.getfield 99, 3) := by decide +kernel
theorem dX11_count_76 : decode cX11_count 76 = .ok (.ireturn, 1) := by decide +kernel
theorem dX11_count_77 : decode cX11_count 77 = .ok (.iconst (-1), 1) := by decide +kernel
theorem dX11_count_78 : decode cX11_count 78 = .ok (.ireturn, 1) := by decide +kernel
theorem dX11_sign_0 : decode cX11_sign 0 = .ok (.aload_n 0, 1) := by decide +kernel
theorem dX11_sign_1 : decode cX11_sign 1 = .ok (.getfield 99, 3) := by decide +kernel
theorem dX11_sign_4 : decode cX11_sign 4 = .ok (.iconst 4, 1) := by decide +kernel
theorem dX11_sign_5 : decode cX11_sign 5 = .ok (.iadd, 1) := by decide +kernel
theorem dX11_sign_6 : decode cX11_sign 6 = .ok (.bipush 100, 2) := by decide +kernel
theorem dX11_sign_8 : decode cX11_sign 8 = .ok (.if_icmp .le 5, 3) := by decide +kernel
theorem dX11_sign_13 : decode cX11_sign 13 = .ok (.bipush 24, 2) := by decide +kernel
theorem dX11_sign_15 : decode cX11_sign 15 = .ok (.istore_n 2, 1) := by decide +kernel
theorem dX11_sign_16 : decode cX11_sign 16 = .ok (.iload_n 2, 1) := by decide +kernel
theorem dX11_sign_17 : decode cX11_sign 17 = .ok (.ifCond .lt 35, 3) := by decide +kernel
theorem dX11_sign_20 : decode cX11_sign 20 = .ok (.aload_n 0, 1) := by decide +kernel
theorem dX11_sign_21 : decode cX11_sign 21 = .ok (.getfield 9, 3) := by decide +kernel
theorem dX11_sign_24 : decode cX11_sign 24 = .ok (.aload_n 0, 1) := by decide +kernel
theorem dX11_sign_25 : decode cX11_sign 25 = .ok (.getfield 99, 3) := by decide +kernel
theorem dX11_sign_28 : decode cX11_sign 28 = .ok (.iload_n 1, 1) := by decide +kernel
theorem dX11_sign_29 : decode cX11_sign 29 = .ok (.iload_n 2, 1) := by decide +kernel
theorem dX11_sign_30 : decode cX11_sign 30 = .ok (.iushr, 1) := by decide +kernel
theorem dX11_sign_31 : decode cX11_sign 31 = .ok (.sipush 255, 3) := by decide +kernel
theorem dX11_sign_34 : decode cX11_sign 34 = .ok (.iand, 1) := by decide +kernel
theorem dX11_sign_35 : decode cX11_sign 35 = .ok (.iastore, 1) := by decide +kernel
theorem dX11_sign_36 : decode cX11_sign 36 = .ok (.aload_n 0, 1) := by decide +kernel
theorem dX11_sign_37 : decode cX11_sign 37 = .ok (.dup, 1) := by decide +kernel
theorem dX11_sign_38 : decode cX11_sign 38 = .ok (.getfield 99, 3) := by decide +kernel
theorem dX11_sign_41 : decode cX11_sign 41 = .ok (.iconst 1, 1) := by decide +kernel
theorem dX11_sign_42 : decode cX11_sign 42 = .ok (.iadd, 1) := by decide +kernel
theorem dX11_sign_43 : decode cX11_sign 43 = .ok (.putfield 99, 3) := by decide +kernel
theorem dX11_sign_46 : decode cX11_sign 46 = .ok (.iinc 2 (-8), 3) := by decide +kernel
theorem dX11_sign_49 : decode cX11_sign 49 = .ok (.goto (-33), 3) := by decide +kernel
theorem dX11_sign_52 : decode cX11_sign 52 = .ok (.aload_n 0, 1) := by decide +kernel
theorem dX11_sign_53 : decode cX11_sign 53 = .ok (.getfield 99, 3) := by decide +kernel
theorem dX11_sign_56 : decode cX11_sign 56 = .ok (.ireturn, 1) := by decide +kernel
theorem dX0_take_0 : decode cX0_take 0 = .ok (.aload_n 0, 1) := by decide +kernel
theorem dX0_take_1 : decode cX0_take 1 = .ok (.iconst 0, 1) := by decide +kernel
theorem dX0_take_2 : decode cX0_take 2 = .ok (.putfield 28, 3) := by decide +kernel
theorem dX0_take_5 : decode cX0_take 5 = .ok (.iconst 0, 1) := by decide +kernel
theorem dX0_take_6 : decode cX0_take 6 = .ok (.istore_n 3, 1) := by decide +kernel
theorem dX0_take_7 : decode cX0_take 7 = .ok (.iload_n 3, 1) := by decide +kernel
theorem dX0_take_8 : decode cX0_take 8 = .ok (.iload_n 2, 1) := by decide +kernel
theorem dX0_take_9 : decode cX0_take 9 = .ok (.if_icmp .ge 54, 3) := by decide +kernel
theorem dX0_take_63 : decode cX0_take 63 = .ok (.return_, 1) := by decide +kernel
theorem dX2_clear_0 : decode cX2_clear 0 = .ok (.aload_n 0, 1) := by decide +kernel
theorem dX2_clear_1 : decode cX2_clear 1 = .ok (.iconst 0, 1) := by decide +kernel
theorem dX2_clear_2 : decode cX2_clear 2 = .ok (.putfield 15, 3) := by decide +kernel
theorem dX2_clear_5 : decode cX2_clear 5 = .ok (.return_, 1) := by decide +kernel
theorem dX2_push_0 : decode cX2_push 0 = .ok (.aload_n 0, 1) := by decide +kernel
theorem dX2_push_1 : decode cX2_push 1 = .ok (.getfield 15, 3) := by decide +kernel
theorem dX2_push_4 : decode cX2_push 4 = .ok (.ldc 19, 2) := by decide +kernel
theorem dX2_push_6 : decode cX2_push 6 = .ok (.if_icmp .lt 4, 3) := by decide +kernel
theorem dX2_push_10 : decode cX2_push 10 = .ok (.aload_n 0, 1) := by decide +kernel
theorem dX2_push_11 : decode cX2_push 11 = .ok (.getfield 15, 3) := by decide +kernel
theorem dX2_push_14 : decode cX2_push 14 = .ok (.aload_n 0, 1) := by decide +kernel
theorem dX2_push_15 : decode cX2_push 15 = .ok (.getfield 9, 3) := by decide +kernel
theorem dX2_push_18 : decode cX2_push 18 = .ok (.arraylength, 1) := by decide +kernel
theorem dX2_push_19 : decode cX2_push 19 = .ok (.if_icmp .lt 20, 3) := by decide +kernel
theorem dX2_push_39 : decode cX2_push 39 = .ok (.aload_n 0, 1) := by decide +kernel
theorem dX2_push_40 : decode cX2_push 40 = .ok (.getfield 9, 3) := by decide +kernel
theorem dX2_push_43 : decode cX2_push 43 = .ok (.aload_n 0, 1) := by decide +kernel
theorem dX2_push_44 : decode cX2_push 44 = .ok (.getfield 15, 3) := by decide +kernel
theorem dX2_push_47 : decode cX2_push 47 = .ok (.iload_n 1, 1) := by decide +kernel
theorem dX2_push_48 : decode cX2_push 48 = .ok (.iastore, 1) := by decide +kernel
theorem dX2_push_49 : decode cX2_push 49 = .ok (.aload_n 0, 1) := by decide +kernel
theorem dX2_push_50 : decode cX2_push 50 = .ok (.dup, 1) := by decide +kernel
theorem dX2_push_51 : decode cX2_push 51 = .ok (.getfield 15, 3) := by decide +kernel
theorem dX2_push_54 : decode cX2_push 54 = .ok (.iconst 1, 1) := by decide +kernel
theorem dX2_push_55 : decode cX2_push 55 = .ok (.iadd, 1) := by decide +kernel
theorem dX2_push_56 : decode cX2_push 56 = .ok (.putfield 15, 3) := by decide +kernel
theorem dX2_push_59 : decode cX2_push 59 = .ok (.return_, 1) := by decide +kernel
theorem dX2_length_0 : decode cX2_length 0 = .ok (.aload_n 0, 1) := by decide +kernel
theorem dX2_length_1 : decode cX2_length 1 = .ok (.getfield 15, 3) := by decide +kernel
theorem dX2_length_4 : decode cX2_length 4 = .ok (.ireturn, 1) := by decide +kernel
theorem dX2_pop_0 : decode cX2_pop 0 = .ok (.aload_n 0, 1) := by decide +kernel
theorem dX2_pop_1 : decode cX2_pop 1 = .ok (.getfield 15, 3) := by decide +kernel
theorem dX2_pop_4 : decode cX2_pop 4 = .ok (.ifCond .ne 5, 3) := by decide +kernel
theorem dX2_pop_9 : decode cX2_pop 9 = .ok (.aload_n 0, 1) := by decide +kernel
theorem dX2_pop_10 : decode cX2_pop 10 = .ok (.dup, 1) := by decide +kernel
theorem dX2_pop_11 : decode cX2_pop 11 = .ok (.getfield 15, 3) := by decide +kernel
theorem dX2_pop_14 : decode cX2_pop 14 = .ok (.iconst 1, 1) := by decide +kernel
theorem dX2_pop_15 : decode cX2_pop 15 = .ok (.isub, 1) := by decide +kernel
theorem dX2_pop_16 : decode cX2_pop 16 = .ok (.putfield 15, 3) := by decide +kernel
theorem dX2_pop_19 : decode cX2_pop 19 = .ok (.aload_n 0, 1) := by decide +kernel
theorem dX2_pop_20 : decode cX2_pop 20 = .ok (.getfield 9, 3) := by decide +kernel
theorem dX2_pop_23 : decode cX2_pop 23 = .ok (.aload_n 0, 1) := by decide +kernel
theorem dX2_pop_24 : decode cX2_pop 24 = .ok (.getfield 15, 3) := by decide +kernel
theorem dX2_pop_27 : decode cX2_pop 27 = .ok (.iaload, 1) := by decide +kernel
theorem dX2_pop_28 : decode cX2_pop 28 = .ok (.ireturn, 1) := by decide +kernel
theorem dX0_signAt_0 : decode cX0_signAt 0 = .ok (.iload_n 1, 1) := by decide +kernel
theorem dX0_signAt_1 : decode cX0_signAt 1 = .ok (.ifCond .lt 20, 3) := by decide +kernel
theorem dX0_signAt_4 : decode cX0_signAt 4 = .ok (.iload_n 1, 1) := by decide +kernel
theorem dX0_signAt_5 : decode cX0_signAt 5 = .ok (.aload_n 0, 1) := by decide +kernel
theorem dX0_signAt_6 : decode cX0_signAt 6 = .ok (.getfield 28, 3) := by decide +kernel
theorem dX0_signAt_9 : decode cX0_signAt 9 = .ok (.if_icmp .ge 12, 3) := by decide +kernel
theorem dX0_signAt_21 : decode cX0_signAt 21 = .ok (.iconst (-1), 1) := by decide +kernel
theorem dX0_signAt_22 : decode cX0_signAt 22 = .ok (.ireturn, 1) := by decide +kernel
theorem dX11_nameBit_0 : decode cX11_nameBit 0 = .ok (.iload_n 0, 1) := by decide +kernel
theorem dX11_nameBit_1 : decode cX11_nameBit 1 = .ok (.bipush 97, 2) := by decide +kernel
theorem dX11_nameBit_3 : decode cX11_nameBit 3 = .ok (.if_icmp .lt 18, 3) := by decide +kernel
theorem dX11_nameBit_21 : decode cX11_nameBit 21 = .ok (.iconst 0, 1) := by decide +kernel
theorem dX11_nameBit_22 : decode cX11_nameBit 22 = .ok (.ireturn, 1) := by decide +kernel
theorem dX6_kindOf_0 : decode cX6_kindOf 0 = .ok (.iload_n 0, 1) := by decide +kernel
theorem dX6_kindOf_1 : decode cX6_kindOf 1 = .ok (.bipush 48, 2) := by decide +kernel
theorem dX6_kindOf_3 : decode cX6_kindOf 3 = .ok (.if_icmp .lt 11, 3) := by decide +kernel
theorem dX6_kindOf_14 : decode cX6_kindOf 14 = .ok (.iload_n 0, 1) := by decide +kernel
theorem dX6_kindOf_15 : decode cX6_kindOf 15 = .ok (.invokestatic 83, 3) := by decide +kernel
theorem dX6_kindOf_18 : decode cX6_kindOf 18 = .ok (.ifCond .eq 5, 3) := by decide +kernel
theorem dX6_kindOf_23 : decode cX6_kindOf 23 = .ok (.iload_n 0, 1) := by decide +kernel
theorem dX6_kindOf_24 : decode cX6_kindOf 24 = .ok (.lookupswitch 123 #[(35, 111), (36, 96), (38, 114), (40, 94), (45, 111), (60, 117), (63, 120), (92, 92), (123, 98), (126, 111)], 92) := by decide +kernel
theorem dX6_kindOf_147 : decode cX6_kindOf 147 = .ok (.iconst (-1), 1) := by decide +kernel
theorem dX6_kindOf_148 : decode cX6_kindOf 148 = .ok (.ireturn, 1) := by decide +kernel
theorem dX6_acceptsExpression_0 : decode cX6_acceptsExpression 0 = .ok (.aload_n 0, 1) := by decide +kernel
theorem dX6_acceptsExpression_1 : decode cX6_acceptsExpression 1 = .ok (.getfield 25, 3) := by decide +kernel
theorem dX6_acceptsExpression_4 : decode cX6_acceptsExpression 4 = .ok (.aload_n 0, 1) := by decide +kernel
theorem dX6_acceptsExpression_5 : decode cX6_acceptsExpression 5 = .ok (.getfield 35, 3) := by decide +kernel
theorem dX6_acceptsExpression_8 : decode cX6_acceptsExpression 8 = .ok (.invokevirtual 73, 3) := by decide +kernel
theorem dX6_acceptsExpression_11 : decode cX6_acceptsExpression 11 = .ok (.aload_n 0, 1) := by decide +kernel
theorem dX6_acceptsExpression_12 : decode cX6_acceptsExpression 12 = .ok (.getfield 25, 3) := by decide +kernel
theorem dX6_acceptsExpression_15 : decode cX6_acceptsExpression 15 = .ok (.aload_n 0, 1) := by decide +kernel
theorem dX6_acceptsExpression_16 : decode cX6_acceptsExpression 16 = .ok (.getfield 35, 3) := by decide +kernel
theorem dX6_acceptsExpression_19 : decode cX6_acceptsExpression 19 = .ok (.iconst 1, 1) := by decide +kernel
theorem dX6_acceptsExpression_20 : decode cX6_acceptsExpression 20 = .ok (.iadd, 1) := by decide +kernel
theorem dX6_acceptsExpression_21 : decode cX6_acceptsExpression 21 = .ok (.invokevirtual 73, 3) := by decide +kernel
theorem dX6_acceptsExpression_24 : decode cX6_acceptsExpression 24 = .ok (.invokestatic 86, 3) := by decide +kernel
theorem dX6_acceptsExpression_27 : decode cX6_acceptsExpression 27 = .ok (.istore_n 1, 1) := by decide +kernel
theorem dX6_acceptsExpression_28 : decode cX6_acceptsExpression 28 = .ok (.iload_n 1, 1) := by decide +kernel
theorem dX6_acceptsExpression_29 : decode cX6_acceptsExpression 29 = .ok (.iconst (-1), 1) := by decide +kernel
theorem dX6_acceptsExpression_30 : decode cX6_acceptsExpression 30 = .ok (.if_icmp .ne 5, 3) := by decide +kernel
theorem dX6_acceptsExpression_33 : decode cX6_acceptsExpression 33 = .ok (.iconst 0, 1) := by decide +kernel
theorem dX6_acceptsExpression_34 : decode cX6_acceptsExpression 34 = .ok (.ireturn, 1) := by decide +kernel
theorem dX6_accepts_0 : decode cX6_accepts 0 = .ok (.iload_n 1, 1) := by decide +kernel
theorem dX6_accepts_1 : decode cX6_accepts 1 = .ok (.lookupswitch 77 #[(66, 65), (67, 71), (69, 43), (83, 48)], 43) := by decide +kernel
theorem dX6_accepts_44 : decode cX6_accepts 44 = .ok (.aload_n 0, 1) := by decide +kernel
theorem dX6_accepts_45 : decode cX6_accepts 45 = .ok (.invokevirtual 58, 3) := by decide +kernel
theorem dX6_accepts_48 : decode cX6_accepts 48 = .ok (.ireturn, 1) := by decide +kernel
theorem dX6_read_0 : decode cX6_read 0 = .ok (.aload_n 0, 1) := by decide +kernel
theorem dX6_read_1 : decode cX6_read 1 = .ok (.aload_n 3, 1) := by decide +kernel
theorem dX6_read_2 : decode cX6_read 2 = .ok (.putfield 25, 3) := by decide +kernel
theorem dX6_read_5 : decode cX6_read 5 = .ok (.aload_n 0, 1) := by decide +kernel
theorem dX6_read_6 : decode cX6_read 6 = .ok (.getfield 25, 3) := by decide +kernel
theorem dX6_read_9 : decode cX6_read 9 = .ok (.aload_n 1, 1) := by decide +kernel
theorem dX6_read_10 : decode cX6_read 10 = .ok (.iload_n 2, 1) := by decide +kernel
theorem dX6_read_11 : decode cX6_read 11 = .ok (.invokevirtual 29, 3) := by decide +kernel
theorem dX6_read_14 : decode cX6_read 14 = .ok (.aload_n 0, 1) := by decide +kernel
theorem dX6_read_15 : decode cX6_read 15 = .ok (.iconst 0, 1) := by decide +kernel
theorem dX6_read_16 : decode cX6_read 16 = .ok (.putfield 35, 3) := by decide +kernel
theorem dX6_read_19 : decode cX6_read 19 = .ok (.aload_n 0, 1) := by decide +kernel
theorem dX6_read_20 : decode cX6_read 20 = .ok (.getfield 12, 3) := by decide +kernel
theorem dX6_read_23 : decode cX6_read 23 = .ok (.invokevirtual 39, 3) := by decide +kernel
theorem dX6_read_26 : decode cX6_read 26 = .ok (.aload_n 0, 1) := by decide +kernel
theorem dX6_read_27 : decode cX6_read 27 = .ok (.getfield 12, 3) := by decide +kernel
theorem dX6_read_30 : decode cX6_read 30 = .ok (.bipush 69, 2) := by decide +kernel
theorem dX6_read_32 : decode cX6_read 32 = .ok (.invokevirtual 42, 3) := by decide +kernel
theorem dX6_read_35 : decode cX6_read 35 = .ok (.iconst 0, 1) := by decide +kernel
theorem dX6_read_36 : decode cX6_read 36 = .ok (.istore 4, 2) := by decide +kernel
theorem dX6_read_38 : decode cX6_read 38 = .ok (.iload 4, 2) := by decide +kernel
theorem dX6_read_40 : decode cX6_read 40 = .ok (.ldc 46, 2) := by decide +kernel
theorem dX6_read_42 : decode cX6_read 42 = .ok (.if_icmp .ge 51, 3) := by decide +kernel
theorem dX6_read_45 : decode cX6_read 45 = .ok (.aload_n 0, 1) := by decide +kernel
theorem dX6_read_46 : decode cX6_read 46 = .ok (.getfield 12, 3) := by decide +kernel
theorem dX6_read_49 : decode cX6_read 49 = .ok (.invokevirtual 47, 3) := by decide +kernel
theorem dX6_read_52 : decode cX6_read 52 = .ok (.ifCond .le 41, 3) := by decide +kernel
theorem dX6_read_55 : decode cX6_read 55 = .ok (.aload_n 0, 1) := by decide +kernel
theorem dX6_read_56 : decode cX6_read 56 = .ok (.getfield 12, 3) := by decide +kernel
theorem dX6_read_59 : decode cX6_read 59 = .ok (.invokevirtual 51, 3) := by decide +kernel
theorem dX6_read_62 : decode cX6_read 62 = .ok (.istore 5, 2) := by decide +kernel
theorem dX6_read_64 : decode cX6_read 64 = .ok (.aload_n 0, 1) := by decide +kernel
theorem dX6_read_65 : decode cX6_read 65 = .ok (.iload 5, 2) := by decide +kernel
theorem dX6_read_67 : decode cX6_read 67 = .ok (.sipush 255, 3) := by decide +kernel
theorem dX6_read_70 : decode cX6_read 70 = .ok (.iand, 1) := by decide +kernel
theorem dX6_read_71 : decode cX6_read 71 = .ok (.iload 5, 2) := by decide +kernel
theorem dX6_read_73 : decode cX6_read 73 = .ok (.bipush 8, 2) := by decide +kernel
theorem dX6_read_75 : decode cX6_read 75 = .ok (.ishr, 1) := by decide +kernel
theorem dX6_read_76 : decode cX6_read 76 = .ok (.invokevirtual 54, 3) := by decide +kernel
theorem dX6_read_79 : decode cX6_read 79 = .ok (.ifCond .ne 8, 3) := by decide +kernel
theorem dX6_read_82 : decode cX6_read 82 = .ok (.aload_n 0, 1) := by decide +kernel
theorem dX6_read_83 : decode cX6_read 83 = .ok (.getfield 35, 3) := by decide +kernel
theorem dX6_read_86 : decode cX6_read 86 = .ok (.ireturn, 1) := by decide +kernel
theorem dX11_readText_0 : decode cX11_readText 0 = .ok (.aload_n 0, 1) := by decide +kernel
theorem dX11_readText_1 : decode cX11_readText 1 = .ok (.getfield 99, 3) := by decide +kernel
theorem dX11_readText_4 : decode cX11_readText 4 = .ok (.istore_n 1, 1) := by decide +kernel
theorem dX11_readText_5 : decode cX11_readText 5 = .ok (.aload_n 0, 1) := by decide +kernel
theorem dX11_readText_6 : decode cX11_readText 6 = .ok (.iconst 0, 1) := by decide +kernel
theorem dX11_readText_7 : decode cX11_readText 7 = .ok (.putfield 99, 3) := by decide +kernel
theorem dX11_readText_10 : decode cX11_readText 10 = .ok (.aload_n 0, 1) := by decide +kernel
theorem dX11_readText_11 : decode cX11_readText 11 = .ok (.getfield 39, 3) := by decide +kernel
theorem dX11_readText_14 : decode cX11_readText 14 = .ok (.aload_n 0, 1) := by decide +kernel
theorem dX11_readText_15 : decode cX11_readText 15 = .ok (.getfield 9, 3) := by decide +kernel
theorem dX11_readText_18 : decode cX11_readText 18 = .ok (.iload_n 1, 1) := by decide +kernel
theorem dX11_readText_19 : decode cX11_readText 19 = .ok (.aload_n 0, 1) := by decide +kernel
theorem dX11_readText_20 : decode cX11_readText 20 = .ok (.getfield 15, 3) := by decide +kernel
theorem dX11_readText_23 : decode cX11_readText 23 = .ok (.bipush 9, 2) := by decide +kernel
theorem dX11_readText_25 : decode cX11_readText 25 = .ok (.aaload, 1) := by decide +kernel
theorem dX11_readText_26 : decode cX11_readText 26 = .ok (.invokevirtual 304, 3) := by decide +kernel
theorem dX11_readText_29 : decode cX11_readText 29 = .ok (.ireturn, 1) := by decide +kernel
theorem dX11_infers_0 : decode cX11_infers 0 = .ok (.aload_n 0, 1) := by decide +kernel
theorem dX11_infers_1 : decode cX11_infers 1 = .ok (.invokevirtual 102, 3) := by decide +kernel
theorem dX11_infers_4 : decode cX11_infers 4 = .ok (.istore_n 1, 1) := by decide +kernel
theorem dX11_infers_5 : decode cX11_infers 5 = .ok (.iload_n 1, 1) := by decide +kernel
theorem dX11_infers_6 : decode cX11_infers 6 = .ok (.iconst (-1), 1) := by decide +kernel
theorem dX11_infers_7 : decode cX11_infers 7 = .ok (.if_icmp .eq 7, 3) := by decide +kernel
theorem dX11_infers_10 : decode cX11_infers 10 = .ok (.iconst (-1), 1) := by decide +kernel
theorem dX11_infers_11 : decode cX11_infers 11 = .ok (.iload_n 1, 1) := by decide +kernel
theorem dX11_infers_12 : decode cX11_infers 12 = .ok (.isub, 1) := by decide +kernel
theorem dX11_infers_13 : decode cX11_infers 13 = .ok (.ireturn, 1) := by decide +kernel
theorem dX11_defines_0 : decode cX11_defines 0 = .ok (.aload_n 0, 1) := by decide +kernel
theorem dX11_defines_1 : decode cX11_defines 1 = .ok (.invokevirtual 102, 3) := by decide +kernel
theorem dX11_defines_4 : decode cX11_defines 4 = .ok (.istore_n 1, 1) := by decide +kernel
theorem dX11_defines_5 : decode cX11_defines 5 = .ok (.iload_n 1, 1) := by decide +kernel
theorem dX11_defines_6 : decode cX11_defines 6 = .ok (.iconst (-1), 1) := by decide +kernel
theorem dX11_defines_7 : decode cX11_defines 7 = .ok (.if_icmp .eq 7, 3) := by decide +kernel
theorem dX11_defines_10 : decode cX11_defines 10 = .ok (.iconst (-1), 1) := by decide +kernel
theorem dX11_defines_11 : decode cX11_defines 11 = .ok (.iload_n 1, 1) := by decide +kernel
theorem dX11_defines_12 : decode cX11_defines 12 = .ok (.isub, 1) := by decide +kernel
theorem dX11_defines_13 : decode cX11_defines 13 = .ok (.ireturn, 1) := by decide +kernel
theorem dX12_init_0 : decode cX12_init 0 = .ok (.aload_n 0, 1) := by decide +kernel
theorem dX12_init_1 : decode cX12_init 1 = .ok (.invokespecial 1, 3) := by decide +kernel
theorem dX12_init_4 : decode cX12_init 4 = .ok (.aload_n 0, 1) := by decide +kernel
theorem dX12_init_5 : decode cX12_init 5 = .ok (.bipush 100, 2) := by decide +kernel
theorem dX12_init_7 : decode cX12_init 7 = .ok (.newarray .byte, 2) := by decide +kernel
theorem dX12_init_9 : decode cX12_init 9 = .ok (.putfield 9, 3) := by decide +kernel
theorem dX12_init_12 : decode cX12_init 12 = .ok (.aload_n 0, 1) := by decide +kernel
theorem dX12_init_13 : decode cX12_init 13 = .ok (.bipush 32, 2) := by decide +kernel
theorem dX12_init_15 : decode cX12_init 15 = .ok (.newarray .long, 2) := by decide +kernel
theorem dX12_init_17 : decode cX12_init 17 = .ok (.putfield 13, 3) := by decide +kernel
theorem dX12_init_20 : decode cX12_init 20 = .ok (.aload_n 0, 1) := by decide +kernel
theorem dX12_init_21 : decode cX12_init 21 = .ok (.sipush 1000, 3) := by decide +kernel
theorem dX12_init_24 : decode cX12_init 24 = .ok (.newarray .int, 2) := by decide +kernel
theorem dX12_init_26 : decode cX12_init 26 = .ok (.putfield 17, 3) := by decide +kernel
theorem dX12_init_29 : decode cX12_init 29 = .ok (.aload_n 0, 1) := by decide +kernel
theorem dX12_init_30 : decode cX12_init 30 = .ok (.sipush 1000, 3) := by decide +kernel
theorem dX12_init_33 : decode cX12_init 33 = .ok (.newarray .int, 2) := by decide +kernel
theorem dX12_init_35 : decode cX12_init 35 = .ok (.putfield 21, 3) := by decide +kernel
theorem dX12_init_38 : decode cX12_init 38 = .ok (.aload_n 0, 1) := by decide +kernel
theorem dX12_init_39 : decode cX12_init 39 = .ok (.sipush 1000, 3) := by decide +kernel
theorem dX12_init_42 : decode cX12_init 42 = .ok (.newarray .int, 2) := by decide +kernel
theorem dX12_init_44 : decode cX12_init 44 = .ok (.putfield 24, 3) := by decide +kernel
theorem dX12_init_47 : decode cX12_init 47 = .ok (.aload_n 0, 1) := by decide +kernel
theorem dX12_init_48 : decode cX12_init 48 = .ok (.sipush 1000, 3) := by decide +kernel
theorem dX12_init_51 : decode cX12_init 51 = .ok (.newarray .int, 2) := by decide +kernel
theorem dX12_init_53 : decode cX12_init 53 = .ok (.putfield 27, 3) := by decide +kernel
theorem dX12_init_56 : decode cX12_init 56 = .ok (.aload_n 0, 1) := by decide +kernel
theorem dX12_init_57 : decode cX12_init 57 = .ok (.sipush 1000, 3) := by decide +kernel
theorem dX12_init_60 : decode cX12_init 60 = .ok (.newarray .int, 2) := by decide +kernel
theorem dX12_init_62 : decode cX12_init 62 = .ok (.putfield 30, 3) := by decide +kernel
theorem dX12_init_65 : decode cX12_init 65 = .ok (.aload_n 0, 1) := by decide +kernel
theorem dX12_init_66 : decode cX12_init 66 = .ok (.sipush 1000, 3) := by decide +kernel
theorem dX12_init_69 : decode cX12_init 69 = .ok (.newarray .int, 2) := by decide +kernel
theorem dX12_init_71 : decode cX12_init 71 = .ok (.putfield 33, 3) := by decide +kernel
theorem dX12_init_74 : decode cX12_init 74 = .ok (.aload_n 0, 1) := by decide +kernel
theorem dX12_init_75 : decode cX12_init 75 = .ok (.sipush 1000, 3) := by decide +kernel
theorem dX12_init_78 : decode cX12_init 78 = .ok (.newarray .int, 2) := by decide +kernel
theorem dX12_init_80 : decode cX12_init 80 = .ok (.putfield 36, 3) := by decide +kernel
theorem dX12_init_83 : decode cX12_init 83 = .ok (.aload_n 0, 1) := by decide +kernel
theorem dX12_init_84 : decode cX12_init 84 = .ok (.sipush 1000, 3) := by decide +kernel
theorem dX12_init_87 : decode cX12_init 87 = .ok (.newarray .int, 2) := by decide +kernel
theorem dX12_init_89 : decode cX12_init 89 = .ok (.putfield 39, 3) := by decide +kernel
theorem dX12_init_92 : decode cX12_init 92 = .ok (.aload_n 0, 1) := by decide +kernel
theorem dX12_init_93 : decode cX12_init 93 = .ok (.bipush 10, 2) := by decide +kernel
theorem dX12_init_95 : decode cX12_init 95 = .ok (.newarray .int, 2) := by decide +kernel
theorem dX12_init_97 : decode cX12_init 97 = .ok (.putfield 42, 3) := by decide +kernel
theorem dX12_init_100 : decode cX12_init 100 = .ok (.aload_n 0, 1) := by decide +kernel
theorem dX12_init_101 : decode cX12_init 101 = .ok (.bipush 10, 2) := by decide +kernel
theorem dX12_init_103 : decode cX12_init 103 = .ok (.newarray .int, 2) := by decide +kernel
theorem dX12_init_105 : decode cX12_init 105 = .ok (.putfield 45, 3) := by decide +kernel
theorem dX12_init_108 : decode cX12_init 108 = .ok (.aload_n 0, 1) := by decide +kernel
theorem dX12_init_109 : decode cX12_init 109 = .ok (.sipush 20000, 3) := by decide +kernel
theorem dX12_init_112 : decode cX12_init 112 = .ok (.newarray .int, 2) := by decide +kernel
theorem dX12_init_114 : decode cX12_init 114 = .ok (.putfield 48, 3) := by decide +kernel
theorem dX12_init_117 : decode cX12_init 117 = .ok (.aload_n 0, 1) := by decide +kernel
theorem dX12_init_118 : decode cX12_init 118 = .ok (.sipush 20000, 3) := by decide +kernel
theorem dX12_init_121 : decode cX12_init 121 = .ok (.newarray .int, 2) := by decide +kernel
theorem dX12_init_123 : decode cX12_init 123 = .ok (.putfield 51, 3) := by decide +kernel
theorem dX12_init_126 : decode cX12_init 126 = .ok (.aload_n 0, 1) := by decide +kernel
theorem dX12_init_127 : decode cX12_init 127 = .ok (.sipush 20000, 3) := by decide +kernel
theorem dX12_init_130 : decode cX12_init 130 = .ok (.newarray .int, 2) := by decide +kernel
theorem dX12_init_132 : decode cX12_init 132 = .ok (.putfield 54, 3) := by decide +kernel
theorem dX12_init_135 : decode cX12_init 135 = .ok (.aload_n 0, 1) := by decide +kernel
theorem dX12_init_136 : decode cX12_init 136 = .ok (.ldc 57, 2) := by decide +kernel
theorem dX12_init_138 : decode cX12_init 138 = .ok (.newarray .int, 2) := by decide +kernel
theorem dX12_init_140 : decode cX12_init 140 = .ok (.putfield 58, 3) := by decide +kernel
theorem dX12_init_143 : decode cX12_init 143 = .ok (.aload_n 0, 1) := by decide +kernel
theorem dX12_init_144 : decode cX12_init 144 = .ok (.sipush 20000, 3) := by decide +kernel
theorem dX12_init_147 : decode cX12_init 147 = .ok (.newarray .int, 2) := by decide +kernel
theorem dX12_init_149 : decode cX12_init 149 = .ok (.putfield 61, 3) := by decide +kernel
theorem dX12_init_152 : decode cX12_init 152 = .ok (.aload_n 0, 1) := by decide +kernel
theorem dX12_init_153 : decode cX12_init 153 = .ok (.sipush 20000, 3) := by decide +kernel
theorem dX12_init_156 : decode cX12_init 156 = .ok (.newarray .int, 2) := by decide +kernel
theorem dX12_init_158 : decode cX12_init 158 = .ok (.putfield 64, 3) := by decide +kernel
theorem dX12_init_161 : decode cX12_init 161 = .ok (.aload_n 0, 1) := by decide +kernel
theorem dX12_init_162 : decode cX12_init 162 = .ok (.sipush 20000, 3) := by decide +kernel
theorem dX12_init_165 : decode cX12_init 165 = .ok (.newarray .int, 2) := by decide +kernel
theorem dX12_init_167 : decode cX12_init 167 = .ok (.putfield 67, 3) := by decide +kernel
theorem dX12_init_170 : decode cX12_init 170 = .ok (.aload_n 0, 1) := by decide +kernel
theorem dX12_init_171 : decode cX12_init 171 = .ok (.sipush 20000, 3) := by decide +kernel
theorem dX12_init_174 : decode cX12_init 174 = .ok (.newarray .int, 2) := by decide +kernel
theorem dX12_init_176 : decode cX12_init 176 = .ok (.putfield 70, 3) := by decide +kernel
theorem dX12_init_179 : decode cX12_init 179 = .ok (.aload_n 0, 1) := by decide +kernel
theorem dX12_init_180 : decode cX12_init 180 = .ok (.sipush 20000, 3) := by decide +kernel
theorem dX12_init_183 : decode cX12_init 183 = .ok (.newarray .int, 2) := by decide +kernel
theorem dX12_init_185 : decode cX12_init 185 = .ok (.putfield 73, 3) := by decide +kernel
theorem dX12_init_188 : decode cX12_init 188 = .ok (.aload_n 0, 1) := by decide +kernel
theorem dX12_init_189 : decode cX12_init 189 = .ok (.sipush 20000, 3) := by decide +kernel
theorem dX12_init_192 : decode cX12_init 192 = .ok (.newarray .int, 2) := by decide +kernel
theorem dX12_init_194 : decode cX12_init 194 = .ok (.putfield 76, 3) := by decide +kernel
theorem dX12_init_197 : decode cX12_init 197 = .ok (.aload_n 0, 1) := by decide +kernel
theorem dX12_init_198 : decode cX12_init 198 = .ok (.sipush 20000, 3) := by decide +kernel
theorem dX12_init_201 : decode cX12_init 201 = .ok (.newarray .int, 2) := by decide +kernel
theorem dX12_init_203 : decode cX12_init 203 = .ok (.putfield 79, 3) := by decide +kernel
theorem dX12_init_206 : decode cX12_init 206 = .ok (.aload_n 0, 1) := by decide +kernel
theorem dX12_init_207 : decode cX12_init 207 = .ok (.bipush 101, 2) := by decide +kernel
theorem dX12_init_209 : decode cX12_init 209 = .ok (.newarray .int, 2) := by decide +kernel
theorem dX12_init_211 : decode cX12_init 211 = .ok (.putfield 82, 3) := by decide +kernel
theorem dX12_init_214 : decode cX12_init 214 = .ok (.aload_n 0, 1) := by decide +kernel
theorem dX12_init_215 : decode cX12_init 215 = .ok (.bipush 101, 2) := by decide +kernel
theorem dX12_init_217 : decode cX12_init 217 = .ok (.newarray .int, 2) := by decide +kernel
theorem dX12_init_219 : decode cX12_init 219 = .ok (.putfield 85, 3) := by decide +kernel
theorem dX12_init_222 : decode cX12_init 222 = .ok (.aload_n 0, 1) := by decide +kernel
theorem dX12_init_223 : decode cX12_init 223 = .ok (.bipush 101, 2) := by decide +kernel
theorem dX12_init_225 : decode cX12_init 225 = .ok (.newarray .int, 2) := by decide +kernel
theorem dX12_init_227 : decode cX12_init 227 = .ok (.putfield 88, 3) := by decide +kernel
theorem dX12_init_230 : decode cX12_init 230 = .ok (.aload_n 0, 1) := by decide +kernel
theorem dX12_init_231 : decode cX12_init 231 = .ok (.sipush 1000, 3) := by decide +kernel
theorem dX12_init_234 : decode cX12_init 234 = .ok (.newarray .int, 2) := by decide +kernel
theorem dX12_init_236 : decode cX12_init 236 = .ok (.putfield 91, 3) := by decide +kernel
theorem dX12_init_239 : decode cX12_init 239 = .ok (.aload_n 0, 1) := by decide +kernel
theorem dX12_init_240 : decode cX12_init 240 = .ok (.sipush 2560, 3) := by decide +kernel
theorem dX12_init_243 : decode cX12_init 243 = .ok (.newarray .int, 2) := by decide +kernel
theorem dX12_init_245 : decode cX12_init 245 = .ok (.putfield 94, 3) := by decide +kernel
theorem dX12_init_248 : decode cX12_init 248 = .ok (.aload_n 0, 1) := by decide +kernel
theorem dX12_init_249 : decode cX12_init 249 = .ok (.sipush 640, 3) := by decide +kernel
theorem dX12_init_252 : decode cX12_init 252 = .ok (.newarray .int, 2) := by decide +kernel
theorem dX12_init_254 : decode cX12_init 254 = .ok (.putfield 97, 3) := by decide +kernel
theorem dX12_init_257 : decode cX12_init 257 = .ok (.aload_n 0, 1) := by decide +kernel
theorem dX12_init_258 : decode cX12_init 258 = .ok (.bipush 10, 2) := by decide +kernel
theorem dX12_init_260 : decode cX12_init 260 = .ok (.newarray .int, 2) := by decide +kernel
theorem dX12_init_262 : decode cX12_init 262 = .ok (.putfield 100, 3) := by decide +kernel
theorem dX12_init_265 : decode cX12_init 265 = .ok (.aload_n 0, 1) := by decide +kernel
theorem dX12_init_266 : decode cX12_init 266 = .ok (.bipush 10, 2) := by decide +kernel
theorem dX12_init_268 : decode cX12_init 268 = .ok (.newarray .int, 2) := by decide +kernel
theorem dX12_init_270 : decode cX12_init 270 = .ok (.putfield 103, 3) := by decide +kernel
theorem dX12_init_273 : decode cX12_init 273 = .ok (.aload_n 0, 1) := by decide +kernel
theorem dX12_init_274 : decode cX12_init 274 = .ok (.sipush 20000, 3) := by decide +kernel
theorem dX12_init_277 : decode cX12_init 277 = .ok (.newarray .int, 2) := by decide +kernel
theorem dX12_init_279 : decode cX12_init 279 = .ok (.putfield 106, 3) := by decide +kernel
theorem dX12_init_282 : decode cX12_init 282 = .ok (.aload_n 0, 1) := by decide +kernel
theorem dX12_init_283 : decode cX12_init 283 = .ok (.sipush 20000, 3) := by decide +kernel
theorem dX12_init_286 : decode cX12_init 286 = .ok (.newarray .int, 2) := by decide +kernel
theorem dX12_init_288 : decode cX12_init 288 = .ok (.putfield 109, 3) := by decide +kernel
theorem dX12_init_291 : decode cX12_init 291 = .ok (.aload_n 0, 1) := by decide +kernel
theorem dX12_init_292 : decode cX12_init 292 = .ok (.bipush 64, 2) := by decide +kernel
theorem dX12_init_294 : decode cX12_init 294 = .ok (.newarray .int, 2) := by decide +kernel
theorem dX12_init_296 : decode cX12_init 296 = .ok (.putfield 112, 3) := by decide +kernel
theorem dX12_init_299 : decode cX12_init 299 = .ok (.aload_n 0, 1) := by decide +kernel
theorem dX12_init_300 : decode cX12_init 300 = .ok (.sipush 1200, 3) := by decide +kernel
theorem dX12_init_303 : decode cX12_init 303 = .ok (.newarray .int, 2) := by decide +kernel
theorem dX12_init_305 : decode cX12_init 305 = .ok (.putfield 115, 3) := by decide +kernel
theorem dX12_init_308 : decode cX12_init 308 = .ok (.aload_n 0, 1) := by decide +kernel
theorem dX12_init_309 : decode cX12_init 309 = .ok (.sipush 20000, 3) := by decide +kernel
theorem dX12_init_312 : decode cX12_init 312 = .ok (.newarray .int, 2) := by decide +kernel
theorem dX12_init_314 : decode cX12_init 314 = .ok (.putfield 118, 3) := by decide +kernel
theorem dX12_init_317 : decode cX12_init 317 = .ok (.aload_n 0, 1) := by decide +kernel
theorem dX12_init_318 : decode cX12_init 318 = .ok (.sipush 20000, 3) := by decide +kernel
theorem dX12_init_321 : decode cX12_init 321 = .ok (.newarray .int, 2) := by decide +kernel
theorem dX12_init_323 : decode cX12_init 323 = .ok (.putfield 121, 3) := by decide +kernel
theorem dX12_init_326 : decode cX12_init 326 = .ok (.aload_n 0, 1) := by decide +kernel
theorem dX12_init_327 : decode cX12_init 327 = .ok (.sipush 1200, 3) := by decide +kernel
theorem dX12_init_330 : decode cX12_init 330 = .ok (.newarray .int, 2) := by decide +kernel
theorem dX12_init_332 : decode cX12_init 332 = .ok (.putfield 124, 3) := by decide +kernel
theorem dX12_init_335 : decode cX12_init 335 = .ok (.aload_n 0, 1) := by decide +kernel
theorem dX12_init_336 : decode cX12_init 336 = .ok (.sipush 1200, 3) := by decide +kernel
theorem dX12_init_339 : decode cX12_init 339 = .ok (.newarray .int, 2) := by decide +kernel
theorem dX12_init_341 : decode cX12_init 341 = .ok (.putfield 127, 3) := by decide +kernel
theorem dX12_init_344 : decode cX12_init 344 = .ok (.aload_n 0, 1) := by decide +kernel
theorem dX12_init_345 : decode cX12_init 345 = .ok (.sipush 1200, 3) := by decide +kernel
theorem dX12_init_348 : decode cX12_init 348 = .ok (.newarray .int, 2) := by decide +kernel
theorem dX12_init_350 : decode cX12_init 350 = .ok (.putfield 130, 3) := by decide +kernel
theorem dX12_init_353 : decode cX12_init 353 = .ok (.aload_n 0, 1) := by decide +kernel
theorem dX12_init_354 : decode cX12_init 354 = .ok (.sipush 9600, 3) := by decide +kernel
theorem dX12_init_357 : decode cX12_init 357 = .ok (.newarray .int, 2) := by decide +kernel
theorem dX12_init_359 : decode cX12_init 359 = .ok (.putfield 133, 3) := by decide +kernel
theorem dX12_init_362 : decode cX12_init 362 = .ok (.aload_n 0, 1) := by decide +kernel
theorem dX12_init_363 : decode cX12_init 363 = .ok (.sipush 1200, 3) := by decide +kernel
theorem dX12_init_366 : decode cX12_init 366 = .ok (.newarray .int, 2) := by decide +kernel
theorem dX12_init_368 : decode cX12_init 368 = .ok (.putfield 136, 3) := by decide +kernel
theorem dX12_init_371 : decode cX12_init 371 = .ok (.aload_n 0, 1) := by decide +kernel
theorem dX12_init_372 : decode cX12_init 372 = .ok (.sipush 1200, 3) := by decide +kernel
theorem dX12_init_375 : decode cX12_init 375 = .ok (.newarray .int, 2) := by decide +kernel
theorem dX12_init_377 : decode cX12_init 377 = .ok (.putfield 139, 3) := by decide +kernel
theorem dX12_init_380 : decode cX12_init 380 = .ok (.aload_n 0, 1) := by decide +kernel
theorem dX12_init_381 : decode cX12_init 381 = .ok (.sipush 1200, 3) := by decide +kernel
theorem dX12_init_384 : decode cX12_init 384 = .ok (.newarray .int, 2) := by decide +kernel
theorem dX12_init_386 : decode cX12_init 386 = .ok (.putfield 142, 3) := by decide +kernel
theorem dX12_init_389 : decode cX12_init 389 = .ok (.return_, 1) := by decide +kernel
theorem dX12_in_0 : decode cX12_in 0 = .ok (.lload_n 0, 1) := by decide +kernel
theorem dX12_in_1 : decode cX12_in 1 = .ok (.lload_n 2, 1) := by decide +kernel
theorem dX12_in_2 : decode cX12_in 2 = .ok (.lcmp, 1) := by decide +kernel
theorem dX12_in_3 : decode cX12_in 3 = .ok (.ifCond .lt 14, 3) := by decide +kernel
theorem dX12_in_6 : decode cX12_in 6 = .ok (.lload_n 0, 1) := by decide +kernel
theorem dX12_in_7 : decode cX12_in 7 = .ok (.lload 4, 2) := by decide +kernel
theorem dX12_in_9 : decode cX12_in 9 = .ok (.lcmp, 1) := by decide +kernel
theorem dX12_in_10 : decode cX12_in 10 = .ok (.ifCond .gt 7, 3) := by decide +kernel
theorem dX12_in_13 : decode cX12_in 13 = .ok (.iconst 1, 1) := by decide +kernel
theorem dX12_in_14 : decode cX12_in 14 = .ok (.goto 4, 3) := by decide +kernel
theorem dX12_in_17 : decode cX12_in 17 = .ok (.iconst 0, 1) := by decide +kernel
theorem dX12_in_18 : decode cX12_in 18 = .ok (.ireturn, 1) := by decide +kernel
theorem dX12_slotOf_0 : decode cX12_slotOf 0 = .ok (.iload_n 1, 1) := by decide +kernel
theorem dX12_slotOf_1 : decode cX12_slotOf 1 = .ok (.iconst (-1), 1) := by decide +kernel
theorem dX12_slotOf_2 : decode cX12_slotOf 2 = .ok (.if_icmp .ne 17, 3) := by decide +kernel
theorem dX12_slotOf_5 : decode cX12_slotOf 5 = .ok (.aload_n 0, 1) := by decide +kernel
theorem dX12_slotOf_6 : decode cX12_slotOf 6 = .ok (.getfield 430, 3) := by decide +kernel
theorem dX12_slotOf_9 : decode cX12_slotOf 9 = .ok (.ifCond .eq 8, 3) := by decide +kernel
theorem dX12_slotOf_17 : decode cX12_slotOf 17 = .ok (.iconst (-1), 1) := by decide +kernel
theorem dX12_slotOf_18 : decode cX12_slotOf 18 = .ok (.ireturn, 1) := by decide +kernel
theorem dX12_slotOf_19 : decode cX12_slotOf 19 = .ok (.iload_n 1, 1) := by decide +kernel
theorem dX12_slotOf_20 : decode cX12_slotOf 20 = .ok (.bipush (-2), 2) := by decide +kernel
theorem dX12_slotOf_22 : decode cX12_slotOf 22 = .ok (.if_icmp .ne 17, 3) := by decide +kernel
theorem dX12_slotOf_25 : decode cX12_slotOf 25 = .ok (.aload_n 0, 1) := by decide +kernel
theorem dX12_slotOf_26 : decode cX12_slotOf 26 = .ok (.getfield 405, 3) := by decide +kernel
theorem dX12_slotOf_29 : decode cX12_slotOf 29 = .ok (.ifCond .eq 8, 3) := by decide +kernel
theorem dX12_slotOf_37 : decode cX12_slotOf 37 = .ok (.iconst (-1), 1) := by decide +kernel
theorem dX12_slotOf_38 : decode cX12_slotOf 38 = .ok (.ireturn, 1) := by decide +kernel
theorem dX12_slotOf_39 : decode cX12_slotOf 39 = .ok (.iload_n 1, 1) := by decide +kernel
theorem dX12_slotOf_40 : decode cX12_slotOf 40 = .ok (.i2l, 1) := by decide +kernel
theorem dX12_slotOf_41 : decode cX12_slotOf 41 = .ok (.lconst 0, 1) := by decide +kernel
theorem dX12_slotOf_42 : decode cX12_slotOf 42 = .ok (.aload_n 0, 1) := by decide +kernel
theorem dX12_slotOf_43 : decode cX12_slotOf 43 = .ok (.getfield 328, 3) := by decide +kernel
theorem dX12_slotOf_46 : decode cX12_slotOf 46 = .ok (.iconst 1, 1) := by decide +kernel
theorem dX12_slotOf_47 : decode cX12_slotOf 47 = .ok (.isub, 1) := by decide +kernel
theorem dX12_slotOf_48 : decode cX12_slotOf 48 = .ok (.i2l, 1) := by decide +kernel
theorem dX12_slotOf_49 : decode cX12_slotOf 49 = .ok (.invokestatic 155, 3) := by decide +kernel
theorem dX12_slotOf_52 : decode cX12_slotOf 52 = .ok (.ifCond .eq 7, 3) := by decide +kernel
theorem dX12_slotOf_59 : decode cX12_slotOf 59 = .ok (.iconst (-1), 1) := by decide +kernel
theorem dX12_slotOf_60 : decode cX12_slotOf 60 = .ok (.ireturn, 1) := by decide +kernel
theorem dX12_textSlot_0 : decode cX12_textSlot 0 = .ok (.iload_n 1, 1) := by decide +kernel
theorem dX12_textSlot_1 : decode cX12_textSlot 1 = .ok (.bipush (-2), 2) := by decide +kernel
theorem dX12_textSlot_3 : decode cX12_textSlot 3 = .ok (.if_icmp .ne 7, 3) := by decide +kernel
theorem dX12_textSlot_6 : decode cX12_textSlot 6 = .ok (.iconst (-1), 1) := by decide +kernel
theorem dX12_textSlot_7 : decode cX12_textSlot 7 = .ok (.goto 8, 3) := by decide +kernel
theorem dX12_textSlot_10 : decode cX12_textSlot 10 = .ok (.aload_n 0, 1) := by decide +kernel
theorem dX12_textSlot_11 : decode cX12_textSlot 11 = .ok (.iload_n 1, 1) := by decide +kernel
theorem dX12_textSlot_12 : decode cX12_textSlot 12 = .ok (.invokevirtual 436, 3) := by decide +kernel
theorem dX12_textSlot_15 : decode cX12_textSlot 15 = .ok (.ireturn, 1) := by decide +kernel
theorem dX12_begin_0 : decode cX12_begin 0 = .ok (.aload_n 0, 1) := by decide +kernel
theorem dX12_begin_1 : decode cX12_begin 1 = .ok (.aload_n 0, 1) := by decide +kernel
theorem dX12_begin_2 : decode cX12_begin 2 = .ok (.getfield 152, 3) := by decide +kernel
theorem dX12_begin_5 : decode cX12_begin 5 = .ok (.putfield 162, 3) := by decide +kernel
theorem dX12_begin_8 : decode cX12_begin 8 = .ok (.aload_n 0, 1) := by decide +kernel
theorem dX12_begin_9 : decode cX12_begin 9 = .ok (.iconst 0, 1) := by decide +kernel
theorem dX12_begin_10 : decode cX12_begin 10 = .ok (.putfield 152, 3) := by decide +kernel
theorem dX12_begin_13 : decode cX12_begin 13 = .ok (.aload_n 0, 1) := by decide +kernel
theorem dX12_begin_14 : decode cX12_begin 14 = .ok (.iconst 0, 1) := by decide +kernel
theorem dX12_begin_15 : decode cX12_begin 15 = .ok (.putfield 159, 3) := by decide +kernel
theorem dX12_begin_18 : decode cX12_begin 18 = .ok (.aload_n 0, 1) := by decide +kernel
theorem dX12_begin_19 : decode cX12_begin 19 = .ok (.iconst (-1), 1) := by decide +kernel
theorem dX12_begin_20 : decode cX12_begin 20 = .ok (.putfield 165, 3) := by decide +kernel
theorem dX12_begin_23 : decode cX12_begin 23 = .ok (.return_, 1) := by decide +kernel
theorem dX12_size_0 : decode cX12_size 0 = .ok (.aload_n 0, 1) := by decide +kernel
theorem dX12_size_1 : decode cX12_size 1 = .ok (.iconst 0, 1) := by decide +kernel
theorem dX12_size_2 : decode cX12_size 2 = .ok (.putfield 145, 3) := by decide +kernel
theorem dX12_size_5 : decode cX12_size 5 = .ok (.aload_n 0, 1) := by decide +kernel
theorem dX12_size_6 : decode cX12_size 6 = .ok (.iload_n 1, 1) := by decide +kernel
theorem dX12_size_7 : decode cX12_size 7 = .ok (.invokevirtual 436, 3) := by decide +kernel
theorem dX12_size_10 : decode cX12_size 10 = .ok (.istore_n 2, 1) := by decide +kernel
theorem dX12_size_11 : decode cX12_size 11 = .ok (.iload_n 2, 1) := by decide +kernel
theorem dX12_size_12 : decode cX12_size 12 = .ok (.iconst (-1), 1) := by decide +kernel
theorem dX12_size_13 : decode cX12_size 13 = .ok (.if_icmp .ne 5, 3) := by decide +kernel
theorem dX12_size_16 : decode cX12_size 16 = .ok (.iconst (-1), 1) := by decide +kernel
theorem dX12_size_17 : decode cX12_size 17 = .ok (.ireturn, 1) := by decide +kernel
theorem dX12_sort_0 : decode cX12_sort 0 = .ok (.aload_n 0, 1) := by decide +kernel
theorem dX12_sort_1 : decode cX12_sort 1 = .ok (.iconst 0, 1) := by decide +kernel
theorem dX12_sort_2 : decode cX12_sort 2 = .ok (.putfield 145, 3) := by decide +kernel
theorem dX12_sort_5 : decode cX12_sort 5 = .ok (.aload_n 0, 1) := by decide +kernel
theorem dX12_sort_6 : decode cX12_sort 6 = .ok (.iload_n 1, 1) := by decide +kernel
theorem dX12_sort_7 : decode cX12_sort 7 = .ok (.invokevirtual 436, 3) := by decide +kernel
theorem dX12_sort_10 : decode cX12_sort 10 = .ok (.istore_n 2, 1) := by decide +kernel
theorem dX12_sort_11 : decode cX12_sort 11 = .ok (.iload_n 2, 1) := by decide +kernel
theorem dX12_sort_12 : decode cX12_sort 12 = .ok (.iconst (-1), 1) := by decide +kernel
theorem dX12_sort_13 : decode cX12_sort 13 = .ok (.if_icmp .ne 5, 3) := by decide +kernel
theorem dX12_sort_16 : decode cX12_sort 16 = .ok (.iconst (-1), 1) := by decide +kernel
theorem dX12_sort_17 : decode cX12_sort 17 = .ok (.ireturn, 1) := by decide +kernel
theorem dX12_needs_0 : decode cX12_needs 0 = .ok (.aload_n 0, 1) := by decide +kernel
theorem dX12_needs_1 : decode cX12_needs 1 = .ok (.iconst 0, 1) := by decide +kernel
theorem dX12_needs_2 : decode cX12_needs 2 = .ok (.putfield 145, 3) := by decide +kernel
theorem dX12_needs_5 : decode cX12_needs 5 = .ok (.aload_n 0, 1) := by decide +kernel
theorem dX12_needs_6 : decode cX12_needs 6 = .ok (.iload_n 1, 1) := by decide +kernel
theorem dX12_needs_7 : decode cX12_needs 7 = .ok (.invokevirtual 436, 3) := by decide +kernel
theorem dX12_needs_10 : decode cX12_needs 10 = .ok (.istore_n 2, 1) := by decide +kernel
theorem dX12_needs_11 : decode cX12_needs 11 = .ok (.iload_n 2, 1) := by decide +kernel
theorem dX12_needs_12 : decode cX12_needs 12 = .ok (.iconst (-1), 1) := by decide +kernel
theorem dX12_needs_13 : decode cX12_needs 13 = .ok (.if_icmp .ne 5, 3) := by decide +kernel
theorem dX12_needs_16 : decode cX12_needs 16 = .ok (.iconst (-1), 1) := by decide +kernel
theorem dX12_needs_17 : decode cX12_needs 17 = .ok (.ireturn, 1) := by decide +kernel
theorem dX12_closes_0 : decode cX12_closes 0 = .ok (.aload_n 0, 1) := by decide +kernel
theorem dX12_closes_1 : decode cX12_closes 1 = .ok (.iconst 0, 1) := by decide +kernel
theorem dX12_closes_2 : decode cX12_closes 2 = .ok (.putfield 145, 3) := by decide +kernel
theorem dX12_closes_5 : decode cX12_closes 5 = .ok (.aload_n 0, 1) := by decide +kernel
theorem dX12_closes_6 : decode cX12_closes 6 = .ok (.iload_n 1, 1) := by decide +kernel
theorem dX12_closes_7 : decode cX12_closes 7 = .ok (.invokevirtual 436, 3) := by decide +kernel
theorem dX12_closes_10 : decode cX12_closes 10 = .ok (.istore_n 2, 1) := by decide +kernel
theorem dX12_closes_11 : decode cX12_closes 11 = .ok (.iload_n 2, 1) := by decide +kernel
theorem dX12_closes_12 : decode cX12_closes 12 = .ok (.iconst (-1), 1) := by decide +kernel
theorem dX12_closes_13 : decode cX12_closes 13 = .ok (.if_icmp .ne 5, 3) := by decide +kernel
theorem dX12_closes_16 : decode cX12_closes 16 = .ok (.iconst (-1), 1) := by decide +kernel
theorem dX12_closes_17 : decode cX12_closes 17 = .ok (.ireturn, 1) := by decide +kernel
theorem dX12_type_0 : decode cX12_type 0 = .ok (.aload_n 0, 1) := by decide +kernel
theorem dX12_type_1 : decode cX12_type 1 = .ok (.iconst 0, 1) := by decide +kernel
theorem dX12_type_2 : decode cX12_type 2 = .ok (.putfield 145, 3) := by decide +kernel
theorem dX12_type_5 : decode cX12_type 5 = .ok (.aload_n 0, 1) := by decide +kernel
theorem dX12_type_6 : decode cX12_type 6 = .ok (.iload_n 1, 1) := by decide +kernel
theorem dX12_type_7 : decode cX12_type 7 = .ok (.invokevirtual 436, 3) := by decide +kernel
theorem dX12_type_10 : decode cX12_type 10 = .ok (.istore_n 3, 1) := by decide +kernel
theorem dX12_type_11 : decode cX12_type 11 = .ok (.iload_n 3, 1) := by decide +kernel
theorem dX12_type_12 : decode cX12_type 12 = .ok (.iconst (-1), 1) := by decide +kernel
theorem dX12_type_13 : decode cX12_type 13 = .ok (.if_icmp .ne 5, 3) := by decide +kernel
theorem dX12_type_16 : decode cX12_type 16 = .ok (.iconst (-1), 1) := by decide +kernel
theorem dX12_type_17 : decode cX12_type 17 = .ok (.ireturn, 1) := by decide +kernel
theorem dX12_lacks_0 : decode cX12_lacks 0 = .ok (.aload_n 0, 1) := by decide +kernel
theorem dX12_lacks_1 : decode cX12_lacks 1 = .ok (.iconst 0, 1) := by decide +kernel
theorem dX12_lacks_2 : decode cX12_lacks 2 = .ok (.putfield 145, 3) := by decide +kernel
theorem dX12_lacks_5 : decode cX12_lacks 5 = .ok (.aload_n 0, 1) := by decide +kernel
theorem dX12_lacks_6 : decode cX12_lacks 6 = .ok (.iload_n 1, 1) := by decide +kernel
theorem dX12_lacks_7 : decode cX12_lacks 7 = .ok (.invokevirtual 436, 3) := by decide +kernel
theorem dX12_lacks_10 : decode cX12_lacks 10 = .ok (.istore_n 3, 1) := by decide +kernel
theorem dX12_lacks_11 : decode cX12_lacks 11 = .ok (.iload_n 3, 1) := by decide +kernel
theorem dX12_lacks_12 : decode cX12_lacks 12 = .ok (.iconst (-1), 1) := by decide +kernel
theorem dX12_lacks_13 : decode cX12_lacks 13 = .ok (.if_icmp .eq 21, 3) := by decide +kernel
theorem dX12_lacks_34 : decode cX12_lacks 34 = .ok (.iconst (-1), 1) := by decide +kernel
theorem dX12_lacks_35 : decode cX12_lacks 35 = .ok (.ireturn, 1) := by decide +kernel
theorem dX12_field_0 : decode cX12_field 0 = .ok (.aload_n 0, 1) := by decide +kernel
theorem dX12_field_1 : decode cX12_field 1 = .ok (.iconst 0, 1) := by decide +kernel
theorem dX12_field_2 : decode cX12_field 2 = .ok (.putfield 145, 3) := by decide +kernel
theorem dX12_field_5 : decode cX12_field 5 = .ok (.aload_n 0, 1) := by decide +kernel
theorem dX12_field_6 : decode cX12_field 6 = .ok (.iload_n 1, 1) := by decide +kernel
theorem dX12_field_7 : decode cX12_field 7 = .ok (.invokevirtual 436, 3) := by decide +kernel
theorem dX12_field_10 : decode cX12_field 10 = .ok (.istore_n 3, 1) := by decide +kernel
theorem dX12_field_11 : decode cX12_field 11 = .ok (.iload_n 3, 1) := by decide +kernel
theorem dX12_field_12 : decode cX12_field 12 = .ok (.iconst (-1), 1) := by decide +kernel
theorem dX12_field_13 : decode cX12_field 13 = .ok (.if_icmp .eq 15, 3) := by decide +kernel
theorem dX12_field_28 : decode cX12_field 28 = .ok (.iconst (-1), 1) := by decide +kernel
theorem dX12_field_29 : decode cX12_field 29 = .ok (.ireturn, 1) := by decide +kernel
theorem dX12_side_0 : decode cX12_side 0 = .ok (.aload_n 0, 1) := by decide +kernel
theorem dX12_side_1 : decode cX12_side 1 = .ok (.iconst 0, 1) := by decide +kernel
theorem dX12_side_2 : decode cX12_side 2 = .ok (.putfield 145, 3) := by decide +kernel
theorem dX12_side_5 : decode cX12_side 5 = .ok (.aload_n 0, 1) := by decide +kernel
theorem dX12_side_6 : decode cX12_side 6 = .ok (.iload_n 1, 1) := by decide +kernel
theorem dX12_side_7 : decode cX12_side 7 = .ok (.invokevirtual 436, 3) := by decide +kernel
theorem dX12_side_10 : decode cX12_side 10 = .ok (.istore_n 3, 1) := by decide +kernel
theorem dX12_side_11 : decode cX12_side 11 = .ok (.iload_n 3, 1) := by decide +kernel
theorem dX12_side_12 : decode cX12_side 12 = .ok (.iconst (-1), 1) := by decide +kernel
theorem dX12_side_13 : decode cX12_side 13 = .ok (.if_icmp .eq 13, 3) := by decide +kernel
theorem dX12_side_26 : decode cX12_side 26 = .ok (.iconst (-1), 1) := by decide +kernel
theorem dX12_side_27 : decode cX12_side 27 = .ok (.ireturn, 1) := by decide +kernel
theorem dX12_above_0 : decode cX12_above 0 = .ok (.aload_n 0, 1) := by decide +kernel
theorem dX12_above_1 : decode cX12_above 1 = .ok (.iconst 0, 1) := by decide +kernel
theorem dX12_above_2 : decode cX12_above 2 = .ok (.putfield 145, 3) := by decide +kernel
theorem dX12_above_5 : decode cX12_above 5 = .ok (.aload_n 0, 1) := by decide +kernel
theorem dX12_above_6 : decode cX12_above 6 = .ok (.iload_n 1, 1) := by decide +kernel
theorem dX12_above_7 : decode cX12_above 7 = .ok (.invokevirtual 436, 3) := by decide +kernel
theorem dX12_above_10 : decode cX12_above 10 = .ok (.istore_n 3, 1) := by decide +kernel
theorem dX12_above_11 : decode cX12_above 11 = .ok (.aload_n 0, 1) := by decide +kernel
theorem dX12_above_12 : decode cX12_above 12 = .ok (.iload_n 2, 1) := by decide +kernel
theorem dX12_above_13 : decode cX12_above 13 = .ok (.invokevirtual 436, 3) := by decide +kernel
theorem dX12_above_16 : decode cX12_above 16 = .ok (.istore 4, 2) := by decide +kernel
theorem dX12_above_18 : decode cX12_above 18 = .ok (.iload_n 3, 1) := by decide +kernel
theorem dX12_above_19 : decode cX12_above 19 = .ok (.iconst (-1), 1) := by decide +kernel
theorem dX12_above_20 : decode cX12_above 20 = .ok (.if_icmp .eq 9, 3) := by decide +kernel
theorem dX12_above_29 : decode cX12_above 29 = .ok (.iconst (-1), 1) := by decide +kernel
theorem dX12_above_30 : decode cX12_above 30 = .ok (.ireturn, 1) := by decide +kernel
theorem dX12_meets_0 : decode cX12_meets 0 = .ok (.aload_n 0, 1) := by decide +kernel
theorem dX12_meets_1 : decode cX12_meets 1 = .ok (.iconst 0, 1) := by decide +kernel
theorem dX12_meets_2 : decode cX12_meets 2 = .ok (.putfield 145, 3) := by decide +kernel
theorem dX12_meets_5 : decode cX12_meets 5 = .ok (.aload_n 0, 1) := by decide +kernel
theorem dX12_meets_6 : decode cX12_meets 6 = .ok (.iload_n 1, 1) := by decide +kernel
theorem dX12_meets_7 : decode cX12_meets 7 = .ok (.invokevirtual 436, 3) := by decide +kernel
theorem dX12_meets_10 : decode cX12_meets 10 = .ok (.istore_n 3, 1) := by decide +kernel
theorem dX12_meets_11 : decode cX12_meets 11 = .ok (.aload_n 0, 1) := by decide +kernel
theorem dX12_meets_12 : decode cX12_meets 12 = .ok (.iload_n 2, 1) := by decide +kernel
theorem dX12_meets_13 : decode cX12_meets 13 = .ok (.invokevirtual 436, 3) := by decide +kernel
theorem dX12_meets_16 : decode cX12_meets 16 = .ok (.istore 4, 2) := by decide +kernel
theorem dX12_meets_18 : decode cX12_meets 18 = .ok (.iload_n 3, 1) := by decide +kernel
theorem dX12_meets_19 : decode cX12_meets 19 = .ok (.iconst (-1), 1) := by decide +kernel
theorem dX12_meets_20 : decode cX12_meets 20 = .ok (.if_icmp .eq 9, 3) := by decide +kernel
theorem dX12_meets_29 : decode cX12_meets 29 = .ok (.iconst (-1), 1) := by decide +kernel
theorem dX12_meets_30 : decode cX12_meets 30 = .ok (.ireturn, 1) := by decide +kernel
theorem dX12_applies_0 : decode cX12_applies 0 = .ok (.aload_n 0, 1) := by decide +kernel
theorem dX12_applies_1 : decode cX12_applies 1 = .ok (.iconst 0, 1) := by decide +kernel
theorem dX12_applies_2 : decode cX12_applies 2 = .ok (.putfield 145, 3) := by decide +kernel
theorem dX12_applies_5 : decode cX12_applies 5 = .ok (.aload_n 0, 1) := by decide +kernel
theorem dX12_applies_6 : decode cX12_applies 6 = .ok (.iload_n 1, 1) := by decide +kernel
theorem dX12_applies_7 : decode cX12_applies 7 = .ok (.invokevirtual 436, 3) := by decide +kernel
theorem dX12_applies_10 : decode cX12_applies 10 = .ok (.istore_n 3, 1) := by decide +kernel
theorem dX12_applies_11 : decode cX12_applies 11 = .ok (.aload_n 0, 1) := by decide +kernel
theorem dX12_applies_12 : decode cX12_applies 12 = .ok (.iload_n 2, 1) := by decide +kernel
theorem dX12_applies_13 : decode cX12_applies 13 = .ok (.invokevirtual 436, 3) := by decide +kernel
theorem dX12_applies_16 : decode cX12_applies 16 = .ok (.istore 4, 2) := by decide +kernel
theorem dX12_applies_18 : decode cX12_applies 18 = .ok (.iload_n 3, 1) := by decide +kernel
theorem dX12_applies_19 : decode cX12_applies 19 = .ok (.iconst (-1), 1) := by decide +kernel
theorem dX12_applies_20 : decode cX12_applies 20 = .ok (.if_icmp .eq 9, 3) := by decide +kernel
theorem dX12_applies_29 : decode cX12_applies 29 = .ok (.iconst (-1), 1) := by decide +kernel
theorem dX12_applies_30 : decode cX12_applies 30 = .ok (.ireturn, 1) := by decide +kernel
theorem dX12_steps_0 : decode cX12_steps 0 = .ok (.aload_n 0, 1) := by decide +kernel
theorem dX12_steps_1 : decode cX12_steps 1 = .ok (.iconst 0, 1) := by decide +kernel
theorem dX12_steps_2 : decode cX12_steps 2 = .ok (.putfield 145, 3) := by decide +kernel
theorem dX12_steps_5 : decode cX12_steps 5 = .ok (.aload_n 0, 1) := by decide +kernel
theorem dX12_steps_6 : decode cX12_steps 6 = .ok (.iload_n 1, 1) := by decide +kernel
theorem dX12_steps_7 : decode cX12_steps 7 = .ok (.invokevirtual 503, 3) := by decide +kernel
theorem dX12_steps_10 : decode cX12_steps 10 = .ok (.istore_n 2, 1) := by decide +kernel
theorem dX12_steps_11 : decode cX12_steps 11 = .ok (.iload_n 2, 1) := by decide +kernel
theorem dX12_steps_12 : decode cX12_steps 12 = .ok (.iconst (-1), 1) := by decide +kernel
theorem dX12_steps_13 : decode cX12_steps 13 = .ok (.if_icmp .ne 5, 3) := by decide +kernel
theorem dX12_steps_16 : decode cX12_steps 16 = .ok (.iconst (-1), 1) := by decide +kernel
theorem dX12_steps_17 : decode cX12_steps 17 = .ok (.ireturn, 1) := by decide +kernel
theorem dX12_parts_0 : decode cX12_parts 0 = .ok (.aload_n 0, 1) := by decide +kernel
theorem dX12_parts_1 : decode cX12_parts 1 = .ok (.iconst 0, 1) := by decide +kernel
theorem dX12_parts_2 : decode cX12_parts 2 = .ok (.putfield 145, 3) := by decide +kernel
theorem dX12_parts_5 : decode cX12_parts 5 = .ok (.aload_n 0, 1) := by decide +kernel
theorem dX12_parts_6 : decode cX12_parts 6 = .ok (.iload_n 1, 1) := by decide +kernel
theorem dX12_parts_7 : decode cX12_parts 7 = .ok (.invokevirtual 503, 3) := by decide +kernel
theorem dX12_parts_10 : decode cX12_parts 10 = .ok (.istore_n 2, 1) := by decide +kernel
theorem dX12_parts_11 : decode cX12_parts 11 = .ok (.iload_n 2, 1) := by decide +kernel
theorem dX12_parts_12 : decode cX12_parts 12 = .ok (.iconst (-1), 1) := by decide +kernel
theorem dX12_parts_13 : decode cX12_parts 13 = .ok (.if_icmp .ne 5, 3) := by decide +kernel
theorem dX12_parts_16 : decode cX12_parts 16 = .ok (.iconst (-1), 1) := by decide +kernel
theorem dX12_parts_17 : decode cX12_parts 17 = .ok (.ireturn, 1) := by decide +kernel
theorem dX12_free_0 : decode cX12_free 0 = .ok (.aload_n 0, 1) := by decide +kernel
theorem dX12_free_1 : decode cX12_free 1 = .ok (.iconst 0, 1) := by decide +kernel
theorem dX12_free_2 : decode cX12_free 2 = .ok (.putfield 145, 3) := by decide +kernel
theorem dX12_free_5 : decode cX12_free 5 = .ok (.aload_n 0, 1) := by decide +kernel
theorem dX12_free_6 : decode cX12_free 6 = .ok (.iload_n 1, 1) := by decide +kernel
theorem dX12_free_7 : decode cX12_free 7 = .ok (.invokevirtual 503, 3) := by decide +kernel
theorem dX12_free_10 : decode cX12_free 10 = .ok (.istore_n 2, 1) := by decide +kernel
theorem dX12_free_11 : decode cX12_free 11 = .ok (.iload_n 2, 1) := by decide +kernel
theorem dX12_free_12 : decode cX12_free 12 = .ok (.iconst (-1), 1) := by decide +kernel
theorem dX12_free_13 : decode cX12_free 13 = .ok (.if_icmp .ne 5, 3) := by decide +kernel
theorem dX12_free_16 : decode cX12_free 16 = .ok (.iconst (-1), 1) := by decide +kernel
theorem dX12_free_17 : decode cX12_free 17 = .ok (.ireturn, 1) := by decide +kernel
theorem dX12_part_0 : decode cX12_part 0 = .ok (.aload_n 0, 1) := by decide +kernel
theorem dX12_part_1 : decode cX12_part 1 = .ok (.iconst 0, 1) := by decide +kernel
theorem dX12_part_2 : decode cX12_part 2 = .ok (.putfield 145, 3) := by decide +kernel
theorem dX12_part_5 : decode cX12_part 5 = .ok (.aload_n 0, 1) := by decide +kernel
theorem dX12_part_6 : decode cX12_part 6 = .ok (.iload_n 1, 1) := by decide +kernel
theorem dX12_part_7 : decode cX12_part 7 = .ok (.invokevirtual 503, 3) := by decide +kernel
theorem dX12_part_10 : decode cX12_part 10 = .ok (.istore_n 3, 1) := by decide +kernel
theorem dX12_part_11 : decode cX12_part 11 = .ok (.iload_n 3, 1) := by decide +kernel
theorem dX12_part_12 : decode cX12_part 12 = .ok (.iconst (-1), 1) := by decide +kernel
theorem dX12_part_13 : decode cX12_part 13 = .ok (.if_icmp .ne 5, 3) := by decide +kernel
theorem dX12_part_16 : decode cX12_part 16 = .ok (.iconst (-1), 1) := by decide +kernel
theorem dX12_part_17 : decode cX12_part 17 = .ok (.ireturn, 1) := by decide +kernel
theorem dX12_value_0 : decode cX12_value 0 = .ok (.aload_n 0, 1) := by decide +kernel
theorem dX12_value_1 : decode cX12_value 1 = .ok (.iconst 0, 1) := by decide +kernel
theorem dX12_value_2 : decode cX12_value 2 = .ok (.putfield 145, 3) := by decide +kernel
theorem dX12_value_5 : decode cX12_value 5 = .ok (.aload_n 0, 1) := by decide +kernel
theorem dX12_value_6 : decode cX12_value 6 = .ok (.iload_n 1, 1) := by decide +kernel
theorem dX12_value_7 : decode cX12_value 7 = .ok (.invokevirtual 503, 3) := by decide +kernel
theorem dX12_value_10 : decode cX12_value 10 = .ok (.istore_n 3, 1) := by decide +kernel
theorem dX12_value_11 : decode cX12_value 11 = .ok (.iload_n 3, 1) := by decide +kernel
theorem dX12_value_12 : decode cX12_value 12 = .ok (.iconst (-1), 1) := by decide +kernel
theorem dX12_value_13 : decode cX12_value 13 = .ok (.if_icmp .ne 5, 3) := by decide +kernel
theorem dX12_value_16 : decode cX12_value 16 = .ok (.iconst (-1), 1) := by decide +kernel
theorem dX12_value_17 : decode cX12_value 17 = .ok (.ireturn, 1) := by decide +kernel
theorem dX12_taken_0 : decode cX12_taken 0 = .ok (.aload_n 0, 1) := by decide +kernel
theorem dX12_taken_1 : decode cX12_taken 1 = .ok (.iconst 0, 1) := by decide +kernel
theorem dX12_taken_2 : decode cX12_taken 2 = .ok (.putfield 145, 3) := by decide +kernel
theorem dX12_taken_5 : decode cX12_taken 5 = .ok (.aload_n 0, 1) := by decide +kernel
theorem dX12_taken_6 : decode cX12_taken 6 = .ok (.iload_n 1, 1) := by decide +kernel
theorem dX12_taken_7 : decode cX12_taken 7 = .ok (.invokevirtual 503, 3) := by decide +kernel
theorem dX12_taken_10 : decode cX12_taken 10 = .ok (.istore_n 3, 1) := by decide +kernel
theorem dX12_taken_11 : decode cX12_taken 11 = .ok (.iload_n 3, 1) := by decide +kernel
theorem dX12_taken_12 : decode cX12_taken 12 = .ok (.iconst (-1), 1) := by decide +kernel
theorem dX12_taken_13 : decode cX12_taken 13 = .ok (.if_icmp .eq 15, 3) := by decide +kernel
theorem dX12_taken_28 : decode cX12_taken 28 = .ok (.iconst (-1), 1) := by decide +kernel
theorem dX12_taken_29 : decode cX12_taken 29 = .ok (.ireturn, 1) := by decide +kernel
theorem dX12_often_0 : decode cX12_often 0 = .ok (.aload_n 0, 1) := by decide +kernel
theorem dX12_often_1 : decode cX12_often 1 = .ok (.iconst 0, 1) := by decide +kernel
theorem dX12_often_2 : decode cX12_often 2 = .ok (.putfield 145, 3) := by decide +kernel
theorem dX12_often_5 : decode cX12_often 5 = .ok (.aload_n 0, 1) := by decide +kernel
theorem dX12_often_6 : decode cX12_often 6 = .ok (.iload_n 1, 1) := by decide +kernel
theorem dX12_often_7 : decode cX12_often 7 = .ok (.invokevirtual 503, 3) := by decide +kernel
theorem dX12_often_10 : decode cX12_often 10 = .ok (.istore_n 3, 1) := by decide +kernel
theorem dX12_often_11 : decode cX12_often 11 = .ok (.iload_n 3, 1) := by decide +kernel
theorem dX12_often_12 : decode cX12_often 12 = .ok (.iconst (-1), 1) := by decide +kernel
theorem dX12_often_13 : decode cX12_often 13 = .ok (.if_icmp .eq 15, 3) := by decide +kernel
theorem dX12_often_28 : decode cX12_often 28 = .ok (.iconst (-1), 1) := by decide +kernel
theorem dX12_often_29 : decode cX12_often 29 = .ok (.ireturn, 1) := by decide +kernel
theorem dX12_end_0 : decode cX12_end 0 = .ok (.aload_n 0, 1) := by decide +kernel
theorem dX12_end_1 : decode cX12_end 1 = .ok (.iconst 0, 1) := by decide +kernel
theorem dX12_end_2 : decode cX12_end 2 = .ok (.putfield 145, 3) := by decide +kernel
theorem dX12_end_5 : decode cX12_end 5 = .ok (.iload_n 1, 1) := by decide +kernel
theorem dX12_end_6 : decode cX12_end 6 = .ok (.i2l, 1) := by decide +kernel
theorem dX12_end_7 : decode cX12_end 7 = .ok (.lconst 0, 1) := by decide +kernel
theorem dX12_end_8 : decode cX12_end 8 = .ok (.aload_n 0, 1) := by decide +kernel
theorem dX12_end_9 : decode cX12_end 9 = .ok (.getfield 152, 3) := by decide +kernel
theorem dX12_end_12 : decode cX12_end 12 = .ok (.i2l, 1) := by decide +kernel
theorem dX12_end_13 : decode cX12_end 13 = .ok (.invokestatic 155, 3) := by decide +kernel
theorem dX12_end_16 : decode cX12_end 16 = .ok (.ifCond .ne 5, 3) := by decide +kernel
theorem dX12_end_19 : decode cX12_end 19 = .ok (.iconst 0, 1) := by decide +kernel
theorem dX12_end_20 : decode cX12_end 20 = .ok (.ireturn, 1) := by decide +kernel
theorem dX12_end_21 : decode cX12_end 21 = .ok (.aload_n 0, 1) := by decide +kernel
theorem dX12_end_22 : decode cX12_end 22 = .ok (.iload_n 1, 1) := by decide +kernel
theorem dX12_end_23 : decode cX12_end 23 = .ok (.putfield 152, 3) := by decide +kernel
theorem dX12_end_26 : decode cX12_end 26 = .ok (.iconst 1, 1) := by decide +kernel
theorem dX12_end_27 : decode cX12_end 27 = .ok (.ireturn, 1) := by decide +kernel
theorem dX12_forgets_0 : decode cX12_forgets 0 = .ok (.aload_n 0, 1) := by decide +kernel
theorem dX12_forgets_1 : decode cX12_forgets 1 = .ok (.iconst 0, 1) := by decide +kernel
theorem dX12_forgets_2 : decode cX12_forgets 2 = .ok (.putfield 145, 3) := by decide +kernel
theorem dX12_forgets_5 : decode cX12_forgets 5 = .ok (.iload_n 1, 1) := by decide +kernel
theorem dX12_forgets_6 : decode cX12_forgets 6 = .ok (.i2l, 1) := by decide +kernel
theorem dX12_forgets_7 : decode cX12_forgets 7 = .ok (.lconst 0, 1) := by decide +kernel
theorem dX12_forgets_8 : decode cX12_forgets 8 = .ok (.aload_n 0, 1) := by decide +kernel
theorem dX12_forgets_9 : decode cX12_forgets 9 = .ok (.getfield 328, 3) := by decide +kernel
theorem dX12_forgets_12 : decode cX12_forgets 12 = .ok (.i2l, 1) := by decide +kernel
theorem dX12_forgets_13 : decode cX12_forgets 13 = .ok (.invokestatic 155, 3) := by decide +kernel
theorem dX12_forgets_16 : decode cX12_forgets 16 = .ok (.ifCond .ne 5, 3) := by decide +kernel
theorem dX12_forgets_19 : decode cX12_forgets 19 = .ok (.iconst (-1), 1) := by decide +kernel
theorem dX12_forgets_20 : decode cX12_forgets 20 = .ok (.ireturn, 1) := by decide +kernel
theorem dX12_forgets_21 : decode cX12_forgets 21 = .ok (.aload_n 0, 1) := by decide +kernel
theorem dX12_forgets_22 : decode cX12_forgets 22 = .ok (.getfield 328, 3) := by decide +kernel
theorem dX12_forgets_25 : decode cX12_forgets 25 = .ok (.iload_n 1, 1) := by decide +kernel
theorem dX12_forgets_26 : decode cX12_forgets 26 = .ok (.isub, 1) := by decide +kernel
theorem dX12_forgets_27 : decode cX12_forgets 27 = .ok (.istore_n 2, 1) := by decide +kernel
theorem dX12_forgets_28 : decode cX12_forgets 28 = .ok (.iconst 0, 1) := by decide +kernel
theorem dX12_forgets_29 : decode cX12_forgets 29 = .ok (.istore_n 3, 1) := by decide +kernel
theorem dX12_forgets_30 : decode cX12_forgets 30 = .ok (.iload_n 1, 1) := by decide +kernel
theorem dX12_forgets_31 : decode cX12_forgets 31 = .ok (.istore 4, 2) := by decide +kernel
theorem dX12_forgets_33 : decode cX12_forgets 33 = .ok (.iload 4, 2) := by decide +kernel
theorem dX12_forgets_35 : decode cX12_forgets 35 = .ok (.aload_n 0, 1) := by decide +kernel
theorem dX12_forgets_36 : decode cX12_forgets 36 = .ok (.getfield 328, 3) := by decide +kernel
theorem dX12_forgets_39 : decode cX12_forgets 39 = .ok (.if_icmp .ge 19, 3) := by decide +kernel
theorem dX12_forgets_58 : decode cX12_forgets 58 = .ok (.aload_n 0, 1) := by decide +kernel
theorem dX12_forgets_59 : decode cX12_forgets 59 = .ok (.getfield 430, 3) := by decide +kernel
theorem dX12_forgets_62 : decode cX12_forgets 62 = .ok (.ifCond .eq 25, 3) := by decide +kernel
theorem dX12_forgets_87 : decode cX12_forgets 87 = .ok (.aload_n 0, 1) := by decide +kernel
theorem dX12_forgets_88 : decode cX12_forgets 88 = .ok (.iload_n 1, 1) := by decide +kernel
theorem dX12_forgets_89 : decode cX12_forgets 89 = .ok (.putfield 328, 3) := by decide +kernel
theorem dX12_forgets_92 : decode cX12_forgets 92 = .ok (.iload_n 2, 1) := by decide +kernel
theorem dX12_forgets_93 : decode cX12_forgets 93 = .ok (.ireturn, 1) := by decide +kernel
theorem dX12_count_0 : decode cX12_count 0 = .ok (.aload_n 0, 1) := by decide +kernel
theorem dX12_count_1 : decode cX12_count 1 = .ok (.iconst 0, 1) := by decide +kernel
theorem dX12_count_2 : decode cX12_count 2 = .ok (.putfield 145, 3) := by decide +kernel
theorem dX12_count_5 : decode cX12_count 5 = .ok (.iload_n 1, 1) := by decide +kernel
theorem dX12_count_6 : decode cX12_count 6 = .ok (.tableswitch 75 0 4 #[34, 39, 52, 65, 70], 34) := by decide +kernel
theorem dX12_count_40 : decode cX12_count 40 = .ok (.aload_n 0, 1) := by decide +kernel
theorem dX12_count_41 : decode cX12_count 41 = .ok (.getfield 328, 3) := by decide +kernel
theorem dX12_count_44 : decode cX12_count 44 = .ok (.ireturn, 1) := by decide +kernel
theorem dX12_count_45 : decode cX12_count 45 = .ok (.aload_n 0, 1) := by decide +kernel
theorem dX12_count_46 : decode cX12_count 46 = .ok (.getfield 430, 3) := by decide +kernel
theorem dX12_count_49 : decode cX12_count 49 = .ok (.ifCond .eq 7, 3) := by decide +kernel
theorem dX12_count_56 : decode cX12_count 56 = .ok (.iconst 0, 1) := by decide +kernel
theorem dX12_count_57 : decode cX12_count 57 = .ok (.ireturn, 1) := by decide +kernel
theorem dX12_count_58 : decode cX12_count 58 = .ok (.aload_n 0, 1) := by decide +kernel
theorem dX12_count_59 : decode cX12_count 59 = .ok (.getfield 405, 3) := by decide +kernel
theorem dX12_count_62 : decode cX12_count 62 = .ok (.ifCond .eq 7, 3) := by decide +kernel
theorem dX12_count_69 : decode cX12_count 69 = .ok (.iconst 0, 1) := by decide +kernel
theorem dX12_count_70 : decode cX12_count 70 = .ok (.ireturn, 1) := by decide +kernel
theorem dX12_count_71 : decode cX12_count 71 = .ok (.aload_n 0, 1) := by decide +kernel
theorem dX12_count_72 : decode cX12_count 72 = .ok (.getfield 149, 3) := by decide +kernel
theorem dX12_count_75 : decode cX12_count 75 = .ok (.ireturn, 1) := by decide +kernel
theorem dX12_count_76 : decode cX12_count 76 = .ok (.aload_n 0, 1) := by decide +kernel
theorem dX12_count_77 : decode cX12_count 77 = .ok (.getfield 152, 3) := by decide +kernel
theorem dX12_count_80 : decode cX12_count 80 = .ok (.ireturn, 1) := by decide +kernel
theorem dX12_count_81 : decode cX12_count 81 = .ok (.iconst (-1), 1) := by decide +kernel
theorem dX12_count_82 : decode cX12_count 82 = .ok (.ireturn, 1) := by decide +kernel
theorem dX12_sign_0 : decode cX12_sign 0 = .ok (.aload_n 0, 1) := by decide +kernel
theorem dX12_sign_1 : decode cX12_sign 1 = .ok (.iconst 0, 1) := by decide +kernel
theorem dX12_sign_2 : decode cX12_sign 2 = .ok (.putfield 145, 3) := by decide +kernel
theorem dX12_sign_5 : decode cX12_sign 5 = .ok (.aload_n 0, 1) := by decide +kernel
theorem dX12_sign_6 : decode cX12_sign 6 = .ok (.getfield 152, 3) := by decide +kernel
theorem dX12_sign_9 : decode cX12_sign 9 = .ok (.iconst 4, 1) := by decide +kernel
theorem dX12_sign_10 : decode cX12_sign 10 = .ok (.iadd, 1) := by decide +kernel
theorem dX12_sign_11 : decode cX12_sign 11 = .ok (.bipush 100, 2) := by decide +kernel
theorem dX12_sign_13 : decode cX12_sign 13 = .ok (.if_icmp .le 5, 3) := by decide +kernel
theorem dX12_sign_18 : decode cX12_sign 18 = .ok (.iconst 3, 1) := by decide +kernel
theorem dX12_sign_19 : decode cX12_sign 19 = .ok (.istore_n 2, 1) := by decide +kernel
theorem dX12_sign_20 : decode cX12_sign 20 = .ok (.iload_n 2, 1) := by decide +kernel
theorem dX12_sign_21 : decode cX12_sign 21 = .ok (.ifCond .lt 32, 3) := by decide +kernel
theorem dX12_sign_24 : decode cX12_sign 24 = .ok (.aload_n 0, 1) := by decide +kernel
theorem dX12_sign_25 : decode cX12_sign 25 = .ok (.getfield 9, 3) := by decide +kernel
theorem dX12_sign_28 : decode cX12_sign 28 = .ok (.aload_n 0, 1) := by decide +kernel
theorem dX12_sign_29 : decode cX12_sign 29 = .ok (.dup, 1) := by decide +kernel
theorem dX12_sign_30 : decode cX12_sign 30 = .ok (.getfield 152, 3) := by decide +kernel
theorem dX12_sign_33 : decode cX12_sign 33 = .ok (.dup_x1, 1) := by decide +kernel
theorem dX12_sign_34 : decode cX12_sign 34 = .ok (.iconst 1, 1) := by decide +kernel
theorem dX12_sign_35 : decode cX12_sign 35 = .ok (.iadd, 1) := by decide +kernel
theorem dX12_sign_36 : decode cX12_sign 36 = .ok (.putfield 152, 3) := by decide +kernel
theorem dX12_sign_39 : decode cX12_sign 39 = .ok (.iload_n 1, 1) := by decide +kernel
theorem dX12_sign_40 : decode cX12_sign 40 = .ok (.bipush 8, 2) := by decide +kernel
theorem dX12_sign_42 : decode cX12_sign 42 = .ok (.iload_n 2, 1) := by decide +kernel
theorem dX12_sign_43 : decode cX12_sign 43 = .ok (.imul, 1) := by decide +kernel
theorem dX12_sign_44 : decode cX12_sign 44 = .ok (.ishr, 1) := by decide +kernel
theorem dX12_sign_45 : decode cX12_sign 45 = .ok (.i2b, 1) := by decide +kernel
theorem dX12_sign_46 : decode cX12_sign 46 = .ok (.bastore, 1) := by decide +kernel
theorem dX12_sign_47 : decode cX12_sign 47 = .ok (.iinc 2 (-1), 3) := by decide +kernel
theorem dX12_sign_50 : decode cX12_sign 50 = .ok (.goto (-30), 3) := by decide +kernel
theorem dX12_sign_53 : decode cX12_sign 53 = .ok (.aload_n 0, 1) := by decide +kernel
theorem dX12_sign_54 : decode cX12_sign 54 = .ok (.getfield 152, 3) := by decide +kernel
theorem dX12_sign_57 : decode cX12_sign 57 = .ok (.ireturn, 1) := by decide +kernel
theorem dX12_here_0 : decode cX12_here 0 = .ok (.aload_n 0, 1) := by decide +kernel
theorem dX12_here_1 : decode cX12_here 1 = .ok (.getfield 159, 3) := by decide +kernel
theorem dX12_here_4 : decode cX12_here 4 = .ok (.aload_n 0, 1) := by decide +kernel
theorem dX12_here_5 : decode cX12_here 5 = .ok (.getfield 162, 3) := by decide +kernel
theorem dX12_here_8 : decode cX12_here 8 = .ok (.if_icmp .ge 19, 3) := by decide +kernel
theorem dX12_here_27 : decode cX12_here 27 = .ok (.iconst (-1), 1) := by decide +kernel
theorem dX12_here_28 : decode cX12_here 28 = .ok (.ireturn, 1) := by decide +kernel
theorem dX12_fault_0 : decode cX12_fault 0 = .ok (.aload_n 0, 1) := by decide +kernel
theorem dX12_fault_1 : decode cX12_fault 1 = .ok (.getfield 165, 3) := by decide +kernel
theorem dX12_fault_4 : decode cX12_fault 4 = .ok (.iconst (-1), 1) := by decide +kernel
theorem dX12_fault_5 : decode cX12_fault 5 = .ok (.if_icmp .ne 11, 3) := by decide +kernel
theorem dX12_fault_8 : decode cX12_fault 8 = .ok (.aload_n 0, 1) := by decide +kernel
theorem dX12_fault_9 : decode cX12_fault 9 = .ok (.aload_n 0, 1) := by decide +kernel
theorem dX12_fault_10 : decode cX12_fault 10 = .ok (.getfield 159, 3) := by decide +kernel
theorem dX12_fault_13 : decode cX12_fault 13 = .ok (.putfield 165, 3) := by decide +kernel
theorem dX12_fault_16 : decode cX12_fault 16 = .ok (.return_, 1) := by decide +kernel
theorem dX12_readOne_0 : decode cX12_readOne 0 = .ok (.aload_n 0, 1) := by decide +kernel
theorem dX12_readOne_1 : decode cX12_readOne 1 = .ok (.getfield 165, 3) := by decide +kernel
theorem dX12_readOne_4 : decode cX12_readOne 4 = .ok (.iconst (-1), 1) := by decide +kernel
theorem dX12_readOne_5 : decode cX12_readOne 5 = .ok (.if_icmp .eq 7, 3) := by decide +kernel
theorem dX12_readOne_12 : decode cX12_readOne 12 = .ok (.aload_n 0, 1) := by decide +kernel
theorem dX12_readOne_13 : decode cX12_readOne 13 = .ok (.invokevirtual 168, 3) := by decide +kernel
theorem dX12_readOne_16 : decode cX12_readOne 16 = .ok (.istore_n 1, 1) := by decide +kernel
theorem dX12_readOne_17 : decode cX12_readOne 17 = .ok (.iload_n 1, 1) := by decide +kernel
theorem dX12_readOne_18 : decode cX12_readOne 18 = .ok (.i2l, 1) := by decide +kernel
theorem dX12_readOne_19 : decode cX12_readOne 19 = .ok (.ldc2_w 179, 3) := by decide +kernel
theorem dX12_readOne_22 : decode cX12_readOne 22 = .ok (.ldc2_w 181, 3) := by decide +kernel
theorem dX12_readOne_25 : decode cX12_readOne 25 = .ok (.invokestatic 155, 3) := by decide +kernel
theorem dX12_readOne_28 : decode cX12_readOne 28 = .ok (.ifCond .ne 17, 3) := by decide +kernel
theorem dX12_readOne_31 : decode cX12_readOne 31 = .ok (.iload_n 1, 1) := by decide +kernel
theorem dX12_readOne_32 : decode cX12_readOne 32 = .ok (.i2l, 1) := by decide +kernel
theorem dX12_readOne_33 : decode cX12_readOne 33 = .ok (.ldc2_w 183, 3) := by decide +kernel
theorem dX12_readOne_36 : decode cX12_readOne 36 = .ok (.ldc2_w 185, 3) := by decide +kernel
theorem dX12_readOne_39 : decode cX12_readOne 39 = .ok (.invokestatic 155, 3) := by decide +kernel
theorem dX12_readOne_42 : decode cX12_readOne 42 = .ok (.ifCond .eq 51, 3) := by decide +kernel
theorem dX12_readOne_93 : decode cX12_readOne 93 = .ok (.iload_n 1, 1) := by decide +kernel
theorem dX12_readOne_94 : decode cX12_readOne 94 = .ok (.lookupswitch 144 #[(35, 110), (36, 100), (38, 129), (40, 95), (45, 117), (60, 134), (63, 139), (92, 90), (123, 105), (126, 124)], 90) := by decide +kernel
theorem dX12_readOne_238 : decode cX12_readOne 238 = .ok (.aload_n 0, 1) := by decide +kernel
theorem dX12_readOne_239 : decode cX12_readOne 239 = .ok (.invokevirtual 172, 3) := by decide +kernel
theorem dX12_readOne_242 : decode cX12_readOne 242 = .ok (.sipush 900, 3) := by decide +kernel
theorem dX12_readOne_245 : decode cX12_readOne 245 = .ok (.ireturn, 1) := by decide +kernel
theorem dX12_readAside_0 : decode cX12_readAside 0 = .ok (.aload_n 0, 1) := by decide +kernel
theorem dX12_readAside_1 : decode cX12_readAside 1 = .ok (.invokevirtual 231, 3) := by decide +kernel
theorem dX12_readAside_4 : decode cX12_readAside 4 = .ok (.aload_n 0, 1) := by decide +kernel
theorem dX12_readAside_5 : decode cX12_readAside 5 = .ok (.getfield 42, 3) := by decide +kernel
theorem dX12_readAside_8 : decode cX12_readAside 8 = .ok (.bipush 9, 2) := by decide +kernel
theorem dX12_readAside_10 : decode cX12_readAside 10 = .ok (.iconst 0, 1) := by decide +kernel
theorem dX12_readAside_11 : decode cX12_readAside 11 = .ok (.iastore, 1) := by decide +kernel
theorem dX12_readAside_12 : decode cX12_readAside 12 = .ok (.aload_n 0, 1) := by decide +kernel
theorem dX12_readAside_13 : decode cX12_readAside 13 = .ok (.getfield 45, 3) := by decide +kernel
theorem dX12_readAside_16 : decode cX12_readAside 16 = .ok (.bipush 9, 2) := by decide +kernel
theorem dX12_readAside_18 : decode cX12_readAside 18 = .ok (.aload_n 0, 1) := by decide +kernel
theorem dX12_readAside_19 : decode cX12_readAside 19 = .ok (.invokevirtual 225, 3) := by decide +kernel
theorem dX12_readAside_22 : decode cX12_readAside 22 = .ok (.iastore, 1) := by decide +kernel
theorem dX12_readAside_23 : decode cX12_readAside 23 = .ok (.aload_n 0, 1) := by decide +kernel
theorem dX12_readAside_24 : decode cX12_readAside 24 = .ok (.getfield 165, 3) := by decide +kernel
theorem dX12_readAside_27 : decode cX12_readAside 27 = .ok (.iconst (-1), 1) := by decide +kernel
theorem dX12_readAside_28 : decode cX12_readAside 28 = .ok (.if_icmp .ne 18, 3) := by decide +kernel
theorem dX12_readAside_46 : decode cX12_readAside 46 = .ok (.aload_n 0, 1) := by decide +kernel
theorem dX12_readAside_47 : decode cX12_readAside 47 = .ok (.getfield 165, 3) := by decide +kernel
theorem dX12_readAside_50 : decode cX12_readAside 50 = .ok (.ireturn, 1) := by decide +kernel
theorem dX12_infers_0 : decode cX12_infers 0 = .ok (.aload_n 0, 1) := by decide +kernel
theorem dX12_infers_1 : decode cX12_infers 1 = .ok (.iconst 0, 1) := by decide +kernel
theorem dX12_infers_2 : decode cX12_infers 2 = .ok (.putfield 145, 3) := by decide +kernel
theorem dX12_infers_5 : decode cX12_infers 5 = .ok (.aload_n 0, 1) := by decide +kernel
theorem dX12_infers_6 : decode cX12_infers 6 = .ok (.invokevirtual 418, 3) := by decide +kernel
theorem dX12_infers_9 : decode cX12_infers 9 = .ok (.iconst (-1), 1) := by decide +kernel
theorem dX12_infers_10 : decode cX12_infers 10 = .ok (.if_icmp .eq 10, 3) := by decide +kernel
theorem dX12_infers_13 : decode cX12_infers 13 = .ok (.iconst (-1), 1) := by decide +kernel
theorem dX12_infers_14 : decode cX12_infers 14 = .ok (.aload_n 0, 1) := by decide +kernel
theorem dX12_infers_15 : decode cX12_infers 15 = .ok (.getfield 165, 3) := by decide +kernel
theorem dX12_infers_18 : decode cX12_infers 18 = .ok (.isub, 1) := by decide +kernel
theorem dX12_infers_19 : decode cX12_infers 19 = .ok (.ireturn, 1) := by decide +kernel
theorem dX12_defines_0 : decode cX12_defines 0 = .ok (.aload_n 0, 1) := by decide +kernel
theorem dX12_defines_1 : decode cX12_defines 1 = .ok (.iconst 0, 1) := by decide +kernel
theorem dX12_defines_2 : decode cX12_defines 2 = .ok (.putfield 145, 3) := by decide +kernel
theorem dX12_defines_5 : decode cX12_defines 5 = .ok (.aload_n 0, 1) := by decide +kernel
theorem dX12_defines_6 : decode cX12_defines 6 = .ok (.invokevirtual 418, 3) := by decide +kernel
theorem dX12_defines_9 : decode cX12_defines 9 = .ok (.iconst (-1), 1) := by decide +kernel
theorem dX12_defines_10 : decode cX12_defines 10 = .ok (.if_icmp .eq 10, 3) := by decide +kernel
theorem dX12_defines_13 : decode cX12_defines 13 = .ok (.iconst (-1), 1) := by decide +kernel
theorem dX12_defines_14 : decode cX12_defines 14 = .ok (.aload_n 0, 1) := by decide +kernel
theorem dX12_defines_15 : decode cX12_defines 15 = .ok (.getfield 165, 3) := by decide +kernel
theorem dX12_defines_18 : decode cX12_defines 18 = .ok (.isub, 1) := by decide +kernel
theorem dX12_defines_19 : decode cX12_defines 19 = .ok (.ireturn, 1) := by decide +kernel
theorem dX12_fits_0 : decode cX12_fits 0 = .ok (.aload_n 0, 1) := by decide +kernel
theorem dX12_fits_1 : decode cX12_fits 1 = .ok (.iconst 0, 1) := by decide +kernel
theorem dX12_fits_2 : decode cX12_fits 2 = .ok (.putfield 145, 3) := by decide +kernel
theorem dX12_fits_5 : decode cX12_fits 5 = .ok (.aload_n 0, 1) := by decide +kernel
theorem dX12_fits_6 : decode cX12_fits 6 = .ok (.invokevirtual 231, 3) := by decide +kernel
theorem dX12_fits_9 : decode cX12_fits 9 = .ok (.aload_n 0, 1) := by decide +kernel
theorem dX12_fits_10 : decode cX12_fits 10 = .ok (.iload_n 1, 1) := by decide +kernel
theorem dX12_fits_11 : decode cX12_fits 11 = .ok (.invokevirtual 436, 3) := by decide +kernel
theorem dX12_fits_14 : decode cX12_fits 14 = .ok (.istore_n 2, 1) := by decide +kernel
theorem dX12_fits_15 : decode cX12_fits 15 = .ok (.iload_n 2, 1) := by decide +kernel
theorem dX12_fits_16 : decode cX12_fits 16 = .ok (.iconst (-1), 1) := by decide +kernel
theorem dX12_fits_17 : decode cX12_fits 17 = .ok (.if_icmp .ne 5, 3) := by decide +kernel
theorem dX12_fits_20 : decode cX12_fits 20 = .ok (.iconst (-1), 1) := by decide +kernel
theorem dX12_fits_21 : decode cX12_fits 21 = .ok (.ireturn, 1) := by decide +kernel
theorem dX12_lost_0 : decode cX12_lost 0 = .ok (.aload_n 0, 1) := by decide +kernel
theorem dX12_lost_1 : decode cX12_lost 1 = .ok (.iconst 1, 1) := by decide +kernel
theorem dX12_lost_2 : decode cX12_lost 2 = .ok (.putfield 145, 3) := by decide +kernel
theorem dX12_lost_5 : decode cX12_lost 5 = .ok (.iconst 0, 1) := by decide +kernel
theorem dX12_lost_6 : decode cX12_lost 6 = .ok (.ireturn, 1) := by decide +kernel
theorem dX12_thrown_0 : decode cX12_thrown 0 = .ok (.aload_n 0, 1) := by decide +kernel
theorem dX12_thrown_1 : decode cX12_thrown 1 = .ok (.getfield 145, 3) := by decide +kernel
theorem dX12_thrown_4 : decode cX12_thrown 4 = .ok (.ireturn, 1) := by decide +kernel
theorem dX12_row_0 : decode cX12_row 0 = .ok (.aload_n 0, 1) := by decide +kernel
theorem dX12_row_1 : decode cX12_row 1 = .ok (.iconst 0, 1) := by decide +kernel
theorem dX12_row_2 : decode cX12_row 2 = .ok (.putfield 145, 3) := by decide +kernel
theorem dX12_row_5 : decode cX12_row 5 = .ok (.iload_n 1, 1) := by decide +kernel
theorem dX12_row_6 : decode cX12_row 6 = .ok (.i2l, 1) := by decide +kernel
theorem dX12_row_7 : decode cX12_row 7 = .ok (.lconst 0, 1) := by decide +kernel
theorem dX12_row_8 : decode cX12_row 8 = .ok (.aload_n 0, 1) := by decide +kernel
theorem dX12_row_9 : decode cX12_row 9 = .ok (.getfield 149, 3) := by decide +kernel
theorem dX12_row_12 : decode cX12_row 12 = .ok (.iconst 1, 1) := by decide +kernel
theorem dX12_row_13 : decode cX12_row 13 = .ok (.isub, 1) := by decide +kernel
theorem dX12_row_14 : decode cX12_row 14 = .ok (.i2l, 1) := by decide +kernel
theorem dX12_row_15 : decode cX12_row 15 = .ok (.invokestatic 155, 3) := by decide +kernel
theorem dX12_row_18 : decode cX12_row 18 = .ok (.ifCond .eq 12, 3) := by decide +kernel
theorem dX12_row_30 : decode cX12_row 30 = .ok (.aload_n 0, 1) := by decide +kernel
theorem dX12_row_31 : decode cX12_row 31 = .ok (.invokevirtual 578, 3) := by decide +kernel
theorem dX12_row_34 : decode cX12_row 34 = .ok (.i2l, 1) := by decide +kernel
theorem dX12_row_35 : decode cX12_row 35 = .ok (.lreturn, 1) := by decide +kernel
theorem dX11_row_0 : decode cX11_row 0 = .ok (.iload_n 1, 1) := by decide +kernel
theorem dX11_row_1 : decode cX11_row 1 = .ok (.ifCond .lt 20, 3) := by decide +kernel
theorem dX11_row_4 : decode cX11_row 4 = .ok (.iload_n 1, 1) := by decide +kernel
theorem dX11_row_5 : decode cX11_row 5 = .ok (.aload_n 0, 1) := by decide +kernel
theorem dX11_row_6 : decode cX11_row 6 = .ok (.getfield 298, 3) := by decide +kernel
theorem dX11_row_9 : decode cX11_row 9 = .ok (.if_icmp .ge 12, 3) := by decide +kernel
theorem dX11_row_21 : decode cX11_row 21 = .ok (.new 301, 3) := by decide +kernel
theorem dX11_row_24 : decode cX11_row 24 = .ok (.dup, 1) := by decide +kernel
theorem dX11_row_25 : decode cX11_row 25 = .ok (.invokespecial 303, 3) := by decide +kernel
theorem dX11_row_28 : decode cX11_row 28 = .ok (.athrow, 1) := by decide +kernel
