/-! ===== BEGIN printed: names, fields, word lists, decode rows ===== -/
def RX0 : String := "ObjectLinker$Bytes"
def TX0 : u_T := fun k => match k with
  | 0 => ("ObjectLinker$Bytes", "row", "[B", false)
  | _ => ("ObjectLinker$Bytes", "size", "I", false)
def tyX0 : Nat → FieldType := fun k => match k with
  | 0 => .array .byte
  | _ => .int
abbrev wsX00 : List Cond := u_ws RX0 TX0 2
theorem nmX0 : ∀ a, a < 2 → ∀ b, b < 2 → a ≠ b → (TX0 a).2.1 ≠ (TX0 b).2.1 := by decide +kernel
theorem tyX0_ok : ∀ k, k < 2 → parseFieldDescriptor (TX0 k).2.2.1 = some (tyX0 k) := by decide +kernel
abbrev cX0_init : ByteArray := prog_2_method_1_code
def yX0_init : MethodName := ⟨RX0, "<init>", "()V"⟩
abbrev cX0_put : ByteArray := prog_2_method_2_code
def yX0_put : MethodName := ⟨RX0, "put", "(I)V"⟩
abbrev cX0_putAll : ByteArray := prog_2_method_3_code
def yX0_putAll : MethodName := ⟨RX0, "putAll", "([BI)V"⟩
abbrev cX0_number : ByteArray := prog_2_method_4_code
def yX0_number : MethodName := ⟨RX0, "number", "(I)V"⟩
abbrev cX0_signed : ByteArray := prog_2_method_5_code
def yX0_signed : MethodName := ⟨RX0, "signed", "(I)V"⟩
abbrev cX0_wide : ByteArray := prog_2_method_6_code
def yX0_wide : MethodName := ⟨RX0, "wide", "(I)V"⟩
def RX1 : String := "ObjectLinker$CodeCheck"
def TX1 : u_T := fun k => match k with
  | 0 => ("ObjectLinker$CodeCheck", "openers", "[I", true)
  | 1 => ("ObjectLinker$CodeCheck", "elses", "[I", true)
  | 2 => ("ObjectLinker$CodeCheck", "bases", "[I", true)
  | 3 => ("ObjectLinker$CodeCheck", "leaves", "[I", true)
  | 4 => ("ObjectLinker$CodeCheck", "dead", "[Z", true)
  | 5 => ("ObjectLinker$CodeCheck", "open", "I", false)
  | _ => ("ObjectLinker$CodeCheck", "height", "I", false)
def tyX1 : Nat → FieldType := fun k => match k with
  | 0 => .array .int
  | 1 => .array .int
  | 2 => .array .int
  | 3 => .array .int
  | 4 => .array .boolean
  | 5 => .int
  | _ => .int
abbrev wsX10 : List Cond := u_ws RX1 TX1 7
theorem nmX1 : ∀ a, a < 7 → ∀ b, b < 7 → a ≠ b → (TX1 a).2.1 ≠ (TX1 b).2.1 := by decide +kernel
theorem tyX1_ok : ∀ k, k < 7 → parseFieldDescriptor (TX1 k).2.2.1 = some (tyX1 k) := by decide +kernel
abbrev cX1_init : ByteArray := prog_3_method_1_code
def yX1_init : MethodName := ⟨RX1, "<init>", "()V"⟩
abbrev cX1_wrongCode : ByteArray := prog_3_method_2_code
def yX1_wrongCode : MethodName := ⟨RX1, "wrongCode", "(Ljava/util/List;)I"⟩
abbrev cX1_firstWrong : ByteArray := prog_3_method_3_code
def yX1_firstWrong : MethodName := ⟨RX1, "firstWrong", "(LObjectLinker$Routine;)I"⟩
abbrev cX1_wordFits : ByteArray := prog_3_method_4_code
def yX1_wordFits : MethodName := ⟨RX1, "wordFits", "(LObjectLinker$Routine;I)Z"⟩
abbrev cX1_begin : ByteArray := prog_3_method_5_code
def yX1_begin : MethodName := ⟨RX1, "begin", "(II)V"⟩
abbrev cX1_turn : ByteArray := prog_3_method_6_code
def yX1_turn : MethodName := ⟨RX1, "turn", "(LObjectLinker$Routine;I)Z"⟩
abbrev cX1_finish : ByteArray := prog_3_method_7_code
def yX1_finish : MethodName := ⟨RX1, "finish", "(LObjectLinker$Routine;I)Z"⟩
abbrev cX1_lacksElse : ByteArray := prog_3_method_8_code
def yX1_lacksElse : MethodName := ⟨RX1, "lacksElse", "(LObjectLinker$Routine;)Z"⟩
abbrev cX1_jump : ByteArray := prog_3_method_9_code
def yX1_jump : MethodName := ⟨RX1, "jump", "(LObjectLinker$Routine;I)Z"⟩
abbrev cX1_abandon : ByteArray := prog_3_method_10_code
def yX1_abandon : MethodName := ⟨RX1, "abandon", "()V"⟩
abbrev cX1_passThrough : ByteArray := prog_3_method_11_code
def yX1_passThrough : MethodName := ⟨RX1, "passThrough", "(I)Z"⟩
abbrev cX1_closes : ByteArray := prog_3_method_12_code
def yX1_closes : MethodName := ⟨RX1, "closes", "()Z"⟩
abbrev cX1_pop : ByteArray := prog_3_method_13_code
def yX1_pop : MethodName := ⟨RX1, "pop", "(I)Z"⟩
def RX2 : String := "ObjectLinker$Image"
def TX2 : u_T := fun k => match k with
  | 0 => ("ObjectLinker$Image", "routines", "Ljava/util/List;", true)
  | 1 => ("ObjectLinker$Image", "segments", "Ljava/util/List;", true)
  | 2 => ("ObjectLinker$Image", "symbols", "Ljava/util/List;", true)
  | 3 => ("ObjectLinker$Image", "slots", "Ljava/util/List;", true)
  | 4 => ("ObjectLinker$Image", "types", "[I", true)
  | 5 => ("ObjectLinker$Image", "typeNumbers", "[I", true)
  | 6 => ("ObjectLinker$Image", "typeCount", "I", false)
  | _ => ("ObjectLinker$Image", "end", "I", false)
def tyX2 : Nat → FieldType := fun k => match k with
  | 0 => .object "java/util/List"
  | 1 => .object "java/util/List"
  | 2 => .object "java/util/List"
  | 3 => .object "java/util/List"
  | 4 => .array .int
  | 5 => .array .int
  | 6 => .int
  | _ => .int
abbrev wsX20 : List Cond := u_ws RX2 TX2 8
theorem nmX2 : ∀ a, a < 8 → ∀ b, b < 8 → a ≠ b → (TX2 a).2.1 ≠ (TX2 b).2.1 := by decide +kernel
theorem tyX2_ok : ∀ k, k < 8 → parseFieldDescriptor (TX2 k).2.2.1 = some (tyX2 k) := by decide +kernel
abbrev cX2_init : ByteArray := prog_4_method_1_code
def yX2_init : MethodName := ⟨RX2, "<init>", "()V"⟩
abbrev cX2_gather : ByteArray := prog_4_method_2_code
def yX2_gather : MethodName := ⟨RX2, "gather", "(Ljava/util/List;)V"⟩
abbrev cX2_wrongNumber : ByteArray := prog_4_method_3_code
def yX2_wrongNumber : MethodName := ⟨RX2, "wrongNumber", "()I"⟩
abbrev cX2_otherSignature : ByteArray := prog_4_method_4_code
def yX2_otherSignature : MethodName := ⟨RX2, "otherSignature", "()I"⟩
abbrev cX2_layOut : ByteArray := prog_4_method_5_code
def yX2_layOut : MethodName := ⟨RX2, "layOut", "()V"⟩
abbrev cX2_number : ByteArray := prog_4_method_6_code
def yX2_number : MethodName := ⟨RX2, "number", "()V"⟩
abbrev cX2_noteWord : ByteArray := prog_4_method_7_code
def yX2_noteWord : MethodName := ⟨RX2, "noteWord", "(LObjectLinker$Routine;I)V"⟩
abbrev cX2_noteType : ByteArray := prog_4_method_8_code
def yX2_noteType : MethodName := ⟨RX2, "noteType", "(I)V"⟩
abbrev cX2_noteSlot : ByteArray := prog_4_method_9_code
def yX2_noteSlot : MethodName := ⟨RX2, "noteSlot", "(LObjectLinker$Routine;)V"⟩
def RX3 : String := "ObjectLinker$Machine"
def TX3 : u_T := fun k => match k with
  | 0 => ("ObjectLinker$Machine", "stack", "[J", true)
  | 1 => ("ObjectLinker$Machine", "routines", "[LObjectLinker$Routine;", true)
  | 2 => ("ObjectLinker$Machine", "nexts", "[I", true)
  | 3 => ("ObjectLinker$Machine", "floors", "[I", true)
  | 4 => ("ObjectLinker$Machine", "bytes", "[B", true)
  | 5 => ("ObjectLinker$Machine", "slots", "Ljava/util/List;", false)
  | 6 => ("ObjectLinker$Machine", "height", "I", false)
  | 7 => ("ObjectLinker$Machine", "depth", "I", false)
  | 8 => ("ObjectLinker$Machine", "end", "I", false)
  | 9 => ("ObjectLinker$Machine", "value", "J", false)
  | 10 => ("ObjectLinker$Machine", "steps", "I", false)
  | _ => ("ObjectLinker$Machine", "deepest", "I", false)
def tyX3 : Nat → FieldType := fun k => match k with
  | 0 => .array .long
  | 1 => .array (.object "ObjectLinker$Routine")
  | 2 => .array .int
  | 3 => .array .int
  | 4 => .array .byte
  | 5 => .object "java/util/List"
  | 6 => .int
  | 7 => .int
  | 8 => .int
  | 9 => .long
  | 10 => .int
  | _ => .int
abbrev wsX30 : List Cond := u_ws RX3 TX3 12
theorem nmX3 : ∀ a, a < 12 → ∀ b, b < 12 → a ≠ b → (TX3 a).2.1 ≠ (TX3 b).2.1 := by decide +kernel
theorem tyX3_ok : ∀ k, k < 12 → parseFieldDescriptor (TX3 k).2.2.1 = some (tyX3 k) := by decide +kernel
abbrev cX3_init : ByteArray := prog_5_method_1_code
def yX3_init : MethodName := ⟨RX3, "<init>", "()V"⟩
abbrev cX3_prepare : ByteArray := prog_5_method_2_code
def yX3_prepare : MethodName := ⟨RX3, "prepare", "(LObjectLinker$Image;)V"⟩
abbrev cX3_perform : ByteArray := prog_5_method_3_code
def yX3_perform : MethodName := ⟨RX3, "perform", "(LObjectLinker$Routine;JJI)I"⟩
abbrev cX3_enter : ByteArray := prog_5_method_4_code
def yX3_enter : MethodName := ⟨RX3, "enter", "(LObjectLinker$Routine;)V"⟩
abbrev cX3_leaveEnded : ByteArray := prog_5_method_5_code
def yX3_leaveEnded : MethodName := ⟨RX3, "leaveEnded", "()V"⟩
abbrev cX3_leave : ByteArray := prog_5_method_6_code
def yX3_leave : MethodName := ⟨RX3, "leave", "()V"⟩
abbrev cX3_step : ByteArray := prog_5_method_7_code
def yX3_step : MethodName := ⟨RX3, "step", "()V"⟩
abbrev cX3_move : ByteArray := prog_5_method_8_code
def yX3_move : MethodName := ⟨RX3, "move", "(LObjectLinker$Routine;I)V"⟩
abbrev cX3_select : ByteArray := prog_5_method_9_code
def yX3_select : MethodName := ⟨RX3, "select", "()V"⟩
abbrev cX3_reckon : ByteArray := prog_5_method_10_code
def yX3_reckon : MethodName := ⟨RX3, "reckon", "(I)V"⟩
abbrev cX3_divide : ByteArray := prog_5_method_11_code
def yX3_divide : MethodName := ⟨RX3, "divide", "(IJJ)V"⟩
abbrev cX3_access : ByteArray := prog_5_method_12_code
def yX3_access : MethodName := ⟨RX3, "access", "(II)V"⟩
abbrev cX3_loaded : ByteArray := prog_5_method_13_code
def yX3_loaded : MethodName := ⟨RX3, "loaded", "(II)J"⟩
abbrev cX3_go : ByteArray := prog_5_method_14_code
def yX3_go : MethodName := ⟨RX3, "go", "(LObjectLinker$Routine;I)V"⟩
abbrev cX3_jump : ByteArray := prog_5_method_15_code
def yX3_jump : MethodName := ⟨RX3, "jump", "(LObjectLinker$Routine;I)V"⟩
abbrev cX3_enterMeant : ByteArray := prog_5_method_16_code
def yX3_enterMeant : MethodName := ⟨RX3, "enterMeant", "(LObjectLinker$Routine;)V"⟩
abbrev cX3_enterSlot : ByteArray := prog_5_method_17_code
def yX3_enterSlot : MethodName := ⟨RX3, "enterSlot", "(I)V"⟩
abbrev cX3_keep : ByteArray := prog_5_method_18_code
def yX3_keep : MethodName := ⟨RX3, "keep", "(II)V"⟩
abbrev cX3_push : ByteArray := prog_5_method_19_code
def yX3_push : MethodName := ⟨RX3, "push", "(J)V"⟩
abbrev cX3_pop : ByteArray := prog_5_method_20_code
def yX3_pop : MethodName := ⟨RX3, "pop", "()J"⟩
def RX4 : String := "ObjectLinker$ModuleWriter"
def TX4 : u_T := fun k => match k with
  | 0 => ("ObjectLinker$ModuleWriter", "module", "LObjectLinker$Bytes;", true)
  | 1 => ("ObjectLinker$ModuleWriter", "section", "LObjectLinker$Bytes;", true)
  | _ => ("ObjectLinker$ModuleWriter", "body", "LObjectLinker$Bytes;", true)
def tyX4 : Nat → FieldType := fun k => match k with
  | 0 => .object "ObjectLinker$Bytes"
  | 1 => .object "ObjectLinker$Bytes"
  | _ => .object "ObjectLinker$Bytes"
abbrev wsX40 : List Cond := u_ws RX4 TX4 3
theorem nmX4 : ∀ a, a < 3 → ∀ b, b < 3 → a ≠ b → (TX4 a).2.1 ≠ (TX4 b).2.1 := by decide +kernel
theorem tyX4_ok : ∀ k, k < 3 → parseFieldDescriptor (TX4 k).2.2.1 = some (tyX4 k) := by decide +kernel
abbrev cX4_init : ByteArray := prog_6_method_1_code
def yX4_init : MethodName := ⟨RX4, "<init>", "()V"⟩
abbrev cX4_write : ByteArray := prog_6_method_2_code
def yX4_write : MethodName := ⟨RX4, "write", "(LObjectLinker$Image;)V"⟩
abbrev cX4_writeHeader : ByteArray := prog_6_method_3_code
def yX4_writeHeader : MethodName := ⟨RX4, "writeHeader", "()V"⟩
abbrev cX4_writeSection : ByteArray := prog_6_method_4_code
def yX4_writeSection : MethodName := ⟨RX4, "writeSection", "(I)V"⟩
abbrev cX4_writeTypes : ByteArray := prog_6_method_5_code
def yX4_writeTypes : MethodName := ⟨RX4, "writeTypes", "(LObjectLinker$Image;)V"⟩
abbrev cX4_writeValues : ByteArray := prog_6_method_6_code
def yX4_writeValues : MethodName := ⟨RX4, "writeValues", "(I)V"⟩
abbrev cX4_writeFunctions : ByteArray := prog_6_method_7_code
def yX4_writeFunctions : MethodName := ⟨RX4, "writeFunctions", "(LObjectLinker$Image;)V"⟩
abbrev cX4_writeTable : ByteArray := prog_6_method_8_code
def yX4_writeTable : MethodName := ⟨RX4, "writeTable", "(LObjectLinker$Image;)V"⟩
abbrev cX4_writeSlots : ByteArray := prog_6_method_9_code
def yX4_writeSlots : MethodName := ⟨RX4, "writeSlots", "(LObjectLinker$Image;)V"⟩
abbrev cX4_writeCode : ByteArray := prog_6_method_10_code
def yX4_writeCode : MethodName := ⟨RX4, "writeCode", "(LObjectLinker$Image;)V"⟩
abbrev cX4_writeData : ByteArray := prog_6_method_11_code
def yX4_writeData : MethodName := ⟨RX4, "writeData", "(LObjectLinker$Image;)V"⟩
abbrev cX4_writeBody : ByteArray := prog_6_method_12_code
def yX4_writeBody : MethodName := ⟨RX4, "writeBody", "(LObjectLinker$Image;LObjectLinker$Routine;)V"⟩
abbrev cX4_writeFirst : ByteArray := prog_6_method_13_code
def yX4_writeFirst : MethodName := ⟨RX4, "writeFirst", "(LObjectLinker$Routine;I)V"⟩
abbrev cX4_writeRest : ByteArray := prog_6_method_14_code
def yX4_writeRest : MethodName := ⟨RX4, "writeRest", "(LObjectLinker$Image;LObjectLinker$Routine;I)V"⟩
def RX5 : String := "ObjectLinker$Names"
def TX5 : u_T := fun k => match k with
  | 0 => ("ObjectLinker$Names", "firsts", "[LObjectLinker$Symbol;", true)
  | 1 => ("ObjectLinker$Names", "strongs", "[LObjectLinker$Symbol;", true)
  | _ => ("ObjectLinker$Names", "weaks", "[LObjectLinker$Symbol;", true)
def tyX5 : Nat → FieldType := fun k => match k with
  | 0 => .array (.object "ObjectLinker$Symbol")
  | 1 => .array (.object "ObjectLinker$Symbol")
  | _ => .array (.object "ObjectLinker$Symbol")
abbrev wsX50 : List Cond := u_ws RX5 TX5 3
theorem nmX5 : ∀ a, a < 3 → ∀ b, b < 3 → a ≠ b → (TX5 a).2.1 ≠ (TX5 b).2.1 := by decide +kernel
theorem tyX5_ok : ∀ k, k < 3 → parseFieldDescriptor (TX5 k).2.2.1 = some (tyX5 k) := by decide +kernel
abbrev cX5_init : ByteArray := prog_7_method_1_code
def yX5_init : MethodName := ⟨RX5, "<init>", "()V"⟩
abbrev cX5_join : ByteArray := prog_7_method_2_code
def yX5_join : MethodName := ⟨RX5, "join", "(Ljava/util/List;)V"⟩
abbrev cX5_note : ByteArray := prog_7_method_3_code
def yX5_note : MethodName := ⟨RX5, "note", "(LObjectLinker$Symbol;)V"⟩
abbrev cX5_noteFirst : ByteArray := prog_7_method_4_code
def yX5_noteFirst : MethodName := ⟨RX5, "noteFirst", "([LObjectLinker$Symbol;LObjectLinker$Symbol;)V"⟩
abbrev cX5_definer : ByteArray := prog_7_method_5_code
def yX5_definer : MethodName := ⟨RX5, "definer", "(I)LObjectLinker$Symbol;"⟩
abbrev cX5_doubled : ByteArray := prog_7_method_6_code
def yX5_doubled : MethodName := ⟨RX5, "doubled", "(Ljava/util/List;)I"⟩
abbrev cX5_missing : ByteArray := prog_7_method_7_code
def yX5_missing : MethodName := ⟨RX5, "missing", "(Ljava/util/List;)I"⟩
abbrev cX5_otherKind : ByteArray := prog_7_method_8_code
def yX5_otherKind : MethodName := ⟨RX5, "otherKind", "(Ljava/util/List;)I"⟩
def RX6 : String := "ObjectLinker$Routine"
def TX6 : u_T := fun k => match k with
  | 0 => ("ObjectLinker$Routine", "owner", "LObjectLinker$Unit;", true)
  | 1 => ("ObjectLinker$Routine", "home", "I", true)
  | 2 => ("ObjectLinker$Routine", "parameters", "I", true)
  | 3 => ("ObjectLinker$Routine", "results", "I", true)
  | 4 => ("ObjectLinker$Routine", "locals", "I", true)
  | 5 => ("ObjectLinker$Routine", "words", "[I", true)
  | 6 => ("ObjectLinker$Routine", "numbers", "[I", true)
  | 7 => ("ObjectLinker$Routine", "ends", "[I", true)
  | 8 => ("ObjectLinker$Routine", "goals", "[I", true)
  | 9 => ("ObjectLinker$Routine", "bases", "[I", true)
  | 10 => ("ObjectLinker$Routine", "size", "I", false)
  | 11 => ("ObjectLinker$Routine", "number", "I", false)
  | _ => ("ObjectLinker$Routine", "slot", "I", false)
def tyX6 : Nat → FieldType := fun k => match k with
  | 0 => .object "ObjectLinker$Unit"
  | 1 => .int
  | 2 => .int
  | 3 => .int
  | 4 => .int
  | 5 => .array .int
  | 6 => .array .int
  | 7 => .array .int
  | 8 => .array .int
  | 9 => .array .int
  | 10 => .int
  | 11 => .int
  | _ => .int
abbrev wsX60 : List Cond := u_ws RX6 TX6 13
theorem nmX6 : ∀ a, a < 13 → ∀ b, b < 13 → a ≠ b → (TX6 a).2.1 ≠ (TX6 b).2.1 := by decide +kernel
theorem tyX6_ok : ∀ k, k < 13 → parseFieldDescriptor (TX6 k).2.2.1 = some (tyX6 k) := by decide +kernel
abbrev cX6_init : ByteArray := prog_8_method_1_code
def yX6_init : MethodName := ⟨RX6, "<init>", "(LObjectLinker$Unit;IIII)V"⟩
abbrev cX6_append : ByteArray := prog_8_method_2_code
def yX6_append : MethodName := ⟨RX6, "append", "(II)V"⟩
abbrev cX6_signature : ByteArray := prog_8_method_3_code
def yX6_signature : MethodName := ⟨RX6, "signature", "()I"⟩
abbrev cX6_targetOf : ByteArray := prog_8_method_4_code
def yX6_targetOf : MethodName := ⟨RX6, "targetOf", "(I)LObjectLinker$Routine;"⟩
abbrev cX6_addressOf : ByteArray := prog_8_method_5_code
def yX6_addressOf : MethodName := ⟨RX6, "addressOf", "(I)I"⟩
abbrev cX6_slotOf : ByteArray := prog_8_method_6_code
def yX6_slotOf : MethodName := ⟨RX6, "slotOf", "(I)I"⟩
abbrev cX6_numberFits : ByteArray := prog_8_method_7_code
def yX6_numberFits : MethodName := ⟨RX6, "numberFits", "(I)Z"⟩
abbrev cX6_namesKind : ByteArray := prog_8_method_8_code
def yX6_namesKind : MethodName := ⟨RX6, "namesKind", "(II)Z"⟩
abbrev cX6_callFits : ByteArray := prog_8_method_9_code
def yX6_callFits : MethodName := ⟨RX6, "callFits", "(I)Z"⟩
def RX7 : String := "ObjectLinker$Segment"
def TX7 : u_T := fun k => match k with
  | 0 => ("ObjectLinker$Segment", "bytes", "[B", true)
  | 1 => ("ObjectLinker$Segment", "alignment", "I", true)
  | _ => ("ObjectLinker$Segment", "address", "I", false)
def tyX7 : Nat → FieldType := fun k => match k with
  | 0 => .array .byte
  | 1 => .int
  | _ => .int
abbrev wsX70 : List Cond := u_ws RX7 TX7 3
theorem nmX7 : ∀ a, a < 3 → ∀ b, b < 3 → a ≠ b → (TX7 a).2.1 ≠ (TX7 b).2.1 := by decide +kernel
theorem tyX7_ok : ∀ k, k < 3 → parseFieldDescriptor (TX7 k).2.2.1 = some (tyX7 k) := by decide +kernel
abbrev cX7_init : ByteArray := prog_9_method_1_code
def yX7_init : MethodName := ⟨RX7, "<init>", "(II)V"⟩
def RX8 : String := "ObjectLinker$Symbol"
def TX8 : u_T := fun k => match k with
  | 0 => ("ObjectLinker$Symbol", "home", "I", true)
  | 1 => ("ObjectLinker$Symbol", "name", "I", true)
  | 2 => ("ObjectLinker$Symbol", "kind", "I", true)
  | 3 => ("ObjectLinker$Symbol", "binding", "I", true)
  | 4 => ("ObjectLinker$Symbol", "routine", "LObjectLinker$Routine;", true)
  | 5 => ("ObjectLinker$Symbol", "segment", "LObjectLinker$Segment;", true)
  | 6 => ("ObjectLinker$Symbol", "offset", "I", true)
  | _ => ("ObjectLinker$Symbol", "source", "LObjectLinker$Symbol;", false)
def tyX8 : Nat → FieldType := fun k => match k with
  | 0 => .int
  | 1 => .int
  | 2 => .int
  | 3 => .int
  | 4 => .object "ObjectLinker$Routine"
  | 5 => .object "ObjectLinker$Segment"
  | 6 => .int
  | _ => .object "ObjectLinker$Symbol"
abbrev wsX80 : List Cond := u_ws RX8 TX8 8
theorem nmX8 : ∀ a, a < 8 → ∀ b, b < 8 → a ≠ b → (TX8 a).2.1 ≠ (TX8 b).2.1 := by decide +kernel
theorem tyX8_ok : ∀ k, k < 8 → parseFieldDescriptor (TX8 k).2.2.1 = some (tyX8 k) := by decide +kernel
abbrev cX8_init : ByteArray := prog_10_method_1_code
def yX8_init : MethodName := ⟨RX8, "<init>", "(IIIILObjectLinker$Routine;LObjectLinker$Segment;I)V"⟩
abbrev cX8_defines : ByteArray := prog_10_method_2_code
def yX8_defines : MethodName := ⟨RX8, "defines", "()Z"⟩
abbrev cX8_signature : ByteArray := prog_10_method_3_code
def yX8_signature : MethodName := ⟨RX8, "signature", "()I"⟩
abbrev cX8_target : ByteArray := prog_10_method_4_code
def yX8_target : MethodName := ⟨RX8, "target", "()LObjectLinker$Routine;"⟩
abbrev cX8_address : ByteArray := prog_10_method_5_code
def yX8_address : MethodName := ⟨RX8, "address", "()I"⟩
abbrev cX8_slot : ByteArray := prog_10_method_6_code
def yX8_slot : MethodName := ⟨RX8, "slot", "()I"⟩
def RX9 : String := "ObjectLinker$Unit"
def TX9 : u_T := fun k => match k with
  | 0 => ("ObjectLinker$Unit", "routines", "Ljava/util/List;", true)
  | 1 => ("ObjectLinker$Unit", "segments", "Ljava/util/List;", true)
  | _ => ("ObjectLinker$Unit", "symbols", "Ljava/util/List;", true)
def tyX9 : Nat → FieldType := fun k => match k with
  | 0 => .object "java/util/List"
  | 1 => .object "java/util/List"
  | _ => .object "java/util/List"
abbrev wsX90 : List Cond := u_ws RX9 TX9 3
theorem nmX9 : ∀ a, a < 3 → ∀ b, b < 3 → a ≠ b → (TX9 a).2.1 ≠ (TX9 b).2.1 := by decide +kernel
theorem tyX9_ok : ∀ k, k < 3 → parseFieldDescriptor (TX9 k).2.2.1 = some (tyX9 k) := by decide +kernel
abbrev cX9_init : ByteArray := prog_11_method_1_code
def yX9_init : MethodName := ⟨RX9, "<init>", "()V"⟩
abbrev cX9_routineAt : ByteArray := prog_11_method_2_code
def yX9_routineAt : MethodName := ⟨RX9, "routineAt", "(I)LObjectLinker$Routine;"⟩
abbrev cX9_segmentAt : ByteArray := prog_11_method_3_code
def yX9_segmentAt : MethodName := ⟨RX9, "segmentAt", "(I)LObjectLinker$Segment;"⟩
abbrev cX9_symbolAt : ByteArray := prog_11_method_4_code
def yX9_symbolAt : MethodName := ⟨RX9, "symbolAt", "(I)LObjectLinker$Symbol;"⟩
def RX10 : String := "ObjectLinker$Word"
def TX10 : u_T := fun k => match k with
  | _ => ("", "", "", false)
def tyX10 : Nat → FieldType := fun k => match k with
  | _ => .int
abbrev wsX100 : List Cond := u_ws RX10 TX10 0
theorem nmX10 : ∀ a, a < 0 → ∀ b, b < 0 → a ≠ b → (TX10 a).2.1 ≠ (TX10 b).2.1 := by decide +kernel
theorem tyX10_ok : ∀ k, k < 0 → parseFieldDescriptor (TX10 k).2.2.1 = some (tyX10 k) := by decide +kernel
abbrev cX10_reckon : ByteArray := prog_12_method_2_code
def yX10_reckon : MethodName := ⟨RX10, "reckon", "(IJJ)J"⟩
def RX11 : String := "ObjectLinker"
def TX11 : u_T := fun k => match k with
  | 0 => ("ObjectLinker", "units", "Ljava/util/List;", true)
  | 1 => ("ObjectLinker", "names", "LObjectLinker$Names;", true)
  | 2 => ("ObjectLinker", "check", "LObjectLinker$CodeCheck;", true)
  | 3 => ("ObjectLinker", "image", "LObjectLinker$Image;", true)
  | 4 => ("ObjectLinker", "writer", "LObjectLinker$ModuleWriter;", true)
  | 5 => ("ObjectLinker", "machine", "LObjectLinker$Machine;", true)
  | 6 => ("ObjectLinker", "linked", "Z", false)
  | _ => ("ObjectLinker", "faultPlace", "I", false)
def tyX11 : Nat → FieldType := fun k => match k with
  | 0 => .object "java/util/List"
  | 1 => .object "ObjectLinker$Names"
  | 2 => .object "ObjectLinker$CodeCheck"
  | 3 => .object "ObjectLinker$Image"
  | 4 => .object "ObjectLinker$ModuleWriter"
  | 5 => .object "ObjectLinker$Machine"
  | 6 => .boolean
  | _ => .int
abbrev wsX110 : List Cond := u_ws RX11 TX11 8
theorem nmX11 : ∀ a, a < 8 → ∀ b, b < 8 → a ≠ b → (TX11 a).2.1 ≠ (TX11 b).2.1 := by decide +kernel
theorem tyX11_ok : ∀ k, k < 8 → parseFieldDescriptor (TX11 k).2.2.1 = some (tyX11 k) := by decide +kernel
abbrev cX11_init : ByteArray := prog_1_method_1_code
def yX11_init : MethodName := ⟨RX11, "<init>", "()V"⟩
abbrev cX11_object : ByteArray := prog_1_method_2_code
def yX11_object : MethodName := ⟨RX11, "object", "()I"⟩
abbrev cX11_function : ByteArray := prog_1_method_3_code
def yX11_function : MethodName := ⟨RX11, "function", "(IIII)I"⟩
abbrev cX11_code : ByteArray := prog_1_method_4_code
def yX11_code : MethodName := ⟨RX11, "code", "(IIII)I"⟩
abbrev cX11_segment : ByteArray := prog_1_method_5_code
def yX11_segment : MethodName := ⟨RX11, "segment", "(III)I"⟩
abbrev cX11_fill : ByteArray := prog_1_method_6_code
def yX11_fill : MethodName := ⟨RX11, "fill", "(IIIJ)V"⟩
abbrev cX11_symbol : ByteArray := prog_1_method_7_code
def yX11_symbol : MethodName := ⟨RX11, "symbol", "(IIIIII)I"⟩
abbrev cX11_link : ByteArray := prog_1_method_8_code
def yX11_link : MethodName := ⟨RX11, "link", "()I"⟩
abbrev cX11_place : ByteArray := prog_1_method_9_code
def yX11_place : MethodName := ⟨RX11, "place", "()I"⟩
abbrev cX11_count : ByteArray := prog_1_method_10_code
def yX11_count : MethodName := ⟨RX11, "count", "(I)I"⟩
abbrev cX11_byteAt : ByteArray := prog_1_method_11_code
def yX11_byteAt : MethodName := ⟨RX11, "byteAt", "(I)I"⟩
abbrev cX11_meant : ByteArray := prog_1_method_12_code
def yX11_meant : MethodName := ⟨RX11, "meant", "(III)I"⟩
abbrev cX11_run : ByteArray := prog_1_method_13_code
def yX11_run : MethodName := ⟨RX11, "run", "(IIJJI)I"⟩
abbrev cX11_told : ByteArray := prog_1_method_14_code
def yX11_told : MethodName := ⟨RX11, "told", "(I)J"⟩
abbrev cX11_memory : ByteArray := prog_1_method_15_code
def yX11_memory : MethodName := ⟨RX11, "memory", "(I)I"⟩
abbrev cX11_placeOf : ByteArray := prog_1_method_16_code
def yX11_placeOf : MethodName := ⟨RX11, "placeOf", "(I)I"⟩
abbrev cX11_unitAt : ByteArray := prog_1_method_17_code
def yX11_unitAt : MethodName := ⟨RX11, "unitAt", "(I)LObjectLinker$Unit;"⟩
abbrev cX11_routineAt : ByteArray := prog_1_method_18_code
def yX11_routineAt : MethodName := ⟨RX11, "routineAt", "(II)LObjectLinker$Routine;"⟩
abbrev cX11_largestOffset : ByteArray := prog_1_method_19_code
def yX11_largestOffset : MethodName := ⟨RX11, "largestOffset", "(ILObjectLinker$Routine;LObjectLinker$Segment;)I"⟩
abbrev cX11_putBytes : ByteArray := prog_1_method_20_code
def yX11_putBytes : MethodName := ⟨RX11, "putBytes", "([BIIJ)V"⟩
abbrev cX11_requireWithin : ByteArray := prog_1_method_21_code
def yX11_requireWithin : MethodName := ⟨RX11, "requireWithin", "(II)V"⟩
abbrev cX11_require : ByteArray := prog_1_method_22_code
def yX11_require : MethodName := ⟨RX11, "require", "(Z)V"⟩
abbrev cX11_requireRoom : ByteArray := prog_1_method_23_code
def yX11_requireRoom : MethodName := ⟨RX11, "requireRoom", "(II)V"⟩
abbrev cX11_requireState : ByteArray := prog_1_method_24_code
def yX11_requireState : MethodName := ⟨RX11, "requireState", "(Z)V"⟩
def RX12 : String := "ObjectLinkerModel"
def TX12 : u_T := fun k => match k with
  | 0 => ("ObjectLinkerModel", "code", "I", false)
  | 1 => ("ObjectLinkerModel", "objects", "I", false)
  | 2 => ("ObjectLinkerModel", "functions", "[I", true)
  | 3 => ("ObjectLinkerModel", "segments", "[I", true)
  | 4 => ("ObjectLinkerModel", "symbols", "[I", true)
  | 5 => ("ObjectLinkerModel", "parameters", "[I", true)
  | 6 => ("ObjectLinkerModel", "results", "[I", true)
  | 7 => ("ObjectLinkerModel", "locals", "[I", true)
  | 8 => ("ObjectLinkerModel", "words", "[I", true)
  | 9 => ("ObjectLinkerModel", "word", "[I", true)
  | 10 => ("ObjectLinkerModel", "number", "[I", true)
  | 11 => ("ObjectLinkerModel", "size", "[I", true)
  | 12 => ("ObjectLinkerModel", "power", "[I", true)
  | 13 => ("ObjectLinkerModel", "bytes", "[B", true)
  | 14 => ("ObjectLinkerModel", "name", "[I", true)
  | 15 => ("ObjectLinkerModel", "kind", "[I", true)
  | 16 => ("ObjectLinkerModel", "binding", "[I", true)
  | 17 => ("ObjectLinkerModel", "defines", "[I", true)
  | 18 => ("ObjectLinkerModel", "offset", "[I", true)
  | 19 => ("ObjectLinkerModel", "linked", "Z", false)
  | 20 => ("ObjectLinkerModel", "place", "I", false)
  | 21 => ("ObjectLinkerModel", "fault", "I", false)
  | 22 => ("ObjectLinkerModel", "module", "[B", true)
  | 23 => ("ObjectLinkerModel", "moduleSize", "I", false)
  | 24 => ("ObjectLinkerModel", "slot", "[I", true)
  | 25 => ("ObjectLinkerModel", "slots", "I", false)
  | 26 => ("ObjectLinkerModel", "type", "[I", true)
  | 27 => ("ObjectLinkerModel", "types", "I", false)
  | 28 => ("ObjectLinkerModel", "memory", "[B", true)
  | 29 => ("ObjectLinkerModel", "returned", "J", false)
  | 30 => ("ObjectLinkerModel", "steps", "I", false)
  | 31 => ("ObjectLinkerModel", "deepest", "I", false)
  | 32 => ("ObjectLinkerModel", "blocks", "I", false)
  | 33 => ("ObjectLinkerModel", "blockWord", "[I", true)
  | 34 => ("ObjectLinkerModel", "blockLeaves", "[I", true)
  | 35 => ("ObjectLinkerModel", "blockBelow", "[I", true)
  | 36 => ("ObjectLinkerModel", "blockDead", "[Z", true)
  | 37 => ("ObjectLinkerModel", "blockElse", "[Z", true)
  | 38 => ("ObjectLinkerModel", "height", "I", false)
  | 39 => ("ObjectLinkerModel", "frames", "I", false)
  | 40 => ("ObjectLinkerModel", "frameFunction", "[I", true)
  | 41 => ("ObjectLinkerModel", "frameAt", "[I", true)
  | 42 => ("ObjectLinkerModel", "frameBase", "[I", true)
  | 43 => ("ObjectLinkerModel", "frameBlocks", "[I", true)
  | 44 => ("ObjectLinkerModel", "local", "[J", true)
  | 45 => ("ObjectLinkerModel", "values", "[J", true)
  | 46 => ("ObjectLinkerModel", "top", "I", false)
  | 47 => ("ObjectLinkerModel", "runWord", "[I", true)
  | 48 => ("ObjectLinkerModel", "runBelow", "[I", true)
  | _ => ("ObjectLinkerModel", "runBlocks", "I", false)
def tyX12 : Nat → FieldType := fun k => match k with
  | 0 => .int
  | 1 => .int
  | 2 => .array .int
  | 3 => .array .int
  | 4 => .array .int
  | 5 => .array .int
  | 6 => .array .int
  | 7 => .array .int
  | 8 => .array .int
  | 9 => .array .int
  | 10 => .array .int
  | 11 => .array .int
  | 12 => .array .int
  | 13 => .array .byte
  | 14 => .array .int
  | 15 => .array .int
  | 16 => .array .int
  | 17 => .array .int
  | 18 => .array .int
  | 19 => .boolean
  | 20 => .int
  | 21 => .int
  | 22 => .array .byte
  | 23 => .int
  | 24 => .array .int
  | 25 => .int
  | 26 => .array .int
  | 27 => .int
  | 28 => .array .byte
  | 29 => .long
  | 30 => .int
  | 31 => .int
  | 32 => .int
  | 33 => .array .int
  | 34 => .array .int
  | 35 => .array .int
  | 36 => .array .boolean
  | 37 => .array .boolean
  | 38 => .int
  | 39 => .int
  | 40 => .array .int
  | 41 => .array .int
  | 42 => .array .int
  | 43 => .array .int
  | 44 => .array .long
  | 45 => .array .long
  | 46 => .int
  | 47 => .array .int
  | 48 => .array .int
  | _ => .int
abbrev wsX120 : List Cond := u_ws RX12 TX12 50
theorem nmX12 : ∀ a, a < 50 → ∀ b, b < 50 → a ≠ b → (TX12 a).2.1 ≠ (TX12 b).2.1 := by decide +kernel
theorem tyX12_ok : ∀ k, k < 50 → parseFieldDescriptor (TX12 k).2.2.1 = some (tyX12 k) := by decide +kernel
abbrev cX12_init : ByteArray := prog_14_method_1_code
def yX12_init : MethodName := ⟨RX12, "<init>", "()V"⟩
abbrev cX12_thrown : ByteArray := prog_14_method_2_code
def yX12_thrown : MethodName := ⟨RX12, "thrown", "()I"⟩
abbrev cX12_isIn : ByteArray := prog_14_method_3_code
def yX12_isIn : MethodName := ⟨RX12, "isIn", "(III)Z"⟩
abbrev cX12_isObject : ByteArray := prog_14_method_4_code
def yX12_isObject : MethodName := ⟨RX12, "isObject", "(I)Z"⟩
abbrev cX12_isFunction : ByteArray := prog_14_method_5_code
def yX12_isFunction : MethodName := ⟨RX12, "isFunction", "(II)Z"⟩
abbrev cX12_isSegment : ByteArray := prog_14_method_6_code
def yX12_isSegment : MethodName := ⟨RX12, "isSegment", "(II)Z"⟩
abbrev cX12_object : ByteArray := prog_14_method_7_code
def yX12_object : MethodName := ⟨RX12, "object", "()I"⟩
abbrev cX12_function : ByteArray := prog_14_method_8_code
def yX12_function : MethodName := ⟨RX12, "function", "(IIII)I"⟩
abbrev cX12_code : ByteArray := prog_14_method_9_code
def yX12_code : MethodName := ⟨RX12, "code", "(IIII)I"⟩
abbrev cX12_segment : ByteArray := prog_14_method_10_code
def yX12_segment : MethodName := ⟨RX12, "segment", "(III)I"⟩
abbrev cX12_fill : ByteArray := prog_14_method_11_code
def yX12_fill : MethodName := ⟨RX12, "fill", "(IIIJ)V"⟩
abbrev cX12_symbol : ByteArray := prog_14_method_12_code
def yX12_symbol : MethodName := ⟨RX12, "symbol", "(IIIIII)I"⟩
abbrev cX12_meaning : ByteArray := prog_14_method_13_code
def yX12_meaning : MethodName := ⟨RX12, "meaning", "(I)I"⟩
abbrev cX12_functionOf : ByteArray := prog_14_method_14_code
def yX12_functionOf : MethodName := ⟨RX12, "functionOf", "(I)I"⟩
abbrev cX12_addressOf : ByteArray := prog_14_method_15_code
def yX12_addressOf : MethodName := ⟨RX12, "addressOf", "(I)I"⟩
abbrev cX12_raised : ByteArray := prog_14_method_16_code
def yX12_raised : MethodName := ⟨RX12, "raised", "(II)I"⟩
abbrev cX12_addressOfSegment : ByteArray := prog_14_method_17_code
def yX12_addressOfSegment : MethodName := ⟨RX12, "addressOfSegment", "(I)I"⟩
abbrev cX12_end : ByteArray := prog_14_method_18_code
def yX12_end : MethodName := ⟨RX12, "end", "()I"⟩
abbrev cX12_signature : ByteArray := prog_14_method_19_code
def yX12_signature : MethodName := ⟨RX12, "signature", "(I)I"⟩
abbrev cX12_shape : ByteArray := prog_14_method_20_code
def yX12_shape : MethodName := ⟨RX12, "shape", "(I)I"⟩
abbrev cX12_numberOf : ByteArray := prog_14_method_21_code
def yX12_numberOf : MethodName := ⟨RX12, "numberOf", "(I)I"⟩
abbrev cX12_isThere : ByteArray := prog_14_method_22_code
def yX12_isThere : MethodName := ⟨RX12, "isThere", "(I)Z"⟩
abbrev cX12_isWordGood : ByteArray := prog_14_method_23_code
def yX12_isWordGood : MethodName := ⟨RX12, "isWordGood", "(III)Z"⟩
abbrev cX12_open : ByteArray := prog_14_method_24_code
def yX12_open : MethodName := ⟨RX12, "open", "(II)V"⟩
abbrev cX12_pops : ByteArray := prog_14_method_25_code
def yX12_pops : MethodName := ⟨RX12, "pops", "(I)Z"⟩
abbrev cX12_closes : ByteArray := prog_14_method_26_code
def yX12_closes : MethodName := ⟨RX12, "closes", "()Z"⟩
abbrev cX12_dies : ByteArray := prog_14_method_27_code
def yX12_dies : MethodName := ⟨RX12, "dies", "()V"⟩
abbrev cX12_popped : ByteArray := prog_14_method_28_code
def yX12_popped : MethodName := ⟨RX12, "popped", "(III)I"⟩
abbrev cX12_pushed : ByteArray := prog_14_method_29_code
def yX12_pushed : MethodName := ⟨RX12, "pushed", "(III)I"⟩
abbrev cX12_wrongPlace : ByteArray := prog_14_method_30_code
def yX12_wrongPlace : MethodName := ⟨RX12, "wrongPlace", "(I)I"⟩
abbrev cX12_isStrongDouble : ByteArray := prog_14_method_31_code
def yX12_isStrongDouble : MethodName := ⟨RX12, "isStrongDouble", "(I)Z"⟩
abbrev cX12_isMissing : ByteArray := prog_14_method_32_code
def yX12_isMissing : MethodName := ⟨RX12, "isMissing", "(I)Z"⟩
abbrev cX12_isOtherKind : ByteArray := prog_14_method_33_code
def yX12_isOtherKind : MethodName := ⟨RX12, "isOtherKind", "(I)Z"⟩
abbrev cX12_isWrongCall : ByteArray := prog_14_method_34_code
def yX12_isWrongCall : MethodName := ⟨RX12, "isWrongCall", "(III)Z"⟩
abbrev cX12_fails : ByteArray := prog_14_method_35_code
def yX12_fails : MethodName := ⟨RX12, "fails", "(II)Z"⟩
abbrev cX12_failsInWords : ByteArray := prog_14_method_36_code
def yX12_failsInWords : MethodName := ⟨RX12, "failsInWords", "(I)Z"⟩
abbrev cX12_failsInSymbols : ByteArray := prog_14_method_37_code
def yX12_failsInSymbols : MethodName := ⟨RX12, "failsInSymbols", "(I)Z"⟩
abbrev cX12_link : ByteArray := prog_14_method_38_code
def yX12_link : MethodName := ⟨RX12, "link", "()I"⟩
abbrev cX12_place : ByteArray := prog_14_method_39_code
def yX12_place : MethodName := ⟨RX12, "place", "()I"⟩
abbrev cX12_put : ByteArray := prog_14_method_40_code
def yX12_put : MethodName := ⟨RX12, "put", "(I)V"⟩
abbrev cX12_unsigned : ByteArray := prog_14_method_41_code
def yX12_unsigned : MethodName := ⟨RX12, "unsigned", "(I)V"⟩
abbrev cX12_signed : ByteArray := prog_14_method_42_code
def yX12_signed : MethodName := ⟨RX12, "signed", "(I)V"⟩
abbrev cX12_wide : ByteArray := prog_14_method_43_code
def yX12_wide : MethodName := ⟨RX12, "wide", "(I)V"⟩
abbrev cX12_sized : ByteArray := prog_14_method_44_code
def yX12_sized : MethodName := ⟨RX12, "sized", "(I)V"⟩
abbrev cX12_begin : ByteArray := prog_14_method_45_code
def yX12_begin : MethodName := ⟨RX12, "begin", "(I)I"⟩
abbrev cX12_typeOf : ByteArray := prog_14_method_46_code
def yX12_typeOf : MethodName := ⟨RX12, "typeOf", "(I)I"⟩
abbrev cX12_slotOf : ByteArray := prog_14_method_47_code
def yX12_slotOf : MethodName := ⟨RX12, "slotOf", "(I)I"⟩
abbrev cX12_findSlotsAndTypes : ByteArray := prog_14_method_48_code
def yX12_findSlotsAndTypes : MethodName := ⟨RX12, "findSlotsAndTypes", "()V"⟩
abbrev cX12_functionCount : ByteArray := prog_14_method_49_code
def yX12_functionCount : MethodName := ⟨RX12, "functionCount", "()I"⟩
abbrev cX12_segmentCount : ByteArray := prog_14_method_50_code
def yX12_segmentCount : MethodName := ⟨RX12, "segmentCount", "()I"⟩
abbrev cX12_write : ByteArray := prog_14_method_51_code
def yX12_write : MethodName := ⟨RX12, "write", "()V"⟩
abbrev cX12_writeSegment : ByteArray := prog_14_method_52_code
def yX12_writeSegment : MethodName := ⟨RX12, "writeSegment", "(I)V"⟩
abbrev cX12_writeFunction : ByteArray := prog_14_method_53_code
def yX12_writeFunction : MethodName := ⟨RX12, "writeFunction", "(I)V"⟩
abbrev cX12_two : ByteArray := prog_14_method_54_code
def yX12_two : MethodName := ⟨RX12, "two", "(II)V"⟩
abbrev cX12_writeWord : ByteArray := prog_14_method_55_code
def yX12_writeWord : MethodName := ⟨RX12, "writeWord", "(III)V"⟩
abbrev cX12_count : ByteArray := prog_14_method_56_code
def yX12_count : MethodName := ⟨RX12, "count", "(I)I"⟩
abbrev cX12_byteAt : ByteArray := prog_14_method_57_code
def yX12_byteAt : MethodName := ⟨RX12, "byteAt", "(I)I"⟩
abbrev cX12_meant : ByteArray := prog_14_method_58_code
def yX12_meant : MethodName := ⟨RX12, "meant", "(III)I"⟩
abbrev cX12_behind : ByteArray := prog_14_method_59_code
def yX12_behind : MethodName := ⟨RX12, "behind", "(IIZ)I"⟩
abbrev cX12_pop : ByteArray := prog_14_method_60_code
def yX12_pop : MethodName := ⟨RX12, "pop", "()J"⟩
abbrev cX12_push : ByteArray := prog_14_method_61_code
def yX12_push : MethodName := ⟨RX12, "push", "(J)V"⟩
abbrev cX12_openBlock : ByteArray := prog_14_method_62_code
def yX12_openBlock : MethodName := ⟨RX12, "openBlock", "(I)V"⟩
abbrev cX12_keep : ByteArray := prog_14_method_63_code
def yX12_keep : MethodName := ⟨RX12, "keep", "(II)V"⟩
abbrev cX12_enter : ByteArray := prog_14_method_64_code
def yX12_enter : MethodName := ⟨RX12, "enter", "(I)V"⟩
abbrev cX12_leave : ByteArray := prog_14_method_65_code
def yX12_leave : MethodName := ⟨RX12, "leave", "()V"⟩
abbrev cX12_called : ByteArray := prog_14_method_66_code
def yX12_called : MethodName := ⟨RX12, "called", "(I)I"⟩
abbrev cX12_isOut : ByteArray := prog_14_method_67_code
def yX12_isOut : MethodName := ⟨RX12, "isOut", "(JII)Z"⟩
abbrev cX12_load : ByteArray := prog_14_method_68_code
def yX12_load : MethodName := ⟨RX12, "load", "(II)J"⟩
abbrev cX12_branch : ByteArray := prog_14_method_69_code
def yX12_branch : MethodName := ⟨RX12, "branch", "(II)V"⟩
abbrev cX12_worked : ByteArray := prog_14_method_70_code
def yX12_worked : MethodName := ⟨RX12, "worked", "(IJJ)J"⟩
abbrev cX12_isBadQuotient : ByteArray := prog_14_method_71_code
def yX12_isBadQuotient : MethodName := ⟨RX12, "isBadQuotient", "(IJJ)Z"⟩
abbrev cX12_step : ByteArray := prog_14_method_72_code
def yX12_step : MethodName := ⟨RX12, "step", "(I)I"⟩
abbrev cX12_run : ByteArray := prog_14_method_73_code
def yX12_run : MethodName := ⟨RX12, "run", "(IIJJI)I"⟩
abbrev cX12_told : ByteArray := prog_14_method_74_code
def yX12_told : MethodName := ⟨RX12, "told", "(I)J"⟩
abbrev cX12_memory : ByteArray := prog_14_method_75_code
def yX12_memory : MethodName := ⟨RX12, "memory", "(I)I"⟩
def RJx145de : String := "java/io/Serializable"
def TJx145de : u_T := fun k => match k with
  | _ => ("", "", "", false)
def tyJx145de : Nat → FieldType := fun k => match k with
  | _ => .int
abbrev wsJx145de0 : List Cond := u_ws RJx145de TJx145de 0
theorem nmJx145de : ∀ a, a < 0 → ∀ b, b < 0 → a ≠ b → (TJx145de a).2.1 ≠ (TJx145de b).2.1 := by decide +kernel
theorem tyJx145de_ok : ∀ k, k < 0 → parseFieldDescriptor (TJx145de k).2.2.1 = some (tyJx145de k) := by decide +kernel
def RJx8e188 : String := "java/lang/Cloneable"
def TJx8e188 : u_T := fun k => match k with
  | _ => ("", "", "", false)
def tyJx8e188 : Nat → FieldType := fun k => match k with
  | _ => .int
abbrev wsJx8e1880 : List Cond := u_ws RJx8e188 TJx8e188 0
theorem nmJx8e188 : ∀ a, a < 0 → ∀ b, b < 0 → a ≠ b → (TJx8e188 a).2.1 ≠ (TJx8e188 b).2.1 := by decide +kernel
theorem tyJx8e188_ok : ∀ k, k < 0 → parseFieldDescriptor (TJx8e188 k).2.2.1 = some (tyJx8e188 k) := by decide +kernel
def RJxab1ab : String := "java/lang/Iterable"
def TJxab1ab : u_T := fun k => match k with
  | _ => ("", "", "", false)
def tyJxab1ab : Nat → FieldType := fun k => match k with
  | _ => .int
abbrev wsJxab1ab0 : List Cond := u_ws RJxab1ab TJxab1ab 0
theorem nmJxab1ab : ∀ a, a < 0 → ∀ b, b < 0 → a ≠ b → (TJxab1ab a).2.1 ≠ (TJxab1ab b).2.1 := by decide +kernel
theorem tyJxab1ab_ok : ∀ k, k < 0 → parseFieldDescriptor (TJxab1ab k).2.2.1 = some (tyJxab1ab k) := by decide +kernel
def RJ13 : String := "java/lang/Long"
def TJ13 : u_T := fun k => match k with
  | _ => ("", "", "", false)
def tyJ13 : Nat → FieldType := fun k => match k with
  | _ => .int
abbrev wsJ130 : List Cond := u_ws RJ13 TJ13 0
theorem nmJ13 : ∀ a, a < 0 → ∀ b, b < 0 → a ≠ b → (TJ13 a).2.1 ≠ (TJ13 b).2.1 := by decide +kernel
theorem tyJ13_ok : ∀ k, k < 0 → parseFieldDescriptor (TJ13 k).2.2.1 = some (tyJ13 k) := by decide +kernel
abbrev cJ13_compare_74951 : ByteArray := prog_21_method_42_code
def yJ13_compare_74951 : MethodName := ⟨RJ13, "compare", "(JJ)I"⟩
abbrev cJ13_compareUnsigned_74951 : ByteArray := prog_21_method_43_code
def yJ13_compareUnsigned_74951 : MethodName := ⟨RJ13, "compareUnsigned", "(JJ)I"⟩
def RJ9 : String := "java/lang/Math"
def TJ9 : u_T := fun k => match k with
  | _ => ("", "", "", false)
def tyJ9 : Nat → FieldType := fun k => match k with
  | _ => .int
abbrev wsJ90 : List Cond := u_ws RJ9 TJ9 0
theorem nmJ9 : ∀ a, a < 0 → ∀ b, b < 0 → a ≠ b → (TJ9 a).2.1 ≠ (TJ9 b).2.1 := by decide +kernel
theorem tyJ9_ok : ∀ k, k < 0 → parseFieldDescriptor (TJ9 k).2.2.1 = some (tyJ9 k) := by decide +kernel
abbrev cJ9_max_7cf53 : ByteArray := prog_22_method_65_code
def yJ9_max_7cf53 : MethodName := ⟨RJ9, "max", "(II)I"⟩
abbrev cJ9_min_7cf53 : ByteArray := prog_22_method_69_code
def yJ9_min_7cf53 : MethodName := ⟨RJ9, "min", "(II)I"⟩
def RJ0 : String := "java/lang/String"
def TJ0 : u_T := fun k => match k with
  | _ => ("", "", "", false)
def tyJ0 : Nat → FieldType := fun k => match k with
  | _ => .int
abbrev wsJ00 : List Cond := u_ws RJ0 TJ0 0
theorem nmJ0 : ∀ a, a < 0 → ∀ b, b < 0 → a ≠ b → (TJ0 a).2.1 ≠ (TJ0 b).2.1 := by decide +kernel
theorem tyJ0_ok : ∀ k, k < 0 → parseFieldDescriptor (TJ0 k).2.2.1 = some (tyJ0 k) := by decide +kernel
def RJ10 : String := "java/lang/System"
def TJ10 : u_T := fun k => match k with
  | _ => ("", "", "", false)
def tyJ10 : Nat → FieldType := fun k => match k with
  | _ => .int
abbrev wsJ100 : List Cond := u_ws RJ10 TJ10 0
theorem nmJ10 : ∀ a, a < 0 → ∀ b, b < 0 → a ≠ b → (TJ10 a).2.1 ≠ (TJ10 b).2.1 := by decide +kernel
theorem tyJ10_ok : ∀ k, k < 0 → parseFieldDescriptor (TJ10 k).2.2.1 = some (tyJ10 k) := by decide +kernel
def RJxa1e45 : String := "java/util/AbstractCollection"
def TJxa1e45 : u_T := fun k => match k with
  | _ => ("", "", "", false)
def tyJxa1e45 : Nat → FieldType := fun k => match k with
  | _ => .int
abbrev wsJxa1e450 : List Cond := u_ws RJxa1e45 TJxa1e45 0
theorem nmJxa1e45 : ∀ a, a < 0 → ∀ b, b < 0 → a ≠ b → (TJxa1e45 a).2.1 ≠ (TJxa1e45 b).2.1 := by decide +kernel
theorem tyJxa1e45_ok : ∀ k, k < 0 → parseFieldDescriptor (TJxa1e45 k).2.2.1 = some (tyJxa1e45 k) := by decide +kernel
abbrev cJxa1e45_init_da8c8 : ByteArray := prog_27_method_1_code
def yJxa1e45_init_da8c8 : MethodName := ⟨RJxa1e45, "<init>", "()V"⟩
def RJxc12de : String := "java/util/AbstractList"
def TJxc12de : u_T := fun k => match k with
  | _ => ("", "", "", false)
def tyJxc12de : Nat → FieldType := fun k => match k with
  | _ => .int
abbrev wsJxc12de0 : List Cond := u_ws RJxc12de TJxc12de 0
theorem nmJxc12de : ∀ a, a < 0 → ∀ b, b < 0 → a ≠ b → (TJxc12de a).2.1 ≠ (TJxc12de b).2.1 := by decide +kernel
theorem tyJxc12de_ok : ∀ k, k < 0 → parseFieldDescriptor (TJxc12de k).2.2.1 = some (tyJxc12de k) := by decide +kernel
abbrev cJxc12de_init_da8c8 : ByteArray := prog_28_method_1_code
def yJxc12de_init_da8c8 : MethodName := ⟨RJxc12de, "<init>", "()V"⟩
def RJx4a65c : String := "java/util/ArrayList"
def TJx4a65c : u_T := fun k => match k with
  | 0 => ("java/util/AbstractList", "modCount", "I", false)
  | 1 => ("java/util/ArrayList", "elementData", "[Ljava/lang/Object;", false)
  | _ => ("java/util/ArrayList", "size", "I", false)
def tyJx4a65c : Nat → FieldType := fun k => match k with
  | 0 => .int
  | 1 => .array (.object "java/lang/Object")
  | _ => .int
abbrev wsJx4a65c0 : List Cond := u_ws RJx4a65c TJx4a65c 3
theorem nmJx4a65c : ∀ a, a < 3 → ∀ b, b < 3 → a ≠ b → (TJx4a65c a).2.1 ≠ (TJx4a65c b).2.1 := by decide +kernel
theorem tyJx4a65c_ok : ∀ k, k < 3 → parseFieldDescriptor (TJx4a65c k).2.2.1 = some (tyJx4a65c k) := by decide +kernel
abbrev cJx4a65c_init_da8c8 : ByteArray := prog_29_method_2_code
def yJx4a65c_init_da8c8 : MethodName := ⟨RJx4a65c, "<init>", "()V"⟩
abbrev cJx4a65c_grow_92f84 : ByteArray := prog_29_method_6_code
def yJx4a65c_grow_92f84 : MethodName := ⟨RJx4a65c, "grow", "(I)[Ljava/lang/Object;"⟩
abbrev cJx4a65c_grow_d5877 : ByteArray := prog_29_method_7_code
def yJx4a65c_grow_d5877 : MethodName := ⟨RJx4a65c, "grow", "()[Ljava/lang/Object;"⟩
abbrev cJx4a65c_size_8abf5 : ByteArray := prog_29_method_8_code
def yJx4a65c_size_8abf5 : MethodName := ⟨RJx4a65c, "size", "()I"⟩
abbrev cJx4a65c_isEmpty_aae02 : ByteArray := prog_29_method_9_code
def yJx4a65c_isEmpty_aae02 : MethodName := ⟨RJx4a65c, "isEmpty", "()Z"⟩
abbrev cJx4a65c_elementData_915e3 : ByteArray := prog_29_method_18_code
def yJx4a65c_elementData_915e3 : MethodName := ⟨RJx4a65c, "elementData", "(I)Ljava/lang/Object;"⟩
abbrev cJx4a65c_get_915e3 : ByteArray := prog_29_method_20_code
def yJx4a65c_get_915e3 : MethodName := ⟨RJx4a65c, "get", "(I)Ljava/lang/Object;"⟩
abbrev cJx4a65c_add_72be8 : ByteArray := prog_29_method_24_code
def yJx4a65c_add_72be8 : MethodName := ⟨RJx4a65c, "add", "(Ljava/lang/Object;[Ljava/lang/Object;I)V"⟩
abbrev cJx4a65c_add_9ea2d : ByteArray := prog_29_method_25_code
def yJx4a65c_add_9ea2d : MethodName := ⟨RJx4a65c, "add", "(Ljava/lang/Object;)Z"⟩
abbrev cJx4a65c_clear_da8c8 : ByteArray := prog_29_method_40_code
def yJx4a65c_clear_da8c8 : MethodName := ⟨RJx4a65c, "clear", "()V"⟩
def RJ7 : String := "java/util/Arrays"
def TJ7 : u_T := fun k => match k with
  | _ => ("", "", "", false)
def tyJ7 : Nat → FieldType := fun k => match k with
  | _ => .int
abbrev wsJ70 : List Cond := u_ws RJ7 TJ7 0
theorem nmJ7 : ∀ a, a < 0 → ∀ b, b < 0 → a ≠ b → (TJ7 a).2.1 ≠ (TJ7 b).2.1 := by decide +kernel
theorem tyJ7_ok : ∀ k, k < 0 → parseFieldDescriptor (TJ7 k).2.2.1 = some (tyJ7 k) := by decide +kernel
abbrev cJ7_fill_53178 : ByteArray := prog_30_method_103_code
def yJ7_fill_53178 : MethodName := ⟨RJ7, "fill", "([II)V"⟩
abbrev cJ7_fill_031fb : ByteArray := prog_30_method_109_code
def yJ7_fill_031fb : MethodName := ⟨RJ7, "fill", "([BB)V"⟩
abbrev cJ7_copyOf_1904c : ByteArray := prog_30_method_119_code
def yJ7_copyOf_1904c : MethodName := ⟨RJ7, "copyOf", "([Ljava/lang/Object;I)[Ljava/lang/Object;"⟩
abbrev cJ7_copyOf_6403c : ByteArray := prog_30_method_120_code
def yJ7_copyOf_6403c : MethodName := ⟨RJ7, "copyOf", "([Ljava/lang/Object;ILjava/lang/Class;)[Ljava/lang/Object;"⟩
abbrev cJ7_copyOf_9075b : ByteArray := prog_30_method_121_code
def yJ7_copyOf_9075b : MethodName := ⟨RJ7, "copyOf", "([BI)[B"⟩
def RJx5ef63 : String := "java/util/Collection"
def TJx5ef63 : u_T := fun k => match k with
  | _ => ("", "", "", false)
def tyJx5ef63 : Nat → FieldType := fun k => match k with
  | _ => .int
abbrev wsJx5ef630 : List Cond := u_ws RJx5ef63 TJx5ef63 0
theorem nmJx5ef63 : ∀ a, a < 0 → ∀ b, b < 0 → a ≠ b → (TJx5ef63 a).2.1 ≠ (TJx5ef63 b).2.1 := by decide +kernel
theorem tyJx5ef63_ok : ∀ k, k < 0 → parseFieldDescriptor (TJx5ef63 k).2.2.1 = some (tyJx5ef63 k) := by decide +kernel
def RJxbd725 : String := "java/util/List"
def TJxbd725 : u_T := fun k => match k with
  | _ => ("", "", "", false)
def tyJxbd725 : Nat → FieldType := fun k => match k with
  | _ => .int
abbrev wsJxbd7250 : List Cond := u_ws RJxbd725 TJxbd725 0
theorem nmJxbd725 : ∀ a, a < 0 → ∀ b, b < 0 → a ≠ b → (TJxbd725 a).2.1 ≠ (TJxbd725 b).2.1 := by decide +kernel
theorem tyJxbd725_ok : ∀ k, k < 0 → parseFieldDescriptor (TJxbd725 k).2.2.1 = some (tyJxbd725 k) := by decide +kernel
def RJ15 : String := "java/util/Objects"
def TJ15 : u_T := fun k => match k with
  | _ => ("", "", "", false)
def tyJ15 : Nat → FieldType := fun k => match k with
  | _ => .int
abbrev wsJ150 : List Cond := u_ws RJ15 TJ15 0
theorem nmJ15 : ∀ a, a < 0 → ∀ b, b < 0 → a ≠ b → (TJ15 a).2.1 ≠ (TJ15 b).2.1 := by decide +kernel
theorem tyJ15_ok : ∀ k, k < 0 → parseFieldDescriptor (TJ15 k).2.2.1 = some (tyJ15 k) := by decide +kernel
abbrev cJ15_checkIndex_7cf53 : ByteArray := prog_33_method_17_code
def yJ15_checkIndex_7cf53 : MethodName := ⟨RJ15, "checkIndex", "(II)I"⟩
def RJxf0a74 : String := "java/util/RandomAccess"
def TJxf0a74 : u_T := fun k => match k with
  | _ => ("", "", "", false)
def tyJxf0a74 : Nat → FieldType := fun k => match k with
  | _ => .int
abbrev wsJxf0a740 : List Cond := u_ws RJxf0a74 TJxf0a74 0
theorem nmJxf0a74 : ∀ a, a < 0 → ∀ b, b < 0 → a ≠ b → (TJxf0a74 a).2.1 ≠ (TJxf0a74 b).2.1 := by decide +kernel
theorem tyJxf0a74_ok : ∀ k, k < 0 → parseFieldDescriptor (TJxf0a74 k).2.2.1 = some (tyJxf0a74 k) := by decide +kernel
def RJxa66e6 : String := "java/util/SequencedCollection"
def TJxa66e6 : u_T := fun k => match k with
  | _ => ("", "", "", false)
def tyJxa66e6 : Nat → FieldType := fun k => match k with
  | _ => .int
abbrev wsJxa66e60 : List Cond := u_ws RJxa66e6 TJxa66e6 0
theorem nmJxa66e6 : ∀ a, a < 0 → ∀ b, b < 0 → a ≠ b → (TJxa66e6 a).2.1 ≠ (TJxa66e6 b).2.1 := by decide +kernel
theorem tyJxa66e6_ok : ∀ k, k < 0 → parseFieldDescriptor (TJxa66e6 k).2.2.1 = some (tyJxa66e6 k) := by decide +kernel
def RJ8 : String := "jdk/internal/util/ArraysSupport"
def TJ8 : u_T := fun k => match k with
  | _ => ("", "", "", false)
def tyJ8 : Nat → FieldType := fun k => match k with
  | _ => .int
abbrev wsJ80 : List Cond := u_ws RJ8 TJ8 0
theorem nmJ8 : ∀ a, a < 0 → ∀ b, b < 0 → a ≠ b → (TJ8 a).2.1 ≠ (TJ8 b).2.1 := by decide +kernel
theorem tyJ8_ok : ∀ k, k < 0 → parseFieldDescriptor (TJ8 k).2.2.1 = some (tyJ8 k) := by decide +kernel
abbrev cJ8_newLength_cabcc : ByteArray := prog_36_method_27_code
def yJ8_newLength_cabcc : MethodName := ⟨RJ8, "newLength", "(III)I"⟩
abbrev cJ8_hugeLength_7cf53 : ByteArray := prog_36_method_28_code
def yJ8_hugeLength_7cf53 : MethodName := ⟨RJ8, "hugeLength", "(II)I"⟩
def RJ3 : String := "jdk/internal/util/Preconditions"
def TJ3 : u_T := fun k => match k with
  | _ => ("", "", "", false)
def tyJ3 : Nat → FieldType := fun k => match k with
  | _ => .int
abbrev wsJ30 : List Cond := u_ws RJ3 TJ3 0
theorem nmJ3 : ∀ a, a < 0 → ∀ b, b < 0 → a ≠ b → (TJ3 a).2.1 ≠ (TJ3 b).2.1 := by decide +kernel
theorem tyJ3_ok : ∀ k, k < 0 → parseFieldDescriptor (TJ3 k).2.2.1 = some (tyJ3 k) := by decide +kernel
abbrev cJ3_checkIndex_8e157 : ByteArray := prog_37_method_11_code
def yJ3_checkIndex_8e157 : MethodName := ⟨RJ3, "checkIndex", "(IILjava/util/function/BiFunction;)I"⟩
def RL : String := "ObjectLinkerLaw"
abbrev cL_object : ByteArray := method_3_code
def yL_object : MethodName := ⟨RL, "object", "(LObjectLinker;[J)I"⟩
abbrev cL_function : ByteArray := method_4_code
def yL_function : MethodName := ⟨RL, "function", "(LObjectLinker;IIII[J)I"⟩
abbrev cL_code : ByteArray := method_5_code
def yL_code : MethodName := ⟨RL, "code", "(LObjectLinker;IIII[J)I"⟩
abbrev cL_segment : ByteArray := method_6_code
def yL_segment : MethodName := ⟨RL, "segment", "(LObjectLinker;III[J)I"⟩
abbrev cL_fill : ByteArray := method_7_code
def yL_fill : MethodName := ⟨RL, "fill", "(LObjectLinker;IIIJ)I"⟩
abbrev cL_symbol : ByteArray := method_8_code
def yL_symbol : MethodName := ⟨RL, "symbol", "(LObjectLinker;IIIIII[J)I"⟩
abbrev cL_link : ByteArray := method_9_code
def yL_link : MethodName := ⟨RL, "link", "(LObjectLinker;[J)I"⟩
abbrev cL_count : ByteArray := method_10_code
def yL_count : MethodName := ⟨RL, "count", "(LObjectLinker;I[J)I"⟩
abbrev cL_byteAt : ByteArray := method_11_code
def yL_byteAt : MethodName := ⟨RL, "byteAt", "(LObjectLinker;I[J)I"⟩
abbrev cL_meant : ByteArray := method_12_code
def yL_meant : MethodName := ⟨RL, "meant", "(LObjectLinker;III[J)I"⟩
abbrev cL_run : ByteArray := method_13_code
def yL_run : MethodName := ⟨RL, "run", "(LObjectLinker;IIJJI[J)I"⟩
abbrev cL_told : ByteArray := method_14_code
def yL_told : MethodName := ⟨RL, "told", "(LObjectLinker;I[J)I"⟩
abbrev cL_memory : ByteArray := method_15_code
def yL_memory : MethodName := ⟨RL, "memory", "(LObjectLinker;I[J)I"⟩
abbrev cL_law : ByteArray := code
def yL_law : MethodName := ⟨RL, "law", "([I)Z"⟩
abbrev vwCl : List vw_C := [(RJx4a65c, TJx4a65c, 3), (RX0, TX0, 2), (RX1, TX1, 7), (RX2, TX2, 8), (RX3, TX3, 12), (RX4, TX4, 3), (RX5, TX5, 3), (RX6, TX6, 13), (RX7, TX7, 3), (RX8, TX8, 8), (RX9, TX9, 3), (RX11, TX11, 8), (RX12, TX12, 50)]
