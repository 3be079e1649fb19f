def RX0 : String := "AlmsHouse$Change"
def TX0 : u_T := fun k => match k with
  | 0 => ("AlmsHouse$Change", "scheme", "I", true)
  | 1 => ("AlmsHouse$Change", "will", "I", true)
  | 2 => ("AlmsHouse$Change", "day", "I", true)
  | 3 => ("AlmsHouse$Change", "what", "I", true)
  | 4 => ("AlmsHouse$Change", "number", "I", true)
  | _ => ("AlmsHouse$Change", "code", "[I", true)
def tyX0 : Nat → FieldType := fun k => match k with
  | 0 => .int
  | 1 => .int
  | 2 => .int
  | 3 => .int
  | 4 => .int
  | _ => .array .int
abbrev wsX00 : List Cond := u_ws RX0 TX0 6
theorem nmX0 : ∀ a, a < 6 → ∀ b, b < 6 → a ≠ b → (TX0 a).2.1 ≠ (TX0 b).2.1 := by decide +kernel
theorem tyX0_ok : ∀ k, k < 6 → parseFieldDescriptor (TX0 k).2.2.1 = some (tyX0 k) := by decide +kernel
abbrev cX0_init : ByteArray := prog_2_method_1_code
def yX0_init : MethodName := ⟨RX0, "<init>", "(IIIII[I)V"⟩
abbrev cX0_step : ByteArray := prog_2_method_2_code
def yX0_step : MethodName := ⟨RX0, "step", "(III)I"⟩
abbrev cX0_holdsFor : ByteArray := prog_2_method_3_code
def yX0_holdsFor : MethodName := ⟨RX0, "holdsFor", "(LAlmsHouse$Person;I)Z"⟩
abbrev cX0_sumFor : ByteArray := prog_2_method_4_code
def yX0_sumFor : MethodName := ⟨RX0, "sumFor", "(LAlmsHouse$Person;I)I"⟩
abbrev cX0_compares : ByteArray := prog_2_method_5_code
def yX0_compares : MethodName := ⟨RX0, "compares", "(III)Z"⟩
abbrev cX0_doesOf : ByteArray := prog_2_method_6_code
def yX0_doesOf : MethodName := ⟨RX0, "doesOf", "(I)I"⟩
abbrev cX0_nameOf : ByteArray := prog_2_method_7_code
def yX0_nameOf : MethodName := ⟨RX0, "nameOf", "(I)I"⟩
abbrev cX0_numberOf : ByteArray := prog_2_method_8_code
def yX0_numberOf : MethodName := ⟨RX0, "numberOf", "(I)I"⟩
def RX1 : String := "AlmsHouse$Chest"
def TX1 : u_T := fun k => match k with
  | 0 => ("AlmsHouse$Chest", "content", "I", false)
  | _ => ("AlmsHouse$Chest", "rents", "J", false)
def tyX1 : Nat → FieldType := fun k => match k with
  | 0 => .int
  | _ => .long
abbrev wsX10 : List Cond := u_ws RX1 TX1 2
theorem nmX1 : ∀ a, a < 2 → ∀ b, b < 2 → a ≠ b → (TX1 a).2.1 ≠ (TX1 b).2.1 := by decide +kernel
theorem tyX1_ok : ∀ k, k < 2 → parseFieldDescriptor (TX1 k).2.2.1 = some (tyX1 k) := by decide +kernel
abbrev cX1_init : ByteArray := prog_3_method_1_code
def yX1_init : MethodName := ⟨RX1, "<init>", "()V"⟩
abbrev cX1_takeIn : ByteArray := prog_3_method_2_code
def yX1_takeIn : MethodName := ⟨RX1, "takeIn", "(I)V"⟩
abbrev cX1_payOut : ByteArray := prog_3_method_3_code
def yX1_payOut : MethodName := ⟨RX1, "payOut", "(I)I"⟩
def RX2 : String := "AlmsHouse$Land"
def TX2 : u_T := fun k => match k with
  | 0 => ("AlmsHouse$Land", "rent", "I", true)
  | 1 => ("AlmsHouse$Land", "each", "I", true)
  | _ => ("AlmsHouse$Land", "first", "I", true)
def tyX2 : Nat → FieldType := fun k => match k with
  | 0 => .int
  | 1 => .int
  | _ => .int
abbrev wsX20 : List Cond := u_ws RX2 TX2 3
theorem nmX2 : ∀ a, a < 3 → ∀ b, b < 3 → a ≠ b → (TX2 a).2.1 ≠ (TX2 b).2.1 := by decide +kernel
theorem tyX2_ok : ∀ k, k < 3 → parseFieldDescriptor (TX2 k).2.2.1 = some (tyX2 k) := by decide +kernel
abbrev cX2_init : ByteArray := prog_4_method_1_code
def yX2_init : MethodName := ⟨RX2, "<init>", "(III)V"⟩
abbrev cX2_isDueOn : ByteArray := prog_4_method_2_code
def yX2_isDueOn : MethodName := ⟨RX2, "isDueOn", "(I)Z"⟩
def RX3 : String := "AlmsHouse$Person"
def TX3 : u_T := fun k => match k with
  | 0 => ("AlmsHouse$Person", "birth", "I", true)
  | 1 => ("AlmsHouse$Person", "coming", "I", true)
  | 2 => ("AlmsHouse$Person", "kin", "Z", true)
  | 3 => ("AlmsHouse$Person", "asked", "I", true)
  | 4 => ("AlmsHouse$Person", "meansDays", "[I", true)
  | 5 => ("AlmsHouse$Person", "meansValues", "[I", true)
  | 6 => ("AlmsHouse$Person", "told", "I", false)
  | 7 => ("AlmsHouse$Person", "died", "I", false)
  | 8 => ("AlmsHouse$Person", "room", "I", false)
  | 9 => ("AlmsHouse$Person", "owed", "I", false)
  | _ => ("AlmsHouse$Person", "got", "I", false)
def tyX3 : Nat → FieldType := fun k => match k with
  | 0 => .int
  | 1 => .int
  | 2 => .boolean
  | 3 => .int
  | 4 => .array .int
  | 5 => .array .int
  | 6 => .int
  | 7 => .int
  | 8 => .int
  | 9 => .int
  | _ => .int
abbrev wsX30 : List Cond := u_ws RX3 TX3 11
theorem nmX3 : ∀ a, a < 11 → ∀ b, b < 11 → a ≠ b → (TX3 a).2.1 ≠ (TX3 b).2.1 := by decide +kernel
theorem tyX3_ok : ∀ k, k < 11 → parseFieldDescriptor (TX3 k).2.2.1 = some (tyX3 k) := by decide +kernel
abbrev cX3_init : ByteArray := prog_5_method_1_code
def yX3_init : MethodName := ⟨RX3, "<init>", "(IIZI)V"⟩
abbrev cX3_tellMeans : ByteArray := prog_5_method_2_code
def yX3_tellMeans : MethodName := ⟨RX3, "tellMeans", "(II)V"⟩
abbrev cX3_tell : ByteArray := prog_5_method_3_code
def yX3_tell : MethodName := ⟨RX3, "tell", "(II)I"⟩
abbrev cX3_meansOn : ByteArray := prog_5_method_4_code
def yX3_meansOn : MethodName := ⟨RX3, "meansOn", "(I)I"⟩
def RX4 : String := "AlmsHouse$Reader"
def TX4 : u_T := fun k => match k with
  | 0 => ("AlmsHouse$Reader", "tape", "LAlmsHouse$Tape;", true)
  | 1 => ("AlmsHouse$Reader", "writer", "LAlmsHouse$Writer;", true)
  | 2 => ("AlmsHouse$Reader", "whats", "[I", true)
  | 3 => ("AlmsHouse$Reader", "numbers", "[I", true)
  | 4 => ("AlmsHouse$Reader", "ends", "[I", true)
  | 5 => ("AlmsHouse$Reader", "changes", "I", false)
  | 6 => ("AlmsHouse$Reader", "found", "I", false)
  | 7 => ("AlmsHouse$Reader", "comparisons", "I", false)
  | 8 => ("AlmsHouse$Reader", "terms", "I", false)
  | 9 => ("AlmsHouse$Reader", "open", "I", false)
  | 10 => ("AlmsHouse$Reader", "nots", "I", false)
  | 11 => ("AlmsHouse$Reader", "name", "I", false)
  | 12 => ("AlmsHouse$Reader", "sign", "I", false)
  | _ => ("AlmsHouse$Reader", "number", "I", false)
def tyX4 : Nat → FieldType := fun k => match k with
  | 0 => .object "AlmsHouse$Tape"
  | 1 => .object "AlmsHouse$Writer"
  | 2 => .array .int
  | 3 => .array .int
  | 4 => .array .int
  | 5 => .int
  | 6 => .int
  | 7 => .int
  | 8 => .int
  | 9 => .int
  | 10 => .int
  | 11 => .int
  | 12 => .int
  | _ => .int
abbrev wsX40 : List Cond := u_ws RX4 TX4 14
theorem nmX4 : ∀ a, a < 14 → ∀ b, b < 14 → a ≠ b → (TX4 a).2.1 ≠ (TX4 b).2.1 := by decide +kernel
theorem tyX4_ok : ∀ k, k < 14 → parseFieldDescriptor (TX4 k).2.2.1 = some (tyX4 k) := by decide +kernel
abbrev cX4_init : ByteArray := prog_6_method_1_code
def yX4_init : MethodName := ⟨RX4, "<init>", "(LAlmsHouse$Tape;)V"⟩
abbrev cX4_read : ByteArray := prog_6_method_2_code
def yX4_read : MethodName := ⟨RX4, "read", "(I)I"⟩
abbrev cX4_whatOf : ByteArray := prog_6_method_3_code
def yX4_whatOf : MethodName := ⟨RX4, "whatOf", "(I)I"⟩
abbrev cX4_numberOf : ByteArray := prog_6_method_4_code
def yX4_numberOf : MethodName := ⟨RX4, "numberOf", "(I)I"⟩
abbrev cX4_codeOf : ByteArray := prog_6_method_5_code
def yX4_codeOf : MethodName := ⟨RX4, "codeOf", "(I)[I"⟩
abbrev cX4_begin : ByteArray := prog_6_method_6_code
def yX4_begin : MethodName := ⟨RX4, "begin", "()V"⟩
abbrev cX4_step : ByteArray := prog_6_method_7_code
def yX4_step : MethodName := ⟨RX4, "step", "(I)I"⟩
abbrev cX4_readChange : ByteArray := prog_6_method_8_code
def yX4_readChange : MethodName := ⟨RX4, "readChange", "()I"⟩
abbrev cX4_readClauseNumber : ByteArray := prog_6_method_9_code
def yX4_readClauseNumber : MethodName := ⟨RX4, "readClauseNumber", "(I)I"⟩
abbrev cX4_readBehindChange : ByteArray := prog_6_method_10_code
def yX4_readBehindChange : MethodName := ⟨RX4, "readBehindChange", "()I"⟩
abbrev cX4_readOne : ByteArray := prog_6_method_11_code
def yX4_readOne : MethodName := ⟨RX4, "readOne", "()I"⟩
abbrev cX4_readSign : ByteArray := prog_6_method_12_code
def yX4_readSign : MethodName := ⟨RX4, "readSign", "()I"⟩
abbrev cX4_readValue : ByteArray := prog_6_method_13_code
def yX4_readValue : MethodName := ⟨RX4, "readValue", "()I"⟩
abbrev cX4_readBehindOne : ByteArray := prog_6_method_14_code
def yX4_readBehindOne : MethodName := ⟨RX4, "readBehindOne", "()I"⟩
abbrev cX4_readTerm : ByteArray := prog_6_method_15_code
def yX4_readTerm : MethodName := ⟨RX4, "readTerm", "()I"⟩
abbrev cX4_readBehindNumber : ByteArray := prog_6_method_16_code
def yX4_readBehindNumber : MethodName := ⟨RX4, "readBehindNumber", "()I"⟩
abbrev cX4_readFactor : ByteArray := prog_6_method_17_code
def yX4_readFactor : MethodName := ⟨RX4, "readFactor", "()I"⟩
abbrev cX4_readBehindTerm : ByteArray := prog_6_method_18_code
def yX4_readBehindTerm : MethodName := ⟨RX4, "readBehindTerm", "()I"⟩
abbrev cX4_noName : ByteArray := prog_6_method_19_code
def yX4_noName : MethodName := ⟨RX4, "noName", "()I"⟩
abbrev cX4_faulty : ByteArray := prog_6_method_20_code
def yX4_faulty : MethodName := ⟨RX4, "faulty", "(I)I"⟩
def RX5 : String := "AlmsHouse$Room"
def TX5 : u_T := fun k => match k with
  | 0 => ("AlmsHouse$Room", "will", "I", true)
  | 1 => ("AlmsHouse$Room", "stay", "LAlmsHouse$Stay;", false)
  | _ => ("AlmsHouse$Room", "giver", "I", false)
def tyX5 : Nat → FieldType := fun k => match k with
  | 0 => .int
  | 1 => .object "AlmsHouse$Stay"
  | _ => .int
abbrev wsX50 : List Cond := u_ws RX5 TX5 3
theorem nmX5 : ∀ a, a < 3 → ∀ b, b < 3 → a ≠ b → (TX5 a).2.1 ≠ (TX5 b).2.1 := by decide +kernel
theorem tyX5_ok : ∀ k, k < 3 → parseFieldDescriptor (TX5 k).2.2.1 = some (tyX5 k) := by decide +kernel
abbrev cX5_init : ByteArray := prog_7_method_1_code
def yX5_init : MethodName := ⟨RX5, "<init>", "(I)V"⟩
def RX6 : String := "AlmsHouse$Standing"
def TX6 : u_T := fun k => match k with
  | _ => ("AlmsHouse$Standing", "latest", "[LAlmsHouse$Change;", true)
def tyX6 : Nat → FieldType := fun k => match k with
  | _ => .array (.object "AlmsHouse$Change")
abbrev wsX60 : List Cond := u_ws RX6 TX6 1
theorem nmX6 : ∀ a, a < 1 → ∀ b, b < 1 → a ≠ b → (TX6 a).2.1 ≠ (TX6 b).2.1 := by decide +kernel
theorem tyX6_ok : ∀ k, k < 1 → parseFieldDescriptor (TX6 k).2.2.1 = some (tyX6 k) := by decide +kernel
abbrev cX6_init : ByteArray := prog_8_method_1_code
def yX6_init : MethodName := ⟨RX6, "<init>", "()V"⟩
abbrev cX6_settle : ByteArray := prog_8_method_2_code
def yX6_settle : MethodName := ⟨RX6, "settle", "(Ljava/util/ArrayList;II)V"⟩
abbrev cX6_clauseAt : ByteArray := prog_8_method_3_code
def yX6_clauseAt : MethodName := ⟨RX6, "clauseAt", "(I)LAlmsHouse$Change;"⟩
abbrev cX6_howMany : ByteArray := prog_8_method_4_code
def yX6_howMany : MethodName := ⟨RX6, "howMany", "()I"⟩
abbrev cX6_firstBar : ByteArray := prog_8_method_5_code
def yX6_firstBar : MethodName := ⟨RX6, "firstBar", "(LAlmsHouse$Person;I)I"⟩
abbrev cX6_admits : ByteArray := prog_8_method_6_code
def yX6_admits : MethodName := ⟨RX6, "admits", "(LAlmsHouse$Person;I)Z"⟩
abbrev cX6_rank : ByteArray := prog_8_method_7_code
def yX6_rank : MethodName := ⟨RX6, "rank", "(LAlmsHouse$Person;I)I"⟩
abbrev cX6_consider : ByteArray := prog_8_method_8_code
def yX6_consider : MethodName := ⟨RX6, "consider", "(LAlmsHouse$Change;)V"⟩
def RX7 : String := "AlmsHouse$Stay"
def TX7 : u_T := fun k => match k with
  | 0 => ("AlmsHouse$Stay", "room", "I", true)
  | 1 => ("AlmsHouse$Stay", "person", "I", true)
  | 2 => ("AlmsHouse$Stay", "from", "I", true)
  | _ => ("AlmsHouse$Stay", "until", "I", false)
def tyX7 : Nat → FieldType := fun k => match k with
  | 0 => .int
  | 1 => .int
  | 2 => .int
  | _ => .int
abbrev wsX70 : List Cond := u_ws RX7 TX7 4
theorem nmX7 : ∀ a, a < 4 → ∀ b, b < 4 → a ≠ b → (TX7 a).2.1 ≠ (TX7 b).2.1 := by decide +kernel
theorem tyX7_ok : ∀ k, k < 4 → parseFieldDescriptor (TX7 k).2.2.1 = some (tyX7 k) := by decide +kernel
abbrev cX7_init : ByteArray := prog_9_method_1_code
def yX7_init : MethodName := ⟨RX7, "<init>", "(III)V"⟩
def RX8 : String := "AlmsHouse$Tape"
def TX8 : u_T := fun k => match k with
  | 0 => ("AlmsHouse$Tape", "bytes", "[I", true)
  | 1 => ("AlmsHouse$Tape", "length", "I", false)
  | 2 => ("AlmsHouse$Tape", "end", "I", false)
  | 3 => ("AlmsHouse$Tape", "at", "I", false)
  | 4 => ("AlmsHouse$Tape", "place", "I", false)
  | 5 => ("AlmsHouse$Tape", "kind", "I", false)
  | _ => ("AlmsHouse$Tape", "value", "I", false)
def tyX8 : Nat → FieldType := fun k => match k with
  | 0 => .array .int
  | 1 => .int
  | 2 => .int
  | 3 => .int
  | 4 => .int
  | 5 => .int
  | _ => .int
abbrev wsX80 : List Cond := u_ws RX8 TX8 7
theorem nmX8 : ∀ a, a < 7 → ∀ b, b < 7 → a ≠ b → (TX8 a).2.1 ≠ (TX8 b).2.1 := by decide +kernel
theorem tyX8_ok : ∀ k, k < 7 → parseFieldDescriptor (TX8 k).2.2.1 = some (tyX8 k) := by decide +kernel
abbrev cX8_init : ByteArray := prog_10_method_1_code
def yX8_init : MethodName := ⟨RX8, "<init>", "()V"⟩
abbrev cX8_append : ByteArray := prog_10_method_2_code
def yX8_append : MethodName := ⟨RX8, "append", "(I)V"⟩
abbrev cX8_rewind : ByteArray := prog_10_method_3_code
def yX8_rewind : MethodName := ⟨RX8, "rewind", "(I)V"⟩
abbrev cX8_advance : ByteArray := prog_10_method_4_code
def yX8_advance : MethodName := ⟨RX8, "advance", "()V"⟩
abbrev cX8_takeNumber : ByteArray := prog_10_method_5_code
def yX8_takeNumber : MethodName := ⟨RX8, "takeNumber", "()V"⟩
abbrev cX8_takeWord : ByteArray := prog_10_method_6_code
def yX8_takeWord : MethodName := ⟨RX8, "takeWord", "()V"⟩
abbrev cX8_keywordKind : ByteArray := prog_10_method_7_code
def yX8_keywordKind : MethodName := ⟨RX8, "keywordKind", "()I"⟩
abbrev cX8_nameNumber : ByteArray := prog_10_method_8_code
def yX8_nameNumber : MethodName := ⟨RX8, "nameNumber", "()I"⟩
abbrev cX8_spells : ByteArray := prog_10_method_9_code
def yX8_spells : MethodName := ⟨RX8, "spells", "(Ljava/lang/String;)Z"⟩
abbrev cX8_byteAt : ByteArray := prog_10_method_10_code
def yX8_byteAt : MethodName := ⟨RX8, "byteAt", "(I)I"⟩
abbrev cX8_isDigit : ByteArray := prog_10_method_11_code
def yX8_isDigit : MethodName := ⟨RX8, "isDigit", "(I)Z"⟩
abbrev cX8_isLetter : ByteArray := prog_10_method_12_code
def yX8_isLetter : MethodName := ⟨RX8, "isLetter", "(I)Z"⟩
abbrev cX8_isSign : ByteArray := prog_10_method_13_code
def yX8_isSign : MethodName := ⟨RX8, "isSign", "(I)Z"⟩
def RX9 : String := "AlmsHouse$Trustees"
def TX9 : u_T := fun k => match k with
  | 0 => ("AlmsHouse$Trustees", "absent", "[Z", true)
  | 1 => ("AlmsHouse$Trustees", "size", "I", false)
  | _ => ("AlmsHouse$Trustees", "turn", "I", false)
def tyX9 : Nat → FieldType := fun k => match k with
  | 0 => .array .boolean
  | 1 => .int
  | _ => .int
abbrev wsX90 : List Cond := u_ws RX9 TX9 3
theorem nmX9 : ∀ a, a < 3 → ∀ b, b < 3 → a ≠ b → (TX9 a).2.1 ≠ (TX9 b).2.1 := by decide +kernel
theorem tyX9_ok : ∀ k, k < 3 → parseFieldDescriptor (TX9 k).2.2.1 = some (tyX9 k) := by decide +kernel
abbrev cX9_init : ByteArray := prog_11_method_1_code
def yX9_init : MethodName := ⟨RX9, "<init>", "()V"⟩
abbrev cX9_setAbsent : ByteArray := prog_11_method_2_code
def yX9_setAbsent : MethodName := ⟨RX9, "setAbsent", "(IZ)V"⟩
abbrev cX9_giver : ByteArray := prog_11_method_3_code
def yX9_giver : MethodName := ⟨RX9, "giver", "()I"⟩
abbrev cX9_moveTurnBehind : ByteArray := prog_11_method_4_code
def yX9_moveTurnBehind : MethodName := ⟨RX9, "moveTurnBehind", "(I)V"⟩
abbrev cX9_behind : ByteArray := prog_11_method_5_code
def yX9_behind : MethodName := ⟨RX9, "behind", "(I)I"⟩
def RX10 : String := "AlmsHouse$Writer"
def TX10 : u_T := fun k => match k with
  | 0 => ("AlmsHouse$Writer", "code", "[I", true)
  | 1 => ("AlmsHouse$Writer", "held", "[I", true)
  | 2 => ("AlmsHouse$Writer", "length", "I", false)
  | _ => ("AlmsHouse$Writer", "holding", "I", false)
def tyX10 : Nat → FieldType := fun k => match k with
  | 0 => .array .int
  | 1 => .array .int
  | 2 => .int
  | _ => .int
abbrev wsX100 : List Cond := u_ws RX10 TX10 4
theorem nmX10 : ∀ a, a < 4 → ∀ b, b < 4 → a ≠ b → (TX10 a).2.1 ≠ (TX10 b).2.1 := by decide +kernel
theorem tyX10_ok : ∀ k, k < 4 → parseFieldDescriptor (TX10 k).2.2.1 = some (tyX10 k) := by decide +kernel
abbrev cX10_init : ByteArray := prog_12_method_1_code
def yX10_init : MethodName := ⟨RX10, "<init>", "()V"⟩
abbrev cX10_begin : ByteArray := prog_12_method_2_code
def yX10_begin : MethodName := ⟨RX10, "begin", "()V"⟩
abbrev cX10_write : ByteArray := prog_12_method_3_code
def yX10_write : MethodName := ⟨RX10, "write", "(I)V"⟩
abbrev cX10_hold : ByteArray := prog_12_method_4_code
def yX10_hold : MethodName := ⟨RX10, "hold", "(I)V"⟩
abbrev cX10_endOne : ByteArray := prog_12_method_5_code
def yX10_endOne : MethodName := ⟨RX10, "endOne", "()V"⟩
abbrev cX10_join : ByteArray := prog_12_method_6_code
def yX10_join : MethodName := ⟨RX10, "join", "(I)V"⟩
abbrev cX10_endAny : ByteArray := prog_12_method_7_code
def yX10_endAny : MethodName := ⟨RX10, "endAny", "()V"⟩
abbrev cX10_closeBracket : ByteArray := prog_12_method_8_code
def yX10_closeBracket : MethodName := ⟨RX10, "closeBracket", "()V"⟩
abbrev cX10_release : ByteArray := prog_12_method_9_code
def yX10_release : MethodName := ⟨RX10, "release", "(I)V"⟩
def RX11 : String := "AlmsHouse"
def TX11 : u_T := fun k => match k with
  | 0 => ("AlmsHouse", "tape", "LAlmsHouse$Tape;", true)
  | 1 => ("AlmsHouse", "reader", "LAlmsHouse$Reader;", true)
  | 2 => ("AlmsHouse", "changes", "Ljava/util/ArrayList;", true)
  | 3 => ("AlmsHouse", "standing", "LAlmsHouse$Standing;", true)
  | 4 => ("AlmsHouse", "people", "Ljava/util/ArrayList;", true)
  | 5 => ("AlmsHouse", "rooms", "Ljava/util/ArrayList;", true)
  | 6 => ("AlmsHouse", "stays", "Ljava/util/ArrayList;", true)
  | 7 => ("AlmsHouse", "trustees", "LAlmsHouse$Trustees;", true)
  | 8 => ("AlmsHouse", "lands", "Ljava/util/ArrayList;", true)
  | 9 => ("AlmsHouse", "chest", "LAlmsHouse$Chest;", true)
  | 10 => ("AlmsHouse", "wills", "I", false)
  | 11 => ("AlmsHouse", "schemes", "I", false)
  | 12 => ("AlmsHouse", "dole", "I", false)
  | 13 => ("AlmsHouse", "today", "I", false)
  | 14 => ("AlmsHouse", "trouble", "I", false)
  | 15 => ("AlmsHouse", "fault", "I", false)
  | _ => ("AlmsHouse", "faultPlace", "I", false)
def tyX11 : Nat → FieldType := fun k => match k with
  | 0 => .object "AlmsHouse$Tape"
  | 1 => .object "AlmsHouse$Reader"
  | 2 => .object "java/util/ArrayList"
  | 3 => .object "AlmsHouse$Standing"
  | 4 => .object "java/util/ArrayList"
  | 5 => .object "java/util/ArrayList"
  | 6 => .object "java/util/ArrayList"
  | 7 => .object "AlmsHouse$Trustees"
  | 8 => .object "java/util/ArrayList"
  | 9 => .object "AlmsHouse$Chest"
  | 10 => .int
  | 11 => .int
  | 12 => .int
  | 13 => .int
  | 14 => .int
  | 15 => .int
  | _ => .int
abbrev wsX110 : List Cond := u_ws RX11 TX11 17
theorem nmX11 : ∀ a, a < 17 → ∀ b, b < 17 → a ≠ b → (TX11 a).2.1 ≠ (TX11 b).2.1 := by decide +kernel
theorem tyX11_ok : ∀ k, k < 17 → parseFieldDescriptor (TX11 k).2.2.1 = some (tyX11 k) := by decide +kernel
abbrev cX11_init : ByteArray := prog_1_method_1_code
def yX11_init : MethodName := ⟨RX11, "<init>", "()V"⟩
abbrev cX11_will : ByteArray := prog_1_method_2_code
def yX11_will : MethodName := ⟨RX11, "will", "()I"⟩
abbrev cX11_feed : ByteArray := prog_1_method_3_code
def yX11_feed : MethodName := ⟨RX11, "feed", "(IIIII)I"⟩
abbrev cX11_scheme : ByteArray := prog_1_method_4_code
def yX11_scheme : MethodName := ⟨RX11, "scheme", "(III)I"⟩
abbrev cX11_fault : ByteArray := prog_1_method_5_code
def yX11_fault : MethodName := ⟨RX11, "fault", "()I"⟩
abbrev cX11_where : ByteArray := prog_1_method_6_code
def yX11_where : MethodName := ⟨RX11, "where", "()I"⟩
abbrev cX11_clause : ByteArray := prog_1_method_7_code
def yX11_clause : MethodName := ⟨RX11, "clause", "(III)I"⟩
abbrev cX11_clauses : ByteArray := prog_1_method_8_code
def yX11_clauses : MethodName := ⟨RX11, "clauses", "(II)I"⟩
abbrev cX11_person : ByteArray := prog_1_method_9_code
def yX11_person : MethodName := ⟨RX11, "person", "(IIZ)I"⟩
abbrev cX11_means : ByteArray := prog_1_method_10_code
def yX11_means : MethodName := ⟨RX11, "means", "(III)I"⟩
abbrev cX11_dies : ByteArray := prog_1_method_11_code
def yX11_dies : MethodName := ⟨RX11, "dies", "(I)Z"⟩
abbrev cX11_fact : ByteArray := prog_1_method_12_code
def yX11_fact : MethodName := ⟨RX11, "fact", "(III)I"⟩
abbrev cX11_may : ByteArray := prog_1_method_13_code
def yX11_may : MethodName := ⟨RX11, "may", "(III)I"⟩
abbrev cX11_bars : ByteArray := prog_1_method_14_code
def yX11_bars : MethodName := ⟨RX11, "bars", "(III)I"⟩
abbrev cX11_order : ByteArray := prog_1_method_15_code
def yX11_order : MethodName := ⟨RX11, "order", "(III)I"⟩
abbrev cX11_list : ByteArray := prog_1_method_16_code
def yX11_list : MethodName := ⟨RX11, "list", "(II)I"⟩
abbrev cX11_next : ByteArray := prog_1_method_17_code
def yX11_next : MethodName := ⟨RX11, "next", "(II)I"⟩
abbrev cX11_room : ByteArray := prog_1_method_18_code
def yX11_room : MethodName := ⟨RX11, "room", "(I)I"⟩
abbrev cX11_trustee : ByteArray := prog_1_method_19_code
def yX11_trustee : MethodName := ⟨RX11, "trustee", "()I"⟩
abbrev cX11_away : ByteArray := prog_1_method_20_code
def yX11_away : MethodName := ⟨RX11, "away", "(IZ)Z"⟩
abbrev cX11_fill : ByteArray := prog_1_method_21_code
def yX11_fill : MethodName := ⟨RX11, "fill", "(I)I"⟩
abbrev cX11_leave : ByteArray := prog_1_method_22_code
def yX11_leave : MethodName := ⟨RX11, "leave", "(I)I"⟩
abbrev cX11_roomOf : ByteArray := prog_1_method_23_code
def yX11_roomOf : MethodName := ⟨RX11, "roomOf", "(II)I"⟩
abbrev cX11_had : ByteArray := prog_1_method_24_code
def yX11_had : MethodName := ⟨RX11, "had", "(II)I"⟩
abbrev cX11_land : ByteArray := prog_1_method_25_code
def yX11_land : MethodName := ⟨RX11, "land", "(III)I"⟩
abbrev cX11_dole : ByteArray := prog_1_method_26_code
def yX11_dole : MethodName := ⟨RX11, "dole", "(I)Z"⟩
abbrev cX11_pass : ByteArray := prog_1_method_27_code
def yX11_pass : MethodName := ⟨RX11, "pass", "(I)I"⟩
abbrev cX11_owed : ByteArray := prog_1_method_28_code
def yX11_owed : MethodName := ⟨RX11, "owed", "(I)I"⟩
abbrev cX11_got : ByteArray := prog_1_method_29_code
def yX11_got : MethodName := ⟨RX11, "got", "(I)I"⟩
abbrev cX11_count : ByteArray := prog_1_method_30_code
def yX11_count : MethodName := ⟨RX11, "count", "(I)I"⟩
abbrev cX11_trouble : ByteArray := prog_1_method_31_code
def yX11_trouble : MethodName := ⟨RX11, "trouble", "()I"⟩
abbrev cX11_refuse : ByteArray := prog_1_method_32_code
def yX11_refuse : MethodName := ⟨RX11, "refuse", "(I)I"⟩
abbrev cX11_accept : ByteArray := prog_1_method_33_code
def yX11_accept : MethodName := ⟨RX11, "accept", "(I)I"⟩
abbrev cX11_isWill : ByteArray := prog_1_method_34_code
def yX11_isWill : MethodName := ⟨RX11, "isWill", "(I)Z"⟩
abbrev cX11_isDay : ByteArray := prog_1_method_35_code
def yX11_isDay : MethodName := ⟨RX11, "isDay", "(I)Z"⟩
abbrev cX11_personAt : ByteArray := prog_1_method_36_code
def yX11_personAt : MethodName := ⟨RX11, "personAt", "(I)LAlmsHouse$Person;"⟩
abbrev cX11_roomAt : ByteArray := prog_1_method_37_code
def yX11_roomAt : MethodName := ⟨RX11, "roomAt", "(I)LAlmsHouse$Room;"⟩
abbrev cX11_keepChanges : ByteArray := prog_1_method_38_code
def yX11_keepChanges : MethodName := ⟨RX11, "keepChanges", "(II)V"⟩
abbrev cX11_choose : ByteArray := prog_1_method_39_code
def yX11_choose : MethodName := ⟨RX11, "choose", "(II)I"⟩
abbrev cX11_empty : ByteArray := prog_1_method_40_code
def yX11_empty : MethodName := ⟨RX11, "empty", "(LAlmsHouse$Room;)V"⟩
abbrev cX11_emptyRooms : ByteArray := prog_1_method_41_code
def yX11_emptyRooms : MethodName := ⟨RX11, "emptyRooms", "()I"⟩
abbrev cX11_bringRents : ByteArray := prog_1_method_42_code
def yX11_bringRents : MethodName := ⟨RX11, "bringRents", "()V"⟩
abbrev cX11_payDoles : ByteArray := prog_1_method_43_code
def yX11_payDoles : MethodName := ⟨RX11, "payDoles", "()V"⟩
def RX12 : String := "AlmsHouseModel$Scheme"
def TX12 : u_T := fun k => match k with
  | 0 => ("AlmsHouseModel$Scheme", "will", "I", false)
  | 1 => ("AlmsHouseModel$Scheme", "day", "I", false)
  | 2 => ("AlmsHouseModel$Scheme", "changes", "I", false)
  | 3 => ("AlmsHouseModel$Scheme", "signs", "I", false)
  | 4 => ("AlmsHouseModel$Scheme", "what", "[I", true)
  | 5 => ("AlmsHouseModel$Scheme", "number", "[I", true)
  | 6 => ("AlmsHouseModel$Scheme", "from", "[I", true)
  | 7 => ("AlmsHouseModel$Scheme", "to", "[I", true)
  | 8 => ("AlmsHouseModel$Scheme", "terms", "[I", true)
  | 9 => ("AlmsHouseModel$Scheme", "sign", "[I", true)
  | 10 => ("AlmsHouseModel$Scheme", "name", "[I", true)
  | 11 => ("AlmsHouseModel$Scheme", "than", "[I", true)
  | 12 => ("AlmsHouseModel$Scheme", "termName", "[I", true)
  | _ => ("AlmsHouseModel$Scheme", "times", "[I", true)
def tyX12 : Nat → FieldType := fun k => match k with
  | 0 => .int
  | 1 => .int
  | 2 => .int
  | 3 => .int
  | 4 => .array .int
  | 5 => .array .int
  | 6 => .array .int
  | 7 => .array .int
  | 8 => .array .int
  | 9 => .array .int
  | 10 => .array .int
  | 11 => .array .int
  | 12 => .array .int
  | _ => .array .int
abbrev wsX120 : List Cond := u_ws RX12 TX12 14
theorem nmX12 : ∀ a, a < 14 → ∀ b, b < 14 → a ≠ b → (TX12 a).2.1 ≠ (TX12 b).2.1 := by decide +kernel
theorem tyX12_ok : ∀ k, k < 14 → parseFieldDescriptor (TX12 k).2.2.1 = some (tyX12 k) := by decide +kernel
abbrev cX12_init : ByteArray := prog_15_method_1_code
def yX12_init : MethodName := ⟨RX12, "<init>", "()V"⟩
abbrev cX12_put : ByteArray := prog_15_method_2_code
def yX12_put : MethodName := ⟨RX12, "put", "(III)V"⟩
def RX13 : String := "AlmsHouseModel$Stop"
def TX13 : u_T := fun k => match k with
  | 0 => ("java/lang/Throwable", "cause", "Ljava/lang/Throwable;", false)
  | 1 => ("java/lang/Throwable", "stackTrace", "[Ljava/lang/StackTraceElement;", false)
  | 2 => ("java/lang/Throwable", "suppressedExceptions", "Ljava/util/List;", false)
  | 3 => ("java/lang/Throwable", "detailMessage", "Ljava/lang/String;", false)
  | 4 => ("java/lang/Throwable", "backtrace", "Ljava/lang/Object;", false)
  | 5 => ("java/lang/Throwable", "depth", "I", false)
  | 6 => ("AlmsHouseModel$Stop", "kind", "I", false)
  | _ => ("AlmsHouseModel$Stop", "place", "I", false)
def tyX13 : Nat → FieldType := fun k => match k with
  | 0 => .object "java/lang/Throwable"
  | 1 => .array (.object "java/lang/StackTraceElement")
  | 2 => .object "java/util/List"
  | 3 => .object "java/lang/String"
  | 4 => .object "java/lang/Object"
  | 5 => .int
  | 6 => .int
  | _ => .int
abbrev wsX130 : List Cond := u_ws RX13 TX13 8
theorem nmX13 : ∀ a, a < 8 → ∀ b, b < 8 → a ≠ b → (TX13 a).2.1 ≠ (TX13 b).2.1 := by decide +kernel
theorem tyX13_ok : ∀ k, k < 8 → parseFieldDescriptor (TX13 k).2.2.1 = some (tyX13 k) := by decide +kernel
abbrev cX13_init : ByteArray := prog_16_method_1_code
def yX13_init : MethodName := ⟨RX13, "<init>", "()V"⟩
def RX14 : String := "AlmsHouseModel"
def TX14 : u_T := fun k => match k with
  | 0 => ("AlmsHouseModel", "thrown", "I", false)
  | 1 => ("AlmsHouseModel", "trouble", "I", false)
  | 2 => ("AlmsHouseModel", "where", "I", false)
  | 3 => ("AlmsHouseModel", "fault", "I", false)
  | 4 => ("AlmsHouseModel", "wills", "I", false)
  | 5 => ("AlmsHouseModel", "schemes", "I", false)
  | 6 => ("AlmsHouseModel", "scheme", "[LAlmsHouseModel$Scheme;", true)
  | 7 => ("AlmsHouseModel", "spare", "LAlmsHouseModel$Scheme;", true)
  | 8 => ("AlmsHouseModel", "stop", "LAlmsHouseModel$Stop;", true)
  | 9 => ("AlmsHouseModel", "tape", "[B", true)
  | 10 => ("AlmsHouseModel", "taped", "I", false)
  | 11 => ("AlmsHouseModel", "size", "I", false)
  | 12 => ("AlmsHouseModel", "at", "I", false)
  | 13 => ("AlmsHouseModel", "sort", "I", false)
  | 14 => ("AlmsHouseModel", "place", "I", false)
  | 15 => ("AlmsHouseModel", "mark", "I", false)
  | 16 => ("AlmsHouseModel", "number", "I", false)
  | 17 => ("AlmsHouseModel", "deep", "I", false)
  | 18 => ("AlmsHouseModel", "compared", "I", false)
  | 19 => ("AlmsHouseModel", "word", "J", false)
  | 20 => ("AlmsHouseModel", "foundScheme", "I", false)
  | 21 => ("AlmsHouseModel", "foundChange", "I", false)
  | 22 => ("AlmsHouseModel", "people", "I", false)
  | 23 => ("AlmsHouseModel", "today", "I", false)
  | 24 => ("AlmsHouseModel", "birth", "[I", true)
  | 25 => ("AlmsHouseModel", "coming", "[I", true)
  | 26 => ("AlmsHouseModel", "asked", "[I", true)
  | 27 => ("AlmsHouseModel", "dead", "[I", true)
  | 28 => ("AlmsHouseModel", "owed", "[I", true)
  | 29 => ("AlmsHouseModel", "got", "[I", true)
  | 30 => ("AlmsHouseModel", "roomOf", "[I", true)
  | 31 => ("AlmsHouseModel", "told", "[I", true)
  | 32 => ("AlmsHouseModel", "kin", "[Z", true)
  | 33 => ("AlmsHouseModel", "meansDay", "[I", true)
  | 34 => ("AlmsHouseModel", "meansIs", "[I", true)
  | 35 => ("AlmsHouseModel", "pile", "[Z", true)
  | 36 => ("AlmsHouseModel", "rooms", "I", false)
  | 37 => ("AlmsHouseModel", "stays", "I", false)
  | 38 => ("AlmsHouseModel", "trustees", "I", false)
  | 39 => ("AlmsHouseModel", "turn", "I", false)
  | 40 => ("AlmsHouseModel", "roomWill", "[I", true)
  | 41 => ("AlmsHouseModel", "roomHas", "[I", true)
  | 42 => ("AlmsHouseModel", "roomGave", "[I", true)
  | 43 => ("AlmsHouseModel", "stayRoom", "[I", true)
  | 44 => ("AlmsHouseModel", "stayWho", "[I", true)
  | 45 => ("AlmsHouseModel", "stayFrom", "[I", true)
  | 46 => ("AlmsHouseModel", "stayTo", "[I", true)
  | 47 => ("AlmsHouseModel", "isAway", "[Z", true)
  | 48 => ("AlmsHouseModel", "lands", "I", false)
  | 49 => ("AlmsHouseModel", "dole", "I", false)
  | 50 => ("AlmsHouseModel", "chest", "I", false)
  | 51 => ("AlmsHouseModel", "rents", "I", false)
  | 52 => ("AlmsHouseModel", "rent", "[I", true)
  | 53 => ("AlmsHouseModel", "each", "[I", true)
  | _ => ("AlmsHouseModel", "first", "[I", true)
def tyX14 : Nat → FieldType := fun k => match k with
  | 0 => .int
  | 1 => .int
  | 2 => .int
  | 3 => .int
  | 4 => .int
  | 5 => .int
  | 6 => .array (.object "AlmsHouseModel$Scheme")
  | 7 => .object "AlmsHouseModel$Scheme"
  | 8 => .object "AlmsHouseModel$Stop"
  | 9 => .array .byte
  | 10 => .int
  | 11 => .int
  | 12 => .int
  | 13 => .int
  | 14 => .int
  | 15 => .int
  | 16 => .int
  | 17 => .int
  | 18 => .int
  | 19 => .long
  | 20 => .int
  | 21 => .int
  | 22 => .int
  | 23 => .int
  | 24 => .array .int
  | 25 => .array .int
  | 26 => .array .int
  | 27 => .array .int
  | 28 => .array .int
  | 29 => .array .int
  | 30 => .array .int
  | 31 => .array .int
  | 32 => .array .boolean
  | 33 => .array .int
  | 34 => .array .int
  | 35 => .array .boolean
  | 36 => .int
  | 37 => .int
  | 38 => .int
  | 39 => .int
  | 40 => .array .int
  | 41 => .array .int
  | 42 => .array .int
  | 43 => .array .int
  | 44 => .array .int
  | 45 => .array .int
  | 46 => .array .int
  | 47 => .array .boolean
  | 48 => .int
  | 49 => .int
  | 50 => .int
  | 51 => .int
  | 52 => .array .int
  | 53 => .array .int
  | _ => .array .int
abbrev wsX140 : List Cond := u_ws RX14 TX14 55
theorem nmX14 : ∀ a, a < 55 → ∀ b, b < 55 → a ≠ b → (TX14 a).2.1 ≠ (TX14 b).2.1 := by decide +kernel
theorem tyX14_ok : ∀ k, k < 55 → parseFieldDescriptor (TX14 k).2.2.1 = some (tyX14 k) := by decide +kernel
abbrev cX14_init : ByteArray := prog_14_method_1_code
def yX14_init : MethodName := ⟨RX14, "<init>", "()V"⟩
abbrev cX14_refused : ByteArray := prog_14_method_3_code
def yX14_refused : MethodName := ⟨RX14, "refused", "(I)I"⟩
abbrev cX14_denied : ByteArray := prog_14_method_4_code
def yX14_denied : MethodName := ⟨RX14, "denied", "(I)Z"⟩
abbrev cX14_done : ByteArray := prog_14_method_5_code
def yX14_done : MethodName := ⟨RX14, "done", "(I)I"⟩
abbrev cX14_granted : ByteArray := prog_14_method_6_code
def yX14_granted : MethodName := ⟨RX14, "granted", "()Z"⟩
abbrev cX14_in : ByteArray := prog_14_method_7_code
def yX14_in : MethodName := ⟨RX14, "in", "(III)Z"⟩
abbrev cX14_will : ByteArray := prog_14_method_8_code
def yX14_will : MethodName := ⟨RX14, "will", "()I"⟩
abbrev cX14_stop : ByteArray := prog_14_method_9_code
def yX14_stop : MethodName := ⟨RX14, "stop", "(I)LAlmsHouseModel$Stop;"⟩
abbrev cX14_byteAt : ByteArray := prog_14_method_10_code
def yX14_byteAt : MethodName := ⟨RX14, "byteAt", "(I)I"⟩
abbrev cX14_isLetter : ByteArray := prog_14_method_11_code
def yX14_isLetter : MethodName := ⟨RX14, "isLetter", "(I)Z"⟩
abbrev cX14_isDigit : ByteArray := prog_14_method_12_code
def yX14_isDigit : MethodName := ⟨RX14, "isDigit", "(I)Z"⟩
abbrev cX14_wordOf : ByteArray := prog_14_method_13_code
def yX14_wordOf : MethodName := ⟨RX14, "wordOf", "(Ljava/lang/String;)J"⟩
abbrev cX14_next : ByteArray := prog_14_method_14_code
def yX14_next : MethodName := ⟨RX14, "next", "()V"⟩
abbrev cX14_isWord : ByteArray := prog_14_method_15_code
def yX14_isWord : MethodName := ⟨RX14, "isWord", "(Ljava/lang/String;)Z"⟩
abbrev cX14_is : ByteArray := prog_14_method_16_code
def yX14_is : MethodName := ⟨RX14, "is", "(I)Z"⟩
abbrev cX14_nameHere : ByteArray := prog_14_method_17_code
def yX14_nameHere : MethodName := ⟨RX14, "nameHere", "()I"⟩
abbrev cX14_reads : ByteArray := prog_14_method_18_code
def yX14_reads : MethodName := ⟨RX14, "reads", "(LAlmsHouseModel$Scheme;)V"⟩
abbrev cX14_readAny : ByteArray := prog_14_method_19_code
def yX14_readAny : MethodName := ⟨RX14, "readAny", "(LAlmsHouseModel$Scheme;)V"⟩
abbrev cX14_readAll : ByteArray := prog_14_method_20_code
def yX14_readAll : MethodName := ⟨RX14, "readAll", "(LAlmsHouseModel$Scheme;)V"⟩
abbrev cX14_readOne : ByteArray := prog_14_method_21_code
def yX14_readOne : MethodName := ⟨RX14, "readOne", "(LAlmsHouseModel$Scheme;)V"⟩
abbrev cX14_readSum : ByteArray := prog_14_method_22_code
def yX14_readSum : MethodName := ⟨RX14, "readSum", "(LAlmsHouseModel$Scheme;I)V"⟩
abbrev cX14_feed : ByteArray := prog_14_method_23_code
def yX14_feed : MethodName := ⟨RX14, "feed", "(IIIII)I"⟩
abbrev cX14_isDay : ByteArray := prog_14_method_24_code
def yX14_isDay : MethodName := ⟨RX14, "isDay", "(I)Z"⟩
abbrev cX14_isWill : ByteArray := prog_14_method_25_code
def yX14_isWill : MethodName := ⟨RX14, "isWill", "(I)Z"⟩
abbrev cX14_scheme : ByteArray := prog_14_method_26_code
def yX14_scheme : MethodName := ⟨RX14, "scheme", "(III)I"⟩
abbrev cX14_fault : ByteArray := prog_14_method_27_code
def yX14_fault : MethodName := ⟨RX14, "fault", "()I"⟩
abbrev cX14_where : ByteArray := prog_14_method_28_code
def yX14_where : MethodName := ⟨RX14, "where", "()I"⟩
abbrev cX14_finds : ByteArray := prog_14_method_29_code
def yX14_finds : MethodName := ⟨RX14, "finds", "(III)Z"⟩
abbrev cX14_clause : ByteArray := prog_14_method_30_code
def yX14_clause : MethodName := ⟨RX14, "clause", "(III)I"⟩
abbrev cX14_clausesOf : ByteArray := prog_14_method_31_code
def yX14_clausesOf : MethodName := ⟨RX14, "clausesOf", "(II)I"⟩
abbrev cX14_clauses : ByteArray := prog_14_method_32_code
def yX14_clauses : MethodName := ⟨RX14, "clauses", "(II)I"⟩
abbrev cX14_isPerson : ByteArray := prog_14_method_33_code
def yX14_isPerson : MethodName := ⟨RX14, "isPerson", "(I)Z"⟩
abbrev cX14_person : ByteArray := prog_14_method_34_code
def yX14_person : MethodName := ⟨RX14, "person", "(IIZ)I"⟩
abbrev cX14_means : ByteArray := prog_14_method_35_code
def yX14_means : MethodName := ⟨RX14, "means", "(III)I"⟩
abbrev cX14_factOf : ByteArray := prog_14_method_36_code
def yX14_factOf : MethodName := ⟨RX14, "factOf", "(III)I"⟩
abbrev cX14_fact : ByteArray := prog_14_method_37_code
def yX14_fact : MethodName := ⟨RX14, "fact", "(III)I"⟩
abbrev cX14_holds : ByteArray := prog_14_method_38_code
def yX14_holds : MethodName := ⟨RX14, "holds", "(II)Z"⟩
abbrev cX14_barsOf : ByteArray := prog_14_method_39_code
def yX14_barsOf : MethodName := ⟨RX14, "barsOf", "(III)I"⟩
abbrev cX14_mayCome : ByteArray := prog_14_method_40_code
def yX14_mayCome : MethodName := ⟨RX14, "mayCome", "(III)Z"⟩
abbrev cX14_isAsked : ByteArray := prog_14_method_41_code
def yX14_isAsked : MethodName := ⟨RX14, "isAsked", "(III)Z"⟩
abbrev cX14_may : ByteArray := prog_14_method_42_code
def yX14_may : MethodName := ⟨RX14, "may", "(III)I"⟩
abbrev cX14_bars : ByteArray := prog_14_method_43_code
def yX14_bars : MethodName := ⟨RX14, "bars", "(III)I"⟩
abbrev cX14_orderOf : ByteArray := prog_14_method_44_code
def yX14_orderOf : MethodName := ⟨RX14, "orderOf", "(III)I"⟩
abbrev cX14_order : ByteArray := prog_14_method_45_code
def yX14_order : MethodName := ⟨RX14, "order", "(III)I"⟩
abbrev cX14_list : ByteArray := prog_14_method_46_code
def yX14_list : MethodName := ⟨RX14, "list", "(II)I"⟩
abbrev cX14_nextOf : ByteArray := prog_14_method_47_code
def yX14_nextOf : MethodName := ⟨RX14, "nextOf", "(II)I"⟩
abbrev cX14_next_ : ByteArray := prog_14_method_48_code
def yX14_next_ : MethodName := ⟨RX14, "next", "(II)I"⟩
abbrev cX14_room : ByteArray := prog_14_method_49_code
def yX14_room : MethodName := ⟨RX14, "room", "(I)I"⟩
abbrev cX14_trustee : ByteArray := prog_14_method_50_code
def yX14_trustee : MethodName := ⟨RX14, "trustee", "()I"⟩
abbrev cX14_away : ByteArray := prog_14_method_51_code
def yX14_away : MethodName := ⟨RX14, "away", "(IZ)Z"⟩
abbrev cX14_isRoom : ByteArray := prog_14_method_52_code
def yX14_isRoom : MethodName := ⟨RX14, "isRoom", "(I)Z"⟩
abbrev cX14_fill : ByteArray := prog_14_method_53_code
def yX14_fill : MethodName := ⟨RX14, "fill", "(I)I"⟩
abbrev cX14_ends : ByteArray := prog_14_method_54_code
def yX14_ends : MethodName := ⟨RX14, "ends", "(I)I"⟩
abbrev cX14_leave : ByteArray := prog_14_method_55_code
def yX14_leave : MethodName := ⟨RX14, "leave", "(I)I"⟩
abbrev cX14_dies : ByteArray := prog_14_method_56_code
def yX14_dies : MethodName := ⟨RX14, "dies", "(I)Z"⟩
abbrev cX14_roomOf : ByteArray := prog_14_method_57_code
def yX14_roomOf : MethodName := ⟨RX14, "roomOf", "(II)I"⟩
abbrev cX14_had : ByteArray := prog_14_method_58_code
def yX14_had : MethodName := ⟨RX14, "had", "(II)I"⟩
abbrev cX14_land : ByteArray := prog_14_method_59_code
def yX14_land : MethodName := ⟨RX14, "land", "(III)I"⟩
abbrev cX14_dole : ByteArray := prog_14_method_60_code
def yX14_dole : MethodName := ⟨RX14, "dole", "(I)Z"⟩
abbrev cX14_day : ByteArray := prog_14_method_61_code
def yX14_day : MethodName := ⟨RX14, "day", "()V"⟩
abbrev cX14_pass : ByteArray := prog_14_method_62_code
def yX14_pass : MethodName := ⟨RX14, "pass", "(I)I"⟩
abbrev cX14_owed : ByteArray := prog_14_method_63_code
def yX14_owed : MethodName := ⟨RX14, "owed", "(I)I"⟩
abbrev cX14_got : ByteArray := prog_14_method_64_code
def yX14_got : MethodName := ⟨RX14, "got", "(I)I"⟩
abbrev cX14_count : ByteArray := prog_14_method_65_code
def yX14_count : MethodName := ⟨RX14, "count", "(I)I"⟩
abbrev cX14_trouble : ByteArray := prog_14_method_66_code
def yX14_trouble : MethodName := ⟨RX14, "trouble", "()I"⟩
def RJx145de : String := "java/io/Serializable"
def TJx145de : u_T := fun k => match k with
  | _ => ("", "", "", false)
def tyJx145de : Nat → FieldType := fun k => match k with
  | _ => .int
abbrev wsJx145de0 : List Cond := u_ws RJx145de TJx145de 0
theorem nmJx145de : ∀ a, a < 0 → ∀ b, b < 0 → a ≠ b → (TJx145de a).2.1 ≠ (TJx145de b).2.1 := by decide +kernel
theorem tyJx145de_ok : ∀ k, k < 0 → parseFieldDescriptor (TJx145de k).2.2.1 = some (tyJx145de k) := by decide +kernel
def RJx9f9b0 : String := "java/lang/CharSequence"
def TJx9f9b0 : u_T := fun k => match k with
  | _ => ("", "", "", false)
def tyJx9f9b0 : Nat → FieldType := fun k => match k with
  | _ => .int
abbrev wsJx9f9b00 : List Cond := u_ws RJx9f9b0 TJx9f9b0 0
theorem nmJx9f9b0 : ∀ a, a < 0 → ∀ b, b < 0 → a ≠ b → (TJx9f9b0 a).2.1 ≠ (TJx9f9b0 b).2.1 := by decide +kernel
theorem tyJx9f9b0_ok : ∀ k, k < 0 → parseFieldDescriptor (TJx9f9b0 k).2.2.1 = some (tyJx9f9b0 k) := by decide +kernel
def RJx8e188 : String := "java/lang/Cloneable"
def TJx8e188 : u_T := fun k => match k with
  | _ => ("", "", "", false)
def tyJx8e188 : Nat → FieldType := fun k => match k with
  | _ => .int
abbrev wsJx8e1880 : List Cond := u_ws RJx8e188 TJx8e188 0
theorem nmJx8e188 : ∀ a, a < 0 → ∀ b, b < 0 → a ≠ b → (TJx8e188 a).2.1 ≠ (TJx8e188 b).2.1 := by decide +kernel
theorem tyJx8e188_ok : ∀ k, k < 0 → parseFieldDescriptor (TJx8e188 k).2.2.1 = some (tyJx8e188 k) := by decide +kernel
def RJxb160c : String := "java/lang/Comparable"
def TJxb160c : u_T := fun k => match k with
  | _ => ("", "", "", false)
def tyJxb160c : Nat → FieldType := fun k => match k with
  | _ => .int
abbrev wsJxb160c0 : List Cond := u_ws RJxb160c TJxb160c 0
theorem nmJxb160c : ∀ a, a < 0 → ∀ b, b < 0 → a ≠ b → (TJxb160c a).2.1 ≠ (TJxb160c b).2.1 := by decide +kernel
theorem tyJxb160c_ok : ∀ k, k < 0 → parseFieldDescriptor (TJxb160c k).2.2.1 = some (tyJxb160c k) := by decide +kernel
def RJxab1ab : String := "java/lang/Iterable"
def TJxab1ab : u_T := fun k => match k with
  | _ => ("", "", "", false)
def tyJxab1ab : Nat → FieldType := fun k => match k with
  | _ => .int
abbrev wsJxab1ab0 : List Cond := u_ws RJxab1ab TJxab1ab 0
theorem nmJxab1ab : ∀ a, a < 0 → ∀ b, b < 0 → a ≠ b → (TJxab1ab a).2.1 ≠ (TJxab1ab b).2.1 := by decide +kernel
theorem tyJxab1ab_ok : ∀ k, k < 0 → parseFieldDescriptor (TJxab1ab k).2.2.1 = some (tyJxab1ab k) := by decide +kernel
def RJ9 : String := "java/lang/Math"
def TJ9 : u_T := fun k => match k with
  | _ => ("", "", "", false)
def tyJ9 : Nat → FieldType := fun k => match k with
  | _ => .int
abbrev wsJ90 : List Cond := u_ws RJ9 TJ9 0
theorem nmJ9 : ∀ a, a < 0 → ∀ b, b < 0 → a ≠ b → (TJ9 a).2.1 ≠ (TJ9 b).2.1 := by decide +kernel
theorem tyJ9_ok : ∀ k, k < 0 → parseFieldDescriptor (TJ9 k).2.2.1 = some (tyJ9 k) := by decide +kernel
abbrev cJ9_max_7cf53 : ByteArray := prog_23_method_65_code
def yJ9_max_7cf53 : MethodName := ⟨RJ9, "max", "(II)I"⟩
abbrev cJ9_min_7cf53 : ByteArray := prog_23_method_69_code
def yJ9_min_7cf53 : MethodName := ⟨RJ9, "min", "(II)I"⟩
abbrev cJ9_min_f86c9 : ByteArray := prog_23_method_70_code
def yJ9_min_f86c9 : MethodName := ⟨RJ9, "min", "(JJ)J"⟩
def RJ0 : String := "java/lang/String"
def TJ0 : u_T := fun k => match k with
  | _ => ("", "", "", false)
def tyJ0 : Nat → FieldType := fun k => match k with
  | _ => .int
abbrev wsJ00 : List Cond := u_ws RJ0 TJ0 0
theorem nmJ0 : ∀ a, a < 0 → ∀ b, b < 0 → a ≠ b → (TJ0 a).2.1 ≠ (TJ0 b).2.1 := by decide +kernel
theorem tyJ0_ok : ∀ k, k < 0 → parseFieldDescriptor (TJ0 k).2.2.1 = some (tyJ0 k) := by decide +kernel
abbrev cJ0_length_8abf5 : ByteArray := prog_25_method_54_code
def yJ0_length_8abf5 : MethodName := ⟨RJ0, "length", "()I"⟩
abbrev cJ0_charAt_5068e : ByteArray := prog_25_method_56_code
def yJ0_charAt_5068e : MethodName := ⟨RJ0, "charAt", "(I)C"⟩
abbrev cJ0_coder_7d493 : ByteArray := prog_25_method_152_code
def yJ0_coder_7d493 : MethodName := ⟨RJ0, "coder", "()B"⟩
abbrev cJ0_isLatin1_aae02 : ByteArray := prog_25_method_154_code
def yJ0_isLatin1_aae02 : MethodName := ⟨RJ0, "isLatin1", "()Z"⟩
abbrev cJ0_checkIndex_df160 : ByteArray := prog_25_method_155_code
def yJ0_checkIndex_df160 : MethodName := ⟨RJ0, "checkIndex", "(II)V"⟩
def RJ1 : String := "java/lang/StringLatin1"
def TJ1 : u_T := fun k => match k with
  | _ => ("", "", "", false)
def tyJ1 : Nat → FieldType := fun k => match k with
  | _ => .int
abbrev wsJ10 : List Cond := u_ws RJ1 TJ1 0
theorem nmJ1 : ∀ a, a < 0 → ∀ b, b < 0 → a ≠ b → (TJ1 a).2.1 ≠ (TJ1 b).2.1 := by decide +kernel
theorem tyJ1_ok : ∀ k, k < 0 → parseFieldDescriptor (TJ1 k).2.2.1 = some (tyJ1 k) := by decide +kernel
abbrev cJ1_charAt_3b067 : ByteArray := prog_26_method_2_code
def yJ1_charAt_3b067 : MethodName := ⟨RJ1, "charAt", "([BI)C"⟩
def RJ2 : String := "java/lang/StringUTF16"
def TJ2 : u_T := fun k => match k with
  | _ => ("", "", "", false)
def tyJ2 : Nat → FieldType := fun k => match k with
  | _ => .int
abbrev wsJ20 : List Cond := u_ws RJ2 TJ2 0
theorem nmJ2 : ∀ a, a < 0 → ∀ b, b < 0 → a ≠ b → (TJ2 a).2.1 ≠ (TJ2 b).2.1 := by decide +kernel
theorem tyJ2_ok : ∀ k, k < 0 → parseFieldDescriptor (TJ2 k).2.2.1 = some (tyJ2 k) := by decide +kernel
abbrev cJ2_getChar_3b067 : ByteArray := prog_27_method_5_code
def yJ2_getChar_3b067 : MethodName := ⟨RJ2, "getChar", "([BI)C"⟩
abbrev cJ2_length_9d52b : ByteArray := prog_27_method_6_code
def yJ2_length_9d52b : MethodName := ⟨RJ2, "length", "([B)I"⟩
abbrev cJ2_charAt_3b067 : ByteArray := prog_27_method_83_code
def yJ2_charAt_3b067 : MethodName := ⟨RJ2, "charAt", "([BI)C"⟩
abbrev cJ2_checkIndex_2214a : ByteArray := prog_27_method_91_code
def yJ2_checkIndex_2214a : MethodName := ⟨RJ2, "checkIndex", "(I[B)V"⟩
def RJ10 : String := "java/lang/System"
def TJ10 : u_T := fun k => match k with
  | _ => ("", "", "", false)
def tyJ10 : Nat → FieldType := fun k => match k with
  | _ => .int
abbrev wsJ100 : List Cond := u_ws RJ10 TJ10 0
theorem nmJ10 : ∀ a, a < 0 → ∀ b, b < 0 → a ≠ b → (TJ10 a).2.1 ≠ (TJ10 b).2.1 := by decide +kernel
theorem tyJ10_ok : ∀ k, k < 0 → parseFieldDescriptor (TJ10 k).2.2.1 = some (tyJ10 k) := by decide +kernel
def RJxfd54e : String := "java/lang/constant/Constable"
def TJxfd54e : u_T := fun k => match k with
  | _ => ("", "", "", false)
def tyJxfd54e : Nat → FieldType := fun k => match k with
  | _ => .int
abbrev wsJxfd54e0 : List Cond := u_ws RJxfd54e TJxfd54e 0
theorem nmJxfd54e : ∀ a, a < 0 → ∀ b, b < 0 → a ≠ b → (TJxfd54e a).2.1 ≠ (TJxfd54e b).2.1 := by decide +kernel
theorem tyJxfd54e_ok : ∀ k, k < 0 → parseFieldDescriptor (TJxfd54e k).2.2.1 = some (tyJxfd54e k) := by decide +kernel
def RJx3cf43 : String := "java/lang/constant/ConstantDesc"
def TJx3cf43 : u_T := fun k => match k with
  | _ => ("", "", "", false)
def tyJx3cf43 : Nat → FieldType := fun k => match k with
  | _ => .int
abbrev wsJx3cf430 : List Cond := u_ws RJx3cf43 TJx3cf43 0
theorem nmJx3cf43 : ∀ a, a < 0 → ∀ b, b < 0 → a ≠ b → (TJx3cf43 a).2.1 ≠ (TJx3cf43 b).2.1 := by decide +kernel
theorem tyJx3cf43_ok : ∀ k, k < 0 → parseFieldDescriptor (TJx3cf43 k).2.2.1 = some (tyJx3cf43 k) := by decide +kernel
def RJxa1e45 : String := "java/util/AbstractCollection"
def TJxa1e45 : u_T := fun k => match k with
  | _ => ("", "", "", false)
def tyJxa1e45 : Nat → FieldType := fun k => match k with
  | _ => .int
abbrev wsJxa1e450 : List Cond := u_ws RJxa1e45 TJxa1e45 0
theorem nmJxa1e45 : ∀ a, a < 0 → ∀ b, b < 0 → a ≠ b → (TJxa1e45 a).2.1 ≠ (TJxa1e45 b).2.1 := by decide +kernel
theorem tyJxa1e45_ok : ∀ k, k < 0 → parseFieldDescriptor (TJxa1e45 k).2.2.1 = some (tyJxa1e45 k) := by decide +kernel
abbrev cJxa1e45_init_da8c8 : ByteArray := prog_32_method_1_code
def yJxa1e45_init_da8c8 : MethodName := ⟨RJxa1e45, "<init>", "()V"⟩
def RJxc12de : String := "java/util/AbstractList"
def TJxc12de : u_T := fun k => match k with
  | _ => ("", "", "", false)
def tyJxc12de : Nat → FieldType := fun k => match k with
  | _ => .int
abbrev wsJxc12de0 : List Cond := u_ws RJxc12de TJxc12de 0
theorem nmJxc12de : ∀ a, a < 0 → ∀ b, b < 0 → a ≠ b → (TJxc12de a).2.1 ≠ (TJxc12de b).2.1 := by decide +kernel
theorem tyJxc12de_ok : ∀ k, k < 0 → parseFieldDescriptor (TJxc12de k).2.2.1 = some (tyJxc12de k) := by decide +kernel
abbrev cJxc12de_init_da8c8 : ByteArray := prog_33_method_1_code
def yJxc12de_init_da8c8 : MethodName := ⟨RJxc12de, "<init>", "()V"⟩
def RJx4a65c : String := "java/util/ArrayList"
def TJx4a65c : u_T := fun k => match k with
  | 0 => ("java/util/AbstractList", "modCount", "I", false)
  | 1 => ("java/util/ArrayList", "elementData", "[Ljava/lang/Object;", false)
  | _ => ("java/util/ArrayList", "size", "I", false)
def tyJx4a65c : Nat → FieldType := fun k => match k with
  | 0 => .int
  | 1 => .array (.object "java/lang/Object")
  | _ => .int
abbrev wsJx4a65c0 : List Cond := u_ws RJx4a65c TJx4a65c 3
theorem nmJx4a65c : ∀ a, a < 3 → ∀ b, b < 3 → a ≠ b → (TJx4a65c a).2.1 ≠ (TJx4a65c b).2.1 := by decide +kernel
theorem tyJx4a65c_ok : ∀ k, k < 3 → parseFieldDescriptor (TJx4a65c k).2.2.1 = some (tyJx4a65c k) := by decide +kernel
abbrev cJx4a65c_init_da8c8 : ByteArray := prog_34_method_2_code
def yJx4a65c_init_da8c8 : MethodName := ⟨RJx4a65c, "<init>", "()V"⟩
abbrev cJx4a65c_grow_92f84 : ByteArray := prog_34_method_6_code
def yJx4a65c_grow_92f84 : MethodName := ⟨RJx4a65c, "grow", "(I)[Ljava/lang/Object;"⟩
abbrev cJx4a65c_grow_d5877 : ByteArray := prog_34_method_7_code
def yJx4a65c_grow_d5877 : MethodName := ⟨RJx4a65c, "grow", "()[Ljava/lang/Object;"⟩
abbrev cJx4a65c_size_8abf5 : ByteArray := prog_34_method_8_code
def yJx4a65c_size_8abf5 : MethodName := ⟨RJx4a65c, "size", "()I"⟩
abbrev cJx4a65c_elementData_915e3 : ByteArray := prog_34_method_18_code
def yJx4a65c_elementData_915e3 : MethodName := ⟨RJx4a65c, "elementData", "(I)Ljava/lang/Object;"⟩
abbrev cJx4a65c_get_915e3 : ByteArray := prog_34_method_20_code
def yJx4a65c_get_915e3 : MethodName := ⟨RJx4a65c, "get", "(I)Ljava/lang/Object;"⟩
abbrev cJx4a65c_add_72be8 : ByteArray := prog_34_method_24_code
def yJx4a65c_add_72be8 : MethodName := ⟨RJx4a65c, "add", "(Ljava/lang/Object;[Ljava/lang/Object;I)V"⟩
abbrev cJx4a65c_add_9ea2d : ByteArray := prog_34_method_25_code
def yJx4a65c_add_9ea2d : MethodName := ⟨RJx4a65c, "add", "(Ljava/lang/Object;)Z"⟩
def RJ7 : String := "java/util/Arrays"
def TJ7 : u_T := fun k => match k with
  | _ => ("", "", "", false)
def tyJ7 : Nat → FieldType := fun k => match k with
  | _ => .int
abbrev wsJ70 : List Cond := u_ws RJ7 TJ7 0
theorem nmJ7 : ∀ a, a < 0 → ∀ b, b < 0 → a ≠ b → (TJ7 a).2.1 ≠ (TJ7 b).2.1 := by decide +kernel
theorem tyJ7_ok : ∀ k, k < 0 → parseFieldDescriptor (TJ7 k).2.2.1 = some (tyJ7 k) := by decide +kernel
abbrev cJ7_copyOf_1904c : ByteArray := prog_35_method_119_code
def yJ7_copyOf_1904c : MethodName := ⟨RJ7, "copyOf", "([Ljava/lang/Object;I)[Ljava/lang/Object;"⟩
abbrev cJ7_copyOf_6403c : ByteArray := prog_35_method_120_code
def yJ7_copyOf_6403c : MethodName := ⟨RJ7, "copyOf", "([Ljava/lang/Object;ILjava/lang/Class;)[Ljava/lang/Object;"⟩
abbrev cJ7_checkLength_df160 : ByteArray := prog_35_method_131_code
def yJ7_checkLength_df160 : MethodName := ⟨RJ7, "checkLength", "(II)V"⟩
abbrev cJ7_copyOfRange_feecc : ByteArray := prog_35_method_136_code
def yJ7_copyOfRange_feecc : MethodName := ⟨RJ7, "copyOfRange", "([III)[I"⟩
abbrev cJ7_copyOfRangeInt_feecc : ByteArray := prog_35_method_137_code
def yJ7_copyOfRangeInt_feecc : MethodName := ⟨RJ7, "copyOfRangeInt", "([III)[I"⟩
def RJx5ef63 : String := "java/util/Collection"
def TJx5ef63 : u_T := fun k => match k with
  | _ => ("", "", "", false)
def tyJx5ef63 : Nat → FieldType := fun k => match k with
  | _ => .int
abbrev wsJx5ef630 : List Cond := u_ws RJx5ef63 TJx5ef63 0
theorem nmJx5ef63 : ∀ a, a < 0 → ∀ b, b < 0 → a ≠ b → (TJx5ef63 a).2.1 ≠ (TJx5ef63 b).2.1 := by decide +kernel
theorem tyJx5ef63_ok : ∀ k, k < 0 → parseFieldDescriptor (TJx5ef63 k).2.2.1 = some (tyJx5ef63 k) := by decide +kernel
def RJxbd725 : String := "java/util/List"
def TJxbd725 : u_T := fun k => match k with
  | _ => ("", "", "", false)
def tyJxbd725 : Nat → FieldType := fun k => match k with
  | _ => .int
abbrev wsJxbd7250 : List Cond := u_ws RJxbd725 TJxbd725 0
theorem nmJxbd725 : ∀ a, a < 0 → ∀ b, b < 0 → a ≠ b → (TJxbd725 a).2.1 ≠ (TJxbd725 b).2.1 := by decide +kernel
theorem tyJxbd725_ok : ∀ k, k < 0 → parseFieldDescriptor (TJxbd725 k).2.2.1 = some (tyJxbd725 k) := by decide +kernel
def RJ15 : String := "java/util/Objects"
def TJ15 : u_T := fun k => match k with
  | _ => ("", "", "", false)
def tyJ15 : Nat → FieldType := fun k => match k with
  | _ => .int
abbrev wsJ150 : List Cond := u_ws RJ15 TJ15 0
theorem nmJ15 : ∀ a, a < 0 → ∀ b, b < 0 → a ≠ b → (TJ15 a).2.1 ≠ (TJ15 b).2.1 := by decide +kernel
theorem tyJ15_ok : ∀ k, k < 0 → parseFieldDescriptor (TJ15 k).2.2.1 = some (tyJ15 k) := by decide +kernel
abbrev cJ15_checkIndex_7cf53 : ByteArray := prog_38_method_17_code
def yJ15_checkIndex_7cf53 : MethodName := ⟨RJ15, "checkIndex", "(II)I"⟩
def RJxf0a74 : String := "java/util/RandomAccess"
def TJxf0a74 : u_T := fun k => match k with
  | _ => ("", "", "", false)
def tyJxf0a74 : Nat → FieldType := fun k => match k with
  | _ => .int
abbrev wsJxf0a740 : List Cond := u_ws RJxf0a74 TJxf0a74 0
theorem nmJxf0a74 : ∀ a, a < 0 → ∀ b, b < 0 → a ≠ b → (TJxf0a74 a).2.1 ≠ (TJxf0a74 b).2.1 := by decide +kernel
theorem tyJxf0a74_ok : ∀ k, k < 0 → parseFieldDescriptor (TJxf0a74 k).2.2.1 = some (tyJxf0a74 k) := by decide +kernel
def RJxa66e6 : String := "java/util/SequencedCollection"
def TJxa66e6 : u_T := fun k => match k with
  | _ => ("", "", "", false)
def tyJxa66e6 : Nat → FieldType := fun k => match k with
  | _ => .int
abbrev wsJxa66e60 : List Cond := u_ws RJxa66e6 TJxa66e6 0
theorem nmJxa66e6 : ∀ a, a < 0 → ∀ b, b < 0 → a ≠ b → (TJxa66e6 a).2.1 ≠ (TJxa66e6 b).2.1 := by decide +kernel
theorem tyJxa66e6_ok : ∀ k, k < 0 → parseFieldDescriptor (TJxa66e6 k).2.2.1 = some (tyJxa66e6 k) := by decide +kernel
def RJ8 : String := "jdk/internal/util/ArraysSupport"
def TJ8 : u_T := fun k => match k with
  | _ => ("", "", "", false)
def tyJ8 : Nat → FieldType := fun k => match k with
  | _ => .int
abbrev wsJ80 : List Cond := u_ws RJ8 TJ8 0
theorem nmJ8 : ∀ a, a < 0 → ∀ b, b < 0 → a ≠ b → (TJ8 a).2.1 ≠ (TJ8 b).2.1 := by decide +kernel
theorem tyJ8_ok : ∀ k, k < 0 → parseFieldDescriptor (TJ8 k).2.2.1 = some (tyJ8 k) := by decide +kernel
abbrev cJ8_newLength_cabcc : ByteArray := prog_41_method_27_code
def yJ8_newLength_cabcc : MethodName := ⟨RJ8, "newLength", "(III)I"⟩
abbrev cJ8_hugeLength_7cf53 : ByteArray := prog_41_method_28_code
def yJ8_hugeLength_7cf53 : MethodName := ⟨RJ8, "hugeLength", "(II)I"⟩
def RJ3 : String := "jdk/internal/util/Preconditions"
def TJ3 : u_T := fun k => match k with
  | _ => ("", "", "", false)
def tyJ3 : Nat → FieldType := fun k => match k with
  | _ => .int
abbrev wsJ30 : List Cond := u_ws RJ3 TJ3 0
theorem nmJ3 : ∀ a, a < 0 → ∀ b, b < 0 → a ≠ b → (TJ3 a).2.1 ≠ (TJ3 b).2.1 := by decide +kernel
theorem tyJ3_ok : ∀ k, k < 0 → parseFieldDescriptor (TJ3 k).2.2.1 = some (tyJ3 k) := by decide +kernel
abbrev cJ3_checkIndex_8e157 : ByteArray := prog_42_method_11_code
def yJ3_checkIndex_8e157 : MethodName := ⟨RJ3, "checkIndex", "(IILjava/util/function/BiFunction;)I"⟩
def RL : String := "AlmsHouseLaw"
abbrev cL_law : ByteArray := code
def yL_law : MethodName := ⟨RL, "law", "([I)Z"⟩
abbrev vwCl : List vw_C := [(RJx4a65c, TJx4a65c, 3), (RX0, TX0, 6), (RX1, TX1, 2), (RX2, TX2, 3), (RX3, TX3, 11), (RX4, TX4, 14), (RX5, TX5, 3), (RX6, TX6, 1), (RX7, TX7, 4), (RX8, TX8, 7), (RX9, TX9, 3), (RX10, TX10, 4), (RX11, TX11, 17), (RX12, TX12, 14), (RX13, TX13, 8), (RX14, TX14, 55)]
