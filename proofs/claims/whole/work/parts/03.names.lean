def RX0 : String := "GemPits$Agreement"
def TX0 : u_T := fun k => match k with
  | 0 => ("GemPits$Agreement", "hundredths", "[I", true)
  | 1 => ("GemPits$Agreement", "costsFirst", "Z", false)
  | _ => ("GemPits$Agreement", "until", "I", false)
def tyX0 : Nat → FieldType := fun k => match k with
  | 0 => .array .int
  | 1 => .boolean
  | _ => .int
abbrev wsX00 : List Cond := u_ws RX0 TX0 3
theorem nmX0 : ∀ a, a < 3 → ∀ b, b < 3 → a ≠ b → (TX0 a).2.1 ≠ (TX0 b).2.1 := by decide +kernel
theorem tyX0_ok : ∀ k, k < 3 → parseFieldDescriptor (TX0 k).2.2.1 = some (tyX0 k) := by decide +kernel
abbrev cX0_init : ByteArray := prog_2_method_1_code
def yX0_init : MethodName := ⟨RX0, "<init>", "()V"⟩
abbrev cX0_readClause : ByteArray := prog_2_method_2_code
def yX0_readClause : MethodName := ⟨RX0, "readClause", "(LGemPits$Reader;)V"⟩
abbrev cX0_agrees : ByteArray := prog_2_method_3_code
def yX0_agrees : MethodName := ⟨RX0, "agrees", "()Z"⟩
abbrev cX0_partPrice : ByteArray := prog_2_method_4_code
def yX0_partPrice : MethodName := ⟨RX0, "partPrice", "(III[I)V"⟩
abbrev cX0_shareOf : ByteArray := prog_2_method_5_code
def yX0_shareOf : MethodName := ⟨RX0, "shareOf", "(II)I"⟩
def RX1 : String := "GemPits$Clauses"
def TX1 : u_T := fun k => match k with
  | _ => ("", "", "", false)
def tyX1 : Nat → FieldType := fun k => match k with
  | _ => .int
abbrev wsX10 : List Cond := u_ws RX1 TX1 0
theorem nmX1 : ∀ a, a < 0 → ∀ b, b < 0 → a ≠ b → (TX1 a).2.1 ≠ (TX1 b).2.1 := by decide +kernel
theorem tyX1_ok : ∀ k, k < 0 → parseFieldDescriptor (TX1 k).2.2.1 = some (tyX1 k) := by decide +kernel
abbrev cX1_init : ByteArray := prog_3_method_1_code
def yX1_init : MethodName := ⟨RX1, "<init>", "()V"⟩
abbrev cX1_readAll : ByteArray := prog_3_method_4_code
def yX1_readAll : MethodName := ⟨RX1, "readAll", "(LGemPits$Reader;)I"⟩
abbrev cX1_finish : ByteArray := prog_3_method_5_code
def yX1_finish : MethodName := ⟨RX1, "finish", "(LGemPits$Reader;)V"⟩
def RX2 : String := "GemPits$Ground"
def TX2 : u_T := fun k => match k with
  | 0 => ("GemPits$Ground", "pits", "Ljava/util/ArrayList;", true)
  | 1 => ("GemPits$Ground", "least", "[I", true)
  | 2 => ("GemPits$Ground", "greatest", "[I", true)
  | 3 => ("GemPits$Ground", "law", "LGemPits$Law;", false)
  | 4 => ("GemPits$Ground", "step", "I", false)
  | _ => ("GemPits$Ground", "today", "I", false)
def tyX2 : Nat → FieldType := fun k => match k with
  | 0 => .object "java/util/ArrayList"
  | 1 => .array .int
  | 2 => .array .int
  | 3 => .object "GemPits$Law"
  | 4 => .int
  | _ => .int
abbrev wsX20 : List Cond := u_ws RX2 TX2 6
theorem nmX2 : ∀ a, a < 6 → ∀ b, b < 6 → a ≠ b → (TX2 a).2.1 ≠ (TX2 b).2.1 := by decide +kernel
theorem tyX2_ok : ∀ k, k < 6 → parseFieldDescriptor (TX2 k).2.2.1 = some (tyX2 k) := by decide +kernel
abbrev cX2_init : ByteArray := prog_4_method_1_code
def yX2_init : MethodName := ⟨RX2, "<init>", "()V"⟩
abbrev cX2_lawNow : ByteArray := prog_4_method_2_code
def yX2_lawNow : MethodName := ⟨RX2, "lawNow", "()LGemPits$Law;"⟩
abbrev cX2_setLaw : ByteArray := prog_4_method_3_code
def yX2_setLaw : MethodName := ⟨RX2, "setLaw", "(LGemPits$Law;)V"⟩
abbrev cX2_setStep : ByteArray := prog_4_method_4_code
def yX2_setStep : MethodName := ⟨RX2, "setStep", "(I)V"⟩
abbrev cX2_today : ByteArray := prog_4_method_5_code
def yX2_today : MethodName := ⟨RX2, "today", "()I"⟩
abbrev cX2_passDays : ByteArray := prog_4_method_6_code
def yX2_passDays : MethodName := ⟨RX2, "passDays", "(I)V"⟩
abbrev cX2_pits : ByteArray := prog_4_method_7_code
def yX2_pits : MethodName := ⟨RX2, "pits", "()I"⟩
abbrev cX2_pitAt : ByteArray := prog_4_method_8_code
def yX2_pitAt : MethodName := ⟨RX2, "pitAt", "(I)LGemPits$Pit;"⟩
abbrev cX2_maySink : ByteArray := prog_4_method_9_code
def yX2_maySink : MethodName := ⟨RX2, "maySink", "(I)Z"⟩
abbrev cX2_sinkAt : ByteArray := prog_4_method_10_code
def yX2_sinkAt : MethodName := ⟨RX2, "sinkAt", "(I)I"⟩
abbrev cX2_tellFound : ByteArray := prog_4_method_11_code
def yX2_tellFound : MethodName := ⟨RX2, "tellFound", "(LGemPits$Pit;I)Z"⟩
abbrev cX2_leastAt : ByteArray := prog_4_method_12_code
def yX2_leastAt : MethodName := ⟨RX2, "leastAt", "(I)I"⟩
abbrev cX2_greatestAt : ByteArray := prog_4_method_13_code
def yX2_greatestAt : MethodName := ⟨RX2, "greatestAt", "(I)I"⟩
abbrev cX2_hasSpan : ByteArray := prog_4_method_14_code
def yX2_hasSpan : MethodName := ⟨RX2, "hasSpan", "(I)Z"⟩
abbrev cX2_bestSquare : ByteArray := prog_4_method_15_code
def yX2_bestSquare : MethodName := ⟨RX2, "bestSquare", "()I"⟩
abbrev cX2_squaresOfOneAmount : ByteArray := prog_4_method_16_code
def yX2_squaresOfOneAmount : MethodName := ⟨RX2, "squaresOfOneAmount", "()I"⟩
abbrev cX2_squaresWithoutSpan : ByteArray := prog_4_method_17_code
def yX2_squaresWithoutSpan : MethodName := ⟨RX2, "squaresWithoutSpan", "()I"⟩
abbrev cX2_openPits : ByteArray := prog_4_method_18_code
def yX2_openPits : MethodName := ⟨RX2, "openPits", "()I"⟩
abbrev cX2_bonds : ByteArray := prog_4_method_19_code
def yX2_bonds : MethodName := ⟨RX2, "bonds", "(I)I"⟩
abbrev cX2_narrowSpans : ByteArray := prog_4_method_20_code
def yX2_narrowSpans : MethodName := ⟨RX2, "narrowSpans", "(LGemPits$Pit;)V"⟩
abbrev cX2_stepsApart : ByteArray := prog_4_method_21_code
def yX2_stepsApart : MethodName := ⟨RX2, "stepsApart", "(II)I"⟩
def RX3 : String := "GemPits$Law"
def TX3 : u_T := fun k => match k with
  | 0 => ("GemPits$Law", "apart", "I", false)
  | 1 => ("GemPits$Law", "fillDays", "I", false)
  | _ => ("GemPits$Law", "bond", "I", false)
def tyX3 : Nat → FieldType := fun k => match k with
  | 0 => .int
  | 1 => .int
  | _ => .int
abbrev wsX30 : List Cond := u_ws RX3 TX3 3
theorem nmX3 : ∀ a, a < 3 → ∀ b, b < 3 → a ≠ b → (TX3 a).2.1 ≠ (TX3 b).2.1 := by decide +kernel
theorem tyX3_ok : ∀ k, k < 3 → parseFieldDescriptor (TX3 k).2.2.1 = some (tyX3 k) := by decide +kernel
abbrev cX3_init : ByteArray := prog_5_method_1_code
def yX3_init : MethodName := ⟨RX3, "<init>", "()V"⟩
abbrev cX3_copy : ByteArray := prog_5_method_2_code
def yX3_copy : MethodName := ⟨RX3, "copy", "()LGemPits$Law;"⟩
abbrev cX3_readClause : ByteArray := prog_5_method_3_code
def yX3_readClause : MethodName := ⟨RX3, "readClause", "(LGemPits$Reader;)V"⟩
abbrev cX3_agrees : ByteArray := prog_5_method_4_code
def yX3_agrees : MethodName := ⟨RX3, "agrees", "()Z"⟩
def RX4 : String := "GemPits$Market"
def TX4 : u_T := fun k => match k with
  | 0 => ("GemPits$Market", "stones", "Ljava/util/ArrayList;", true)
  | 1 => ("GemPits$Market", "had", "[I", true)
  | 2 => ("GemPits$Market", "agreement", "LGemPits$Agreement;", false)
  | 3 => ("GemPits$Market", "costs", "I", false)
  | _ => ("GemPits$Market", "sold", "I", false)
def tyX4 : Nat → FieldType := fun k => match k with
  | 0 => .object "java/util/ArrayList"
  | 1 => .array .int
  | 2 => .object "GemPits$Agreement"
  | 3 => .int
  | _ => .int
abbrev wsX40 : List Cond := u_ws RX4 TX4 5
theorem nmX4 : ∀ a, a < 5 → ∀ b, b < 5 → a ≠ b → (TX4 a).2.1 ≠ (TX4 b).2.1 := by decide +kernel
theorem tyX4_ok : ∀ k, k < 5 → parseFieldDescriptor (TX4 k).2.2.1 = some (tyX4 k) := by decide +kernel
abbrev cX4_init : ByteArray := prog_6_method_1_code
def yX4_init : MethodName := ⟨RX4, "<init>", "()V"⟩
abbrev cX4_setAgreement : ByteArray := prog_6_method_2_code
def yX4_setAgreement : MethodName := ⟨RX4, "setAgreement", "(LGemPits$Agreement;)V"⟩
abbrev cX4_stones : ByteArray := prog_6_method_3_code
def yX4_stones : MethodName := ⟨RX4, "stones", "()I"⟩
abbrev cX4_stoneAt : ByteArray := prog_6_method_4_code
def yX4_stoneAt : MethodName := ⟨RX4, "stoneAt", "(I)LGemPits$Stone;"⟩
abbrev cX4_addStone : ByteArray := prog_6_method_5_code
def yX4_addStone : MethodName := ⟨RX4, "addStone", "(II)I"⟩
abbrev cX4_sold : ByteArray := prog_6_method_6_code
def yX4_sold : MethodName := ⟨RX4, "sold", "()I"⟩
abbrev cX4_costs : ByteArray := prog_6_method_7_code
def yX4_costs : MethodName := ⟨RX4, "costs", "()I"⟩
abbrev cX4_layOut : ByteArray := prog_6_method_8_code
def yX4_layOut : MethodName := ⟨RX4, "layOut", "(I)V"⟩
abbrev cX4_hadBy : ByteArray := prog_6_method_9_code
def yX4_hadBy : MethodName := ⟨RX4, "hadBy", "(I)I"⟩
abbrev cX4_sellTo : ByteArray := prog_6_method_10_code
def yX4_sellTo : MethodName := ⟨RX4, "sellTo", "(LGemPits$Stone;I)V"⟩
def RX5 : String := "GemPits$Pit"
def TX5 : u_T := fun k => match k with
  | 0 => ("GemPits$Pit", "square", "I", true)
  | 1 => ("GemPits$Pit", "sunkOn", "I", true)
  | 2 => ("GemPits$Pit", "lastDay", "I", true)
  | 3 => ("GemPits$Pit", "bond", "I", true)
  | 4 => ("GemPits$Pit", "found", "I", false)
  | _ => ("GemPits$Pit", "filledOn", "I", false)
def tyX5 : Nat → FieldType := fun k => match k with
  | 0 => .int
  | 1 => .int
  | 2 => .int
  | 3 => .int
  | 4 => .int
  | _ => .int
abbrev wsX50 : List Cond := u_ws RX5 TX5 6
theorem nmX5 : ∀ a, a < 6 → ∀ b, b < 6 → a ≠ b → (TX5 a).2.1 ≠ (TX5 b).2.1 := by decide +kernel
theorem tyX5_ok : ∀ k, k < 6 → parseFieldDescriptor (TX5 k).2.2.1 = some (tyX5 k) := by decide +kernel
abbrev cX5_init : ByteArray := prog_7_method_1_code
def yX5_init : MethodName := ⟨RX5, "<init>", "(IILGemPits$Law;)V"⟩
abbrev cX5_isFilled : ByteArray := prog_7_method_2_code
def yX5_isFilled : MethodName := ⟨RX5, "isFilled", "()Z"⟩
abbrev cX5_fillOn : ByteArray := prog_7_method_3_code
def yX5_fillOn : MethodName := ⟨RX5, "fillOn", "(I)Z"⟩
abbrev cX5_bondState : ByteArray := prog_7_method_4_code
def yX5_bondState : MethodName := ⟨RX5, "bondState", "(I)I"⟩
def RX6 : String := "GemPits$Reader"
def TX6 : u_T := fun k => match k with
  | 0 => ("GemPits$Reader", "text", "LGemPits$Tape;", true)
  | 1 => ("GemPits$Reader", "at", "I", false)
  | _ => ("GemPits$Reader", "firstFault", "I", false)
def tyX6 : Nat → FieldType := fun k => match k with
  | 0 => .object "GemPits$Tape"
  | 1 => .int
  | _ => .int
abbrev wsX60 : List Cond := u_ws RX6 TX6 3
theorem nmX6 : ∀ a, a < 3 → ∀ b, b < 3 → a ≠ b → (TX6 a).2.1 ≠ (TX6 b).2.1 := by decide +kernel
theorem tyX6_ok : ∀ k, k < 3 → parseFieldDescriptor (TX6 k).2.2.1 = some (tyX6 k) := by decide +kernel
abbrev cX6_init : ByteArray := prog_8_method_1_code
def yX6_init : MethodName := ⟨RX6, "<init>", "(LGemPits$Tape;)V"⟩
abbrev cX6_firstFault : ByteArray := prog_8_method_2_code
def yX6_firstFault : MethodName := ⟨RX6, "firstFault", "()I"⟩
abbrev cX6_refuse : ByteArray := prog_8_method_3_code
def yX6_refuse : MethodName := ⟨RX6, "refuse", "()V"⟩
abbrev cX6_takeWord : ByteArray := prog_8_method_4_code
def yX6_takeWord : MethodName := ⟨RX6, "takeWord", "(Ljava/lang/String;)Z"⟩
abbrev cX6_expectWord : ByteArray := prog_8_method_5_code
def yX6_expectWord : MethodName := ⟨RX6, "expectWord", "(Ljava/lang/String;)V"⟩
abbrev cX6_expectNumber : ByteArray := prog_8_method_6_code
def yX6_expectNumber : MethodName := ⟨RX6, "expectNumber", "(II)I"⟩
abbrev cX6_takeSemicolon : ByteArray := prog_8_method_7_code
def yX6_takeSemicolon : MethodName := ⟨RX6, "takeSemicolon", "()Z"⟩
abbrev cX6_expectEnd : ByteArray := prog_8_method_8_code
def yX6_expectEnd : MethodName := ⟨RX6, "expectEnd", "()V"⟩
abbrev cX6_goOnFrom : ByteArray := prog_8_method_9_code
def yX6_goOnFrom : MethodName := ⟨RX6, "goOnFrom", "(I)V"⟩
abbrev cX6_isLetter : ByteArray := prog_8_method_10_code
def yX6_isLetter : MethodName := ⟨RX6, "isLetter", "(I)Z"⟩
abbrev cX6_isDigit : ByteArray := prog_8_method_11_code
def yX6_isDigit : MethodName := ⟨RX6, "isDigit", "(I)Z"⟩
def RX7 : String := "GemPits$Rough"
def TX7 : u_T := fun k => match k with
  | 0 => ("GemPits$Rough", "flawed", "[Z", true)
  | 1 => ("GemPits$Rough", "clear", "[Z", true)
  | 2 => ("GemPits$Rough", "worth", "[I", true)
  | 3 => ("GemPits$Rough", "fewest", "[I", true)
  | 4 => ("GemPits$Rough", "wide", "I", false)
  | 5 => ("GemPits$Rough", "high", "I", false)
  | _ => ("GemPits$Rough", "weighed", "Z", false)
def tyX7 : Nat → FieldType := fun k => match k with
  | 0 => .array .boolean
  | 1 => .array .boolean
  | 2 => .array .int
  | 3 => .array .int
  | 4 => .int
  | 5 => .int
  | _ => .boolean
abbrev wsX70 : List Cond := u_ws RX7 TX7 7
theorem nmX7 : ∀ a, a < 7 → ∀ b, b < 7 → a ≠ b → (TX7 a).2.1 ≠ (TX7 b).2.1 := by decide +kernel
theorem tyX7_ok : ∀ k, k < 7 → parseFieldDescriptor (TX7 k).2.2.1 = some (tyX7 k) := by decide +kernel
abbrev cX7_init : ByteArray := prog_9_method_1_code
def yX7_init : MethodName := ⟨RX7, "<init>", "()V"⟩
abbrev cX7_begin : ByteArray := prog_9_method_2_code
def yX7_begin : MethodName := ⟨RX7, "begin", "(II)V"⟩
abbrev cX7_hasCell : ByteArray := prog_9_method_3_code
def yX7_hasCell : MethodName := ⟨RX7, "hasCell", "(II)Z"⟩
abbrev cX7_setFlaw : ByteArray := prog_9_method_4_code
def yX7_setFlaw : MethodName := ⟨RX7, "setFlaw", "(IIZ)Z"⟩
abbrev cX7_greatestWorth : ByteArray := prog_9_method_5_code
def yX7_greatestWorth : MethodName := ⟨RX7, "greatestWorth", "()I"⟩
abbrev cX7_fewestCuts : ByteArray := prog_9_method_6_code
def yX7_fewestCuts : MethodName := ⟨RX7, "fewestCuts", "()I"⟩
abbrev cX7_weighAll : ByteArray := prog_9_method_7_code
def yX7_weighAll : MethodName := ⟨RX7, "weighAll", "()V"⟩
abbrev cX7_weigh : ByteArray := prog_9_method_8_code
def yX7_weigh : MethodName := ⟨RX7, "weigh", "(IIII)V"⟩
abbrev cX7_isClear : ByteArray := prog_9_method_9_code
def yX7_isClear : MethodName := ⟨RX7, "isClear", "(IIII)Z"⟩
abbrev cX7_tryCut : ByteArray := prog_9_method_10_code
def yX7_tryCut : MethodName := ⟨RX7, "tryCut", "(III)V"⟩
abbrev cX7_place : ByteArray := prog_9_method_11_code
def yX7_place : MethodName := ⟨RX7, "place", "(IIII)I"⟩
abbrev cX7_runOf : ByteArray := prog_9_method_12_code
def yX7_runOf : MethodName := ⟨RX7, "runOf", "(II)I"⟩
def RX8 : String := "GemPits$Stone"
def TX8 : u_T := fun k => match k with
  | 0 => ("GemPits$Stone", "pit", "I", true)
  | 1 => ("GemPits$Stone", "basket", "I", true)
  | 2 => ("GemPits$Stone", "hands", "[I", true)
  | 3 => ("GemPits$Stone", "shares", "[I", true)
  | 4 => ("GemPits$Stone", "buyer", "I", false)
  | _ => ("GemPits$Stone", "price", "I", false)
def tyX8 : Nat → FieldType := fun k => match k with
  | 0 => .int
  | 1 => .int
  | 2 => .array .int
  | 3 => .array .int
  | 4 => .int
  | _ => .int
abbrev wsX80 : List Cond := u_ws RX8 TX8 6
theorem nmX8 : ∀ a, a < 6 → ∀ b, b < 6 → a ≠ b → (TX8 a).2.1 ≠ (TX8 b).2.1 := by decide +kernel
theorem tyX8_ok : ∀ k, k < 6 → parseFieldDescriptor (TX8 k).2.2.1 = some (tyX8 k) := by decide +kernel
abbrev cX8_init : ByteArray := prog_10_method_1_code
def yX8_init : MethodName := ⟨RX8, "<init>", "(II)V"⟩
abbrev cX8_isSold : ByteArray := prog_10_method_2_code
def yX8_isSold : MethodName := ⟨RX8, "isSold", "()Z"⟩
abbrev cX8_takeHand : ByteArray := prog_10_method_3_code
def yX8_takeHand : MethodName := ⟨RX8, "takeHand", "(II)Z"⟩
abbrev cX8_buyerFor : ByteArray := prog_10_method_4_code
def yX8_buyerFor : MethodName := ⟨RX8, "buyerFor", "(I)I"⟩
def RX9 : String := "GemPits$Tape"
def TX9 : u_T := fun k => match k with
  | 0 => ("GemPits$Tape", "bytes", "[B", true)
  | _ => ("GemPits$Tape", "length", "I", false)
def tyX9 : Nat → FieldType := fun k => match k with
  | 0 => .array .byte
  | _ => .int
abbrev wsX90 : List Cond := u_ws RX9 TX9 2
theorem nmX9 : ∀ a, a < 2 → ∀ b, b < 2 → a ≠ b → (TX9 a).2.1 ≠ (TX9 b).2.1 := by decide +kernel
theorem tyX9_ok : ∀ k, k < 2 → parseFieldDescriptor (TX9 k).2.2.1 = some (tyX9 k) := by decide +kernel
abbrev cX9_init : ByteArray := prog_11_method_1_code
def yX9_init : MethodName := ⟨RX9, "<init>", "()V"⟩
abbrev cX9_length : ByteArray := prog_11_method_2_code
def yX9_length : MethodName := ⟨RX9, "length", "()I"⟩
abbrev cX9_hasRoom : ByteArray := prog_11_method_3_code
def yX9_hasRoom : MethodName := ⟨RX9, "hasRoom", "()Z"⟩
abbrev cX9_put : ByteArray := prog_11_method_4_code
def yX9_put : MethodName := ⟨RX9, "put", "(I)V"⟩
abbrev cX9_shorten : ByteArray := prog_11_method_5_code
def yX9_shorten : MethodName := ⟨RX9, "shorten", "(I)Z"⟩
abbrev cX9_byteAt : ByteArray := prog_11_method_6_code
def yX9_byteAt : MethodName := ⟨RX9, "byteAt", "(I)I"⟩
def RX10 : String := "GemPits"
def TX10 : u_T := fun k => match k with
  | 0 => ("GemPits", "tape", "LGemPits$Tape;", true)
  | 1 => ("GemPits", "ground", "LGemPits$Ground;", true)
  | 2 => ("GemPits", "market", "LGemPits$Market;", true)
  | 3 => ("GemPits", "gem", "LGemPits$Rough;", true)
  | _ => ("GemPits", "latestFault", "I", false)
def tyX10 : Nat → FieldType := fun k => match k with
  | 0 => .object "GemPits$Tape"
  | 1 => .object "GemPits$Ground"
  | 2 => .object "GemPits$Market"
  | 3 => .object "GemPits$Rough"
  | _ => .int
abbrev wsX100 : List Cond := u_ws RX10 TX10 5
theorem nmX10 : ∀ a, a < 5 → ∀ b, b < 5 → a ≠ b → (TX10 a).2.1 ≠ (TX10 b).2.1 := by decide +kernel
theorem tyX10_ok : ∀ k, k < 5 → parseFieldDescriptor (TX10 k).2.2.1 = some (tyX10 k) := by decide +kernel
abbrev cX10_init : ByteArray := prog_1_method_1_code
def yX10_init : MethodName := ⟨RX10, "<init>", "()V"⟩
abbrev cX10_feed : ByteArray := prog_1_method_2_code
def yX10_feed : MethodName := ⟨RX10, "feed", "(IIIII)I"⟩
abbrev cX10_end : ByteArray := prog_1_method_3_code
def yX10_end : MethodName := ⟨RX10, "end", "(I)Z"⟩
abbrev cX10_step : ByteArray := prog_1_method_4_code
def yX10_step : MethodName := ⟨RX10, "step", "(I)V"⟩
abbrev cX10_law : ByteArray := prog_1_method_5_code
def yX10_law : MethodName := ⟨RX10, "law", "()I"⟩
abbrev cX10_agreement : ByteArray := prog_1_method_6_code
def yX10_agreement : MethodName := ⟨RX10, "agreement", "()I"⟩
abbrev cX10_fault : ByteArray := prog_1_method_7_code
def yX10_fault : MethodName := ⟨RX10, "fault", "()I"⟩
abbrev cX10_sink : ByteArray := prog_1_method_8_code
def yX10_sink : MethodName := ⟨RX10, "sink", "(I)I"⟩
abbrev cX10_wash : ByteArray := prog_1_method_9_code
def yX10_wash : MethodName := ⟨RX10, "wash", "(II)Z"⟩
abbrev cX10_fill : ByteArray := prog_1_method_10_code
def yX10_fill : MethodName := ⟨RX10, "fill", "(I)Z"⟩
abbrev cX10_days : ByteArray := prog_1_method_11_code
def yX10_days : MethodName := ⟨RX10, "days", "(I)I"⟩
abbrev cX10_span : ByteArray := prog_1_method_12_code
def yX10_span : MethodName := ⟨RX10, "span", "(IZ)I"⟩
abbrev cX10_best : ByteArray := prog_1_method_13_code
def yX10_best : MethodName := ⟨RX10, "best", "()I"⟩
abbrev cX10_look : ByteArray := prog_1_method_14_code
def yX10_look : MethodName := ⟨RX10, "look", "(II)I"⟩
abbrev cX10_stone : ByteArray := prog_1_method_15_code
def yX10_stone : MethodName := ⟨RX10, "stone", "(II)I"⟩
abbrev cX10_lay : ByteArray := prog_1_method_16_code
def yX10_lay : MethodName := ⟨RX10, "lay", "(I)I"⟩
abbrev cX10_hand : ByteArray := prog_1_method_17_code
def yX10_hand : MethodName := ⟨RX10, "hand", "(III)Z"⟩
abbrev cX10_sell : ByteArray := prog_1_method_18_code
def yX10_sell : MethodName := ⟨RX10, "sell", "(II)I"⟩
abbrev cX10_part : ByteArray := prog_1_method_19_code
def yX10_part : MethodName := ⟨RX10, "part", "(II)I"⟩
abbrev cX10_rough : ByteArray := prog_1_method_20_code
def yX10_rough : MethodName := ⟨RX10, "rough", "(II)V"⟩
abbrev cX10_flaw : ByteArray := prog_1_method_21_code
def yX10_flaw : MethodName := ⟨RX10, "flaw", "(IIZ)Z"⟩
abbrev cX10_most : ByteArray := prog_1_method_22_code
def yX10_most : MethodName := ⟨RX10, "most", "()I"⟩
abbrev cX10_cuts : ByteArray := prog_1_method_23_code
def yX10_cuts : MethodName := ⟨RX10, "cuts", "()I"⟩
abbrev cX10_count : ByteArray := prog_1_method_24_code
def yX10_count : MethodName := ⟨RX10, "count", "(I)I"⟩
abbrev cX10_readTape : ByteArray := prog_1_method_25_code
def yX10_readTape : MethodName := ⟨RX10, "readTape", "(LGemPits$Clauses;)I"⟩
abbrev cX10_pitOf : ByteArray := prog_1_method_26_code
def yX10_pitOf : MethodName := ⟨RX10, "pitOf", "(I)LGemPits$Pit;"⟩
abbrev cX10_stoneOf : ByteArray := prog_1_method_27_code
def yX10_stoneOf : MethodName := ⟨RX10, "stoneOf", "(I)LGemPits$Stone;"⟩
abbrev cX10_checkSquare : ByteArray := prog_1_method_28_code
def yX10_checkSquare : MethodName := ⟨RX10, "checkSquare", "(I)V"⟩
abbrev cX10_checkMoney : ByteArray := prog_1_method_29_code
def yX10_checkMoney : MethodName := ⟨RX10, "checkMoney", "(I)V"⟩
def RX11 : String := "GemPitsModel"
def TX11 : u_T := fun k => match k with
  | 0 => ("GemPitsModel", "thrown", "I", false)
  | 1 => ("GemPitsModel", "today", "I", false)
  | 2 => ("GemPitsModel", "step", "I", false)
  | 3 => ("GemPitsModel", "square", "[I", true)
  | 4 => ("GemPitsModel", "sunk", "[I", true)
  | 5 => ("GemPitsModel", "found", "[I", true)
  | 6 => ("GemPitsModel", "filled", "[I", true)
  | 7 => ("GemPitsModel", "fillBy", "[I", true)
  | 8 => ("GemPitsModel", "bond", "[I", true)
  | 9 => ("GemPitsModel", "pits", "I", false)
  | 10 => ("GemPitsModel", "law", "[I", true)
  | 11 => ("GemPitsModel", "agreed", "[I", true)
  | 12 => ("GemPitsModel", "draft", "[I", true)
  | 13 => ("GemPitsModel", "isAgreed", "Z", false)
  | 14 => ("GemPitsModel", "tape", "[B", true)
  | 15 => ("GemPitsModel", "taped", "I", false)
  | 16 => ("GemPitsModel", "point", "I", false)
  | 17 => ("GemPitsModel", "end", "I", false)
  | 18 => ("GemPitsModel", "begin", "I", false)
  | 19 => ("GemPitsModel", "faultAt", "I", false)
  | 20 => ("GemPitsModel", "five", "[I", true)
  | 21 => ("GemPitsModel", "stone", "[I", true)
  | 22 => ("GemPitsModel", "hand", "[I", true)
  | 23 => ("GemPitsModel", "stones", "I", false)
  | 24 => ("GemPitsModel", "costs", "I", false)
  | 25 => ("GemPitsModel", "had", "[I", true)
  | 26 => ("GemPitsModel", "wide", "I", false)
  | 27 => ("GemPitsModel", "high", "I", false)
  | 28 => ("GemPitsModel", "isFlaw", "[Z", true)
  | 29 => ("GemPitsModel", "worth", "[I", true)
  | _ => ("GemPitsModel", "cuts", "[I", true)
def tyX11 : Nat → FieldType := fun k => match k with
  | 0 => .int
  | 1 => .int
  | 2 => .int
  | 3 => .array .int
  | 4 => .array .int
  | 5 => .array .int
  | 6 => .array .int
  | 7 => .array .int
  | 8 => .array .int
  | 9 => .int
  | 10 => .array .int
  | 11 => .array .int
  | 12 => .array .int
  | 13 => .boolean
  | 14 => .array .byte
  | 15 => .int
  | 16 => .int
  | 17 => .int
  | 18 => .int
  | 19 => .int
  | 20 => .array .int
  | 21 => .array .int
  | 22 => .array .int
  | 23 => .int
  | 24 => .int
  | 25 => .array .int
  | 26 => .int
  | 27 => .int
  | 28 => .array .boolean
  | 29 => .array .int
  | _ => .array .int
abbrev wsX110 : List Cond := u_ws RX11 TX11 31
theorem nmX11 : ∀ a, a < 31 → ∀ b, b < 31 → a ≠ b → (TX11 a).2.1 ≠ (TX11 b).2.1 := by decide +kernel
theorem tyX11_ok : ∀ k, k < 31 → parseFieldDescriptor (TX11 k).2.2.1 = some (tyX11 k) := by decide +kernel
abbrev cX11_init : ByteArray := prog_13_method_1_code
def yX11_init : MethodName := ⟨RX11, "<init>", "()V"⟩
abbrev cX11_thrown : ByteArray := prog_13_method_2_code
def yX11_thrown : MethodName := ⟨RX11, "thrown", "()I"⟩
abbrev cX11_throwsIf : ByteArray := prog_13_method_3_code
def yX11_throwsIf : MethodName := ⟨RX11, "throwsIf", "(ZI)Z"⟩
abbrev cX11_in : ByteArray := prog_13_method_4_code
def yX11_in : MethodName := ⟨RX11, "in", "(III)Z"⟩
abbrev cX11_noSquare : ByteArray := prog_13_method_5_code
def yX11_noSquare : MethodName := ⟨RX11, "noSquare", "(I)Z"⟩
abbrev cX11_noPit : ByteArray := prog_13_method_6_code
def yX11_noPit : MethodName := ⟨RX11, "noPit", "(I)Z"⟩
abbrev cX11_noStone : ByteArray := prog_13_method_7_code
def yX11_noStone : MethodName := ⟨RX11, "noStone", "(I)Z"⟩
abbrev cX11_feed : ByteArray := prog_13_method_8_code
def yX11_feed : MethodName := ⟨RX11, "feed", "(IIIII)I"⟩
abbrev cX11_end : ByteArray := prog_13_method_9_code
def yX11_end : MethodName := ⟨RX11, "end", "(I)Z"⟩
abbrev cX11_isAt : ByteArray := prog_13_method_10_code
def yX11_isAt : MethodName := ⟨RX11, "isAt", "(II)Z"⟩
abbrev cX11_blanks : ByteArray := prog_13_method_11_code
def yX11_blanks : MethodName := ⟨RX11, "blanks", "()V"⟩
abbrev cX11_word : ByteArray := prog_13_method_12_code
def yX11_word : MethodName := ⟨RX11, "word", "()V"⟩
abbrev cX11_isWord : ByteArray := prog_13_method_13_code
def yX11_isWord : MethodName := ⟨RX11, "isWord", "(Ljava/lang/String;)Z"⟩
abbrev cX11_number : ByteArray := prog_13_method_14_code
def yX11_number : MethodName := ⟨RX11, "number", "(III)Z"⟩
abbrev cX11_readTerm : ByteArray := prog_13_method_15_code
def yX11_readTerm : MethodName := ⟨RX11, "readTerm", "()Z"⟩
abbrev cX11_readPart : ByteArray := prog_13_method_16_code
def yX11_readPart : MethodName := ⟨RX11, "readPart", "()Z"⟩
abbrev cX11_readAll : ByteArray := prog_13_method_17_code
def yX11_readAll : MethodName := ⟨RX11, "readAll", "(Z)I"⟩
abbrev cX11_law : ByteArray := prog_13_method_18_code
def yX11_law : MethodName := ⟨RX11, "law", "()I"⟩
abbrev cX11_agreement : ByteArray := prog_13_method_19_code
def yX11_agreement : MethodName := ⟨RX11, "agreement", "()I"⟩
abbrev cX11_fault : ByteArray := prog_13_method_20_code
def yX11_fault : MethodName := ⟨RX11, "fault", "()I"⟩
abbrev cX11_step : ByteArray := prog_13_method_21_code
def yX11_step : MethodName := ⟨RX11, "step", "(I)V"⟩
abbrev cX11_apart : ByteArray := prog_13_method_22_code
def yX11_apart : MethodName := ⟨RX11, "apart", "(II)I"⟩
abbrev cX11_mayBeSunk : ByteArray := prog_13_method_23_code
def yX11_mayBeSunk : MethodName := ⟨RX11, "mayBeSunk", "(I)Z"⟩
abbrev cX11_sink : ByteArray := prog_13_method_24_code
def yX11_sink : MethodName := ⟨RX11, "sink", "(I)I"⟩
abbrev cX11_wash : ByteArray := prog_13_method_25_code
def yX11_wash : MethodName := ⟨RX11, "wash", "(II)Z"⟩
abbrev cX11_fill : ByteArray := prog_13_method_26_code
def yX11_fill : MethodName := ⟨RX11, "fill", "(I)Z"⟩
abbrev cX11_days : ByteArray := prog_13_method_27_code
def yX11_days : MethodName := ⟨RX11, "days", "(I)I"⟩
abbrev cX11_low : ByteArray := prog_13_method_28_code
def yX11_low : MethodName := ⟨RX11, "low", "(I)I"⟩
abbrev cX11_high : ByteArray := prog_13_method_29_code
def yX11_high : MethodName := ⟨RX11, "high", "(I)I"⟩
abbrev cX11_span : ByteArray := prog_13_method_30_code
def yX11_span : MethodName := ⟨RX11, "span", "(IZ)I"⟩
abbrev cX11_best : ByteArray := prog_13_method_31_code
def yX11_best : MethodName := ⟨RX11, "best", "()I"⟩
abbrev cX11_bondOf : ByteArray := prog_13_method_32_code
def yX11_bondOf : MethodName := ⟨RX11, "bondOf", "(I)I"⟩
abbrev cX11_look : ByteArray := prog_13_method_33_code
def yX11_look : MethodName := ⟨RX11, "look", "(II)I"⟩
abbrev cX11_stone : ByteArray := prog_13_method_34_code
def yX11_stone : MethodName := ⟨RX11, "stone", "(II)I"⟩
abbrev cX11_lay : ByteArray := prog_13_method_35_code
def yX11_lay : MethodName := ⟨RX11, "lay", "(I)I"⟩
abbrev cX11_hand : ByteArray := prog_13_method_36_code
def yX11_hand : MethodName := ⟨RX11, "hand", "(III)Z"⟩
abbrev cX11_parts : ByteArray := prog_13_method_37_code
def yX11_parts : MethodName := ⟨RX11, "parts", "(II)V"⟩
abbrev cX11_sell : ByteArray := prog_13_method_38_code
def yX11_sell : MethodName := ⟨RX11, "sell", "(II)I"⟩
abbrev cX11_part : ByteArray := prog_13_method_39_code
def yX11_part : MethodName := ⟨RX11, "part", "(II)I"⟩
abbrev cX11_rough : ByteArray := prog_13_method_40_code
def yX11_rough : MethodName := ⟨RX11, "rough", "(II)V"⟩
abbrev cX11_flaw : ByteArray := prog_13_method_41_code
def yX11_flaw : MethodName := ⟨RX11, "flaw", "(IIZ)Z"⟩
abbrev cX11_placeOf : ByteArray := prog_13_method_42_code
def yX11_placeOf : MethodName := ⟨RX11, "placeOf", "(IIII)I"⟩
abbrev cX11_isClear : ByteArray := prog_13_method_43_code
def yX11_isClear : MethodName := ⟨RX11, "isClear", "(IIII)Z"⟩
abbrev cX11_better : ByteArray := prog_13_method_44_code
def yX11_better : MethodName := ⟨RX11, "better", "(III)V"⟩
abbrev cX11_weighs : ByteArray := prog_13_method_45_code
def yX11_weighs : MethodName := ⟨RX11, "weighs", "()V"⟩
abbrev cX11_most : ByteArray := prog_13_method_46_code
def yX11_most : MethodName := ⟨RX11, "most", "()I"⟩
abbrev cX11_cuts : ByteArray := prog_13_method_47_code
def yX11_cuts : MethodName := ⟨RX11, "cuts", "()I"⟩
abbrev cX11_count : ByteArray := prog_13_method_48_code
def yX11_count : MethodName := ⟨RX11, "count", "(I)I"⟩
def RJx145de : String := "java/io/Serializable"
def TJx145de : u_T := fun k => match k with
  | _ => ("", "", "", false)
def tyJx145de : Nat → FieldType := fun k => match k with
  | _ => .int
abbrev wsJx145de0 : List Cond := u_ws RJx145de TJx145de 0
theorem nmJx145de : ∀ a, a < 0 → ∀ b, b < 0 → a ≠ b → (TJx145de a).2.1 ≠ (TJx145de b).2.1 := by decide +kernel
theorem tyJx145de_ok : ∀ k, k < 0 → parseFieldDescriptor (TJx145de k).2.2.1 = some (tyJx145de k) := by decide +kernel
def RJx9f9b0 : String := "java/lang/CharSequence"
def TJx9f9b0 : u_T := fun k => match k with
  | _ => ("", "", "", false)
def tyJx9f9b0 : Nat → FieldType := fun k => match k with
  | _ => .int
abbrev wsJx9f9b00 : List Cond := u_ws RJx9f9b0 TJx9f9b0 0
theorem nmJx9f9b0 : ∀ a, a < 0 → ∀ b, b < 0 → a ≠ b → (TJx9f9b0 a).2.1 ≠ (TJx9f9b0 b).2.1 := by decide +kernel
theorem tyJx9f9b0_ok : ∀ k, k < 0 → parseFieldDescriptor (TJx9f9b0 k).2.2.1 = some (tyJx9f9b0 k) := by decide +kernel
def RJx8e188 : String := "java/lang/Cloneable"
def TJx8e188 : u_T := fun k => match k with
  | _ => ("", "", "", false)
def tyJx8e188 : Nat → FieldType := fun k => match k with
  | _ => .int
abbrev wsJx8e1880 : List Cond := u_ws RJx8e188 TJx8e188 0
theorem nmJx8e188 : ∀ a, a < 0 → ∀ b, b < 0 → a ≠ b → (TJx8e188 a).2.1 ≠ (TJx8e188 b).2.1 := by decide +kernel
theorem tyJx8e188_ok : ∀ k, k < 0 → parseFieldDescriptor (TJx8e188 k).2.2.1 = some (tyJx8e188 k) := by decide +kernel
def RJxb160c : String := "java/lang/Comparable"
def TJxb160c : u_T := fun k => match k with
  | _ => ("", "", "", false)
def tyJxb160c : Nat → FieldType := fun k => match k with
  | _ => .int
abbrev wsJxb160c0 : List Cond := u_ws RJxb160c TJxb160c 0
theorem nmJxb160c : ∀ a, a < 0 → ∀ b, b < 0 → a ≠ b → (TJxb160c a).2.1 ≠ (TJxb160c b).2.1 := by decide +kernel
theorem tyJxb160c_ok : ∀ k, k < 0 → parseFieldDescriptor (TJxb160c k).2.2.1 = some (tyJxb160c k) := by decide +kernel
def RJxab1ab : String := "java/lang/Iterable"
def TJxab1ab : u_T := fun k => match k with
  | _ => ("", "", "", false)
def tyJxab1ab : Nat → FieldType := fun k => match k with
  | _ => .int
abbrev wsJxab1ab0 : List Cond := u_ws RJxab1ab TJxab1ab 0
theorem nmJxab1ab : ∀ a, a < 0 → ∀ b, b < 0 → a ≠ b → (TJxab1ab a).2.1 ≠ (TJxab1ab b).2.1 := by decide +kernel
theorem tyJxab1ab_ok : ∀ k, k < 0 → parseFieldDescriptor (TJxab1ab k).2.2.1 = some (tyJxab1ab k) := by decide +kernel
def RJ9 : String := "java/lang/Math"
def TJ9 : u_T := fun k => match k with
  | _ => ("", "", "", false)
def tyJ9 : Nat → FieldType := fun k => match k with
  | _ => .int
abbrev wsJ90 : List Cond := u_ws RJ9 TJ9 0
theorem nmJ9 : ∀ a, a < 0 → ∀ b, b < 0 → a ≠ b → (TJ9 a).2.1 ≠ (TJ9 b).2.1 := by decide +kernel
theorem tyJ9_ok : ∀ k, k < 0 → parseFieldDescriptor (TJ9 k).2.2.1 = some (tyJ9 k) := by decide +kernel
abbrev cJ9_abs_0f7a4 : ByteArray := prog_23_method_59_code
def yJ9_abs_0f7a4 : MethodName := ⟨RJ9, "abs", "(I)I"⟩
abbrev cJ9_max_7cf53 : ByteArray := prog_23_method_65_code
def yJ9_max_7cf53 : MethodName := ⟨RJ9, "max", "(II)I"⟩
abbrev cJ9_min_7cf53 : ByteArray := prog_23_method_69_code
def yJ9_min_7cf53 : MethodName := ⟨RJ9, "min", "(II)I"⟩
def RJ0 : String := "java/lang/String"
def TJ0 : u_T := fun k => match k with
  | _ => ("", "", "", false)
def tyJ0 : Nat → FieldType := fun k => match k with
  | _ => .int
abbrev wsJ00 : List Cond := u_ws RJ0 TJ0 0
theorem nmJ0 : ∀ a, a < 0 → ∀ b, b < 0 → a ≠ b → (TJ0 a).2.1 ≠ (TJ0 b).2.1 := by decide +kernel
theorem tyJ0_ok : ∀ k, k < 0 → parseFieldDescriptor (TJ0 k).2.2.1 = some (tyJ0 k) := by decide +kernel
abbrev cJ0_length_8abf5 : ByteArray := prog_25_method_54_code
def yJ0_length_8abf5 : MethodName := ⟨RJ0, "length", "()I"⟩
abbrev cJ0_charAt_5068e : ByteArray := prog_25_method_56_code
def yJ0_charAt_5068e : MethodName := ⟨RJ0, "charAt", "(I)C"⟩
abbrev cJ0_coder_7d493 : ByteArray := prog_25_method_152_code
def yJ0_coder_7d493 : MethodName := ⟨RJ0, "coder", "()B"⟩
abbrev cJ0_isLatin1_aae02 : ByteArray := prog_25_method_154_code
def yJ0_isLatin1_aae02 : MethodName := ⟨RJ0, "isLatin1", "()Z"⟩
abbrev cJ0_checkIndex_df160 : ByteArray := prog_25_method_155_code
def yJ0_checkIndex_df160 : MethodName := ⟨RJ0, "checkIndex", "(II)V"⟩
def RJ1 : String := "java/lang/StringLatin1"
def TJ1 : u_T := fun k => match k with
  | _ => ("", "", "", false)
def tyJ1 : Nat → FieldType := fun k => match k with
  | _ => .int
abbrev wsJ10 : List Cond := u_ws RJ1 TJ1 0
theorem nmJ1 : ∀ a, a < 0 → ∀ b, b < 0 → a ≠ b → (TJ1 a).2.1 ≠ (TJ1 b).2.1 := by decide +kernel
theorem tyJ1_ok : ∀ k, k < 0 → parseFieldDescriptor (TJ1 k).2.2.1 = some (tyJ1 k) := by decide +kernel
abbrev cJ1_charAt_3b067 : ByteArray := prog_26_method_2_code
def yJ1_charAt_3b067 : MethodName := ⟨RJ1, "charAt", "([BI)C"⟩
def RJ2 : String := "java/lang/StringUTF16"
def TJ2 : u_T := fun k => match k with
  | _ => ("", "", "", false)
def tyJ2 : Nat → FieldType := fun k => match k with
  | _ => .int
abbrev wsJ20 : List Cond := u_ws RJ2 TJ2 0
theorem nmJ2 : ∀ a, a < 0 → ∀ b, b < 0 → a ≠ b → (TJ2 a).2.1 ≠ (TJ2 b).2.1 := by decide +kernel
theorem tyJ2_ok : ∀ k, k < 0 → parseFieldDescriptor (TJ2 k).2.2.1 = some (tyJ2 k) := by decide +kernel
abbrev cJ2_getChar_3b067 : ByteArray := prog_27_method_5_code
def yJ2_getChar_3b067 : MethodName := ⟨RJ2, "getChar", "([BI)C"⟩
abbrev cJ2_length_9d52b : ByteArray := prog_27_method_6_code
def yJ2_length_9d52b : MethodName := ⟨RJ2, "length", "([B)I"⟩
abbrev cJ2_charAt_3b067 : ByteArray := prog_27_method_83_code
def yJ2_charAt_3b067 : MethodName := ⟨RJ2, "charAt", "([BI)C"⟩
abbrev cJ2_checkIndex_2214a : ByteArray := prog_27_method_91_code
def yJ2_checkIndex_2214a : MethodName := ⟨RJ2, "checkIndex", "(I[B)V"⟩
def RJ10 : String := "java/lang/System"
def TJ10 : u_T := fun k => match k with
  | _ => ("", "", "", false)
def tyJ10 : Nat → FieldType := fun k => match k with
  | _ => .int
abbrev wsJ100 : List Cond := u_ws RJ10 TJ10 0
theorem nmJ10 : ∀ a, a < 0 → ∀ b, b < 0 → a ≠ b → (TJ10 a).2.1 ≠ (TJ10 b).2.1 := by decide +kernel
theorem tyJ10_ok : ∀ k, k < 0 → parseFieldDescriptor (TJ10 k).2.2.1 = some (tyJ10 k) := by decide +kernel
def RJxfd54e : String := "java/lang/constant/Constable"
def TJxfd54e : u_T := fun k => match k with
  | _ => ("", "", "", false)
def tyJxfd54e : Nat → FieldType := fun k => match k with
  | _ => .int
abbrev wsJxfd54e0 : List Cond := u_ws RJxfd54e TJxfd54e 0
theorem nmJxfd54e : ∀ a, a < 0 → ∀ b, b < 0 → a ≠ b → (TJxfd54e a).2.1 ≠ (TJxfd54e b).2.1 := by decide +kernel
theorem tyJxfd54e_ok : ∀ k, k < 0 → parseFieldDescriptor (TJxfd54e k).2.2.1 = some (tyJxfd54e k) := by decide +kernel
def RJx3cf43 : String := "java/lang/constant/ConstantDesc"
def TJx3cf43 : u_T := fun k => match k with
  | _ => ("", "", "", false)
def tyJx3cf43 : Nat → FieldType := fun k => match k with
  | _ => .int
abbrev wsJx3cf430 : List Cond := u_ws RJx3cf43 TJx3cf43 0
theorem nmJx3cf43 : ∀ a, a < 0 → ∀ b, b < 0 → a ≠ b → (TJx3cf43 a).2.1 ≠ (TJx3cf43 b).2.1 := by decide +kernel
theorem tyJx3cf43_ok : ∀ k, k < 0 → parseFieldDescriptor (TJx3cf43 k).2.2.1 = some (tyJx3cf43 k) := by decide +kernel
def RJxa1e45 : String := "java/util/AbstractCollection"
def TJxa1e45 : u_T := fun k => match k with
  | _ => ("", "", "", false)
def tyJxa1e45 : Nat → FieldType := fun k => match k with
  | _ => .int
abbrev wsJxa1e450 : List Cond := u_ws RJxa1e45 TJxa1e45 0
theorem nmJxa1e45 : ∀ a, a < 0 → ∀ b, b < 0 → a ≠ b → (TJxa1e45 a).2.1 ≠ (TJxa1e45 b).2.1 := by decide +kernel
theorem tyJxa1e45_ok : ∀ k, k < 0 → parseFieldDescriptor (TJxa1e45 k).2.2.1 = some (tyJxa1e45 k) := by decide +kernel
abbrev cJxa1e45_init_da8c8 : ByteArray := prog_33_method_1_code
def yJxa1e45_init_da8c8 : MethodName := ⟨RJxa1e45, "<init>", "()V"⟩
def RJxc12de : String := "java/util/AbstractList"
def TJxc12de : u_T := fun k => match k with
  | _ => ("", "", "", false)
def tyJxc12de : Nat → FieldType := fun k => match k with
  | _ => .int
abbrev wsJxc12de0 : List Cond := u_ws RJxc12de TJxc12de 0
theorem nmJxc12de : ∀ a, a < 0 → ∀ b, b < 0 → a ≠ b → (TJxc12de a).2.1 ≠ (TJxc12de b).2.1 := by decide +kernel
theorem tyJxc12de_ok : ∀ k, k < 0 → parseFieldDescriptor (TJxc12de k).2.2.1 = some (tyJxc12de k) := by decide +kernel
abbrev cJxc12de_init_da8c8 : ByteArray := prog_34_method_1_code
def yJxc12de_init_da8c8 : MethodName := ⟨RJxc12de, "<init>", "()V"⟩
def RJx4a65c : String := "java/util/ArrayList"
def TJx4a65c : u_T := fun k => match k with
  | 0 => ("java/util/AbstractList", "modCount", "I", false)
  | 1 => ("java/util/ArrayList", "elementData", "[Ljava/lang/Object;", false)
  | _ => ("java/util/ArrayList", "size", "I", false)
def tyJx4a65c : Nat → FieldType := fun k => match k with
  | 0 => .int
  | 1 => .array (.object "java/lang/Object")
  | _ => .int
abbrev wsJx4a65c0 : List Cond := u_ws RJx4a65c TJx4a65c 3
theorem nmJx4a65c : ∀ a, a < 3 → ∀ b, b < 3 → a ≠ b → (TJx4a65c a).2.1 ≠ (TJx4a65c b).2.1 := by decide +kernel
theorem tyJx4a65c_ok : ∀ k, k < 3 → parseFieldDescriptor (TJx4a65c k).2.2.1 = some (tyJx4a65c k) := by decide +kernel
abbrev cJx4a65c_init_da8c8 : ByteArray := prog_35_method_2_code
def yJx4a65c_init_da8c8 : MethodName := ⟨RJx4a65c, "<init>", "()V"⟩
abbrev cJx4a65c_grow_92f84 : ByteArray := prog_35_method_6_code
def yJx4a65c_grow_92f84 : MethodName := ⟨RJx4a65c, "grow", "(I)[Ljava/lang/Object;"⟩
abbrev cJx4a65c_grow_d5877 : ByteArray := prog_35_method_7_code
def yJx4a65c_grow_d5877 : MethodName := ⟨RJx4a65c, "grow", "()[Ljava/lang/Object;"⟩
abbrev cJx4a65c_size_8abf5 : ByteArray := prog_35_method_8_code
def yJx4a65c_size_8abf5 : MethodName := ⟨RJx4a65c, "size", "()I"⟩
abbrev cJx4a65c_elementData_915e3 : ByteArray := prog_35_method_18_code
def yJx4a65c_elementData_915e3 : MethodName := ⟨RJx4a65c, "elementData", "(I)Ljava/lang/Object;"⟩
abbrev cJx4a65c_get_915e3 : ByteArray := prog_35_method_20_code
def yJx4a65c_get_915e3 : MethodName := ⟨RJx4a65c, "get", "(I)Ljava/lang/Object;"⟩
abbrev cJx4a65c_add_72be8 : ByteArray := prog_35_method_24_code
def yJx4a65c_add_72be8 : MethodName := ⟨RJx4a65c, "add", "(Ljava/lang/Object;[Ljava/lang/Object;I)V"⟩
abbrev cJx4a65c_add_9ea2d : ByteArray := prog_35_method_25_code
def yJx4a65c_add_9ea2d : MethodName := ⟨RJx4a65c, "add", "(Ljava/lang/Object;)Z"⟩
def RJ7 : String := "java/util/Arrays"
def TJ7 : u_T := fun k => match k with
  | _ => ("", "", "", false)
def tyJ7 : Nat → FieldType := fun k => match k with
  | _ => .int
abbrev wsJ70 : List Cond := u_ws RJ7 TJ7 0
theorem nmJ7 : ∀ a, a < 0 → ∀ b, b < 0 → a ≠ b → (TJ7 a).2.1 ≠ (TJ7 b).2.1 := by decide +kernel
theorem tyJ7_ok : ∀ k, k < 0 → parseFieldDescriptor (TJ7 k).2.2.1 = some (tyJ7 k) := by decide +kernel
abbrev cJ7_fill_53178 : ByteArray := prog_36_method_103_code
def yJ7_fill_53178 : MethodName := ⟨RJ7, "fill", "([II)V"⟩
abbrev cJ7_copyOf_1904c : ByteArray := prog_36_method_119_code
def yJ7_copyOf_1904c : MethodName := ⟨RJ7, "copyOf", "([Ljava/lang/Object;I)[Ljava/lang/Object;"⟩
abbrev cJ7_copyOf_6403c : ByteArray := prog_36_method_120_code
def yJ7_copyOf_6403c : MethodName := ⟨RJ7, "copyOf", "([Ljava/lang/Object;ILjava/lang/Class;)[Ljava/lang/Object;"⟩
def RJx5ef63 : String := "java/util/Collection"
def TJx5ef63 : u_T := fun k => match k with
  | _ => ("", "", "", false)
def tyJx5ef63 : Nat → FieldType := fun k => match k with
  | _ => .int
abbrev wsJx5ef630 : List Cond := u_ws RJx5ef63 TJx5ef63 0
theorem nmJx5ef63 : ∀ a, a < 0 → ∀ b, b < 0 → a ≠ b → (TJx5ef63 a).2.1 ≠ (TJx5ef63 b).2.1 := by decide +kernel
theorem tyJx5ef63_ok : ∀ k, k < 0 → parseFieldDescriptor (TJx5ef63 k).2.2.1 = some (tyJx5ef63 k) := by decide +kernel
def RJxbd725 : String := "java/util/List"
def TJxbd725 : u_T := fun k => match k with
  | _ => ("", "", "", false)
def tyJxbd725 : Nat → FieldType := fun k => match k with
  | _ => .int
abbrev wsJxbd7250 : List Cond := u_ws RJxbd725 TJxbd725 0
theorem nmJxbd725 : ∀ a, a < 0 → ∀ b, b < 0 → a ≠ b → (TJxbd725 a).2.1 ≠ (TJxbd725 b).2.1 := by decide +kernel
theorem tyJxbd725_ok : ∀ k, k < 0 → parseFieldDescriptor (TJxbd725 k).2.2.1 = some (tyJxbd725 k) := by decide +kernel
def RJ15 : String := "java/util/Objects"
def TJ15 : u_T := fun k => match k with
  | _ => ("", "", "", false)
def tyJ15 : Nat → FieldType := fun k => match k with
  | _ => .int
abbrev wsJ150 : List Cond := u_ws RJ15 TJ15 0
theorem nmJ15 : ∀ a, a < 0 → ∀ b, b < 0 → a ≠ b → (TJ15 a).2.1 ≠ (TJ15 b).2.1 := by decide +kernel
theorem tyJ15_ok : ∀ k, k < 0 → parseFieldDescriptor (TJ15 k).2.2.1 = some (tyJ15 k) := by decide +kernel
abbrev cJ15_checkIndex_7cf53 : ByteArray := prog_40_method_17_code
def yJ15_checkIndex_7cf53 : MethodName := ⟨RJ15, "checkIndex", "(II)I"⟩
def RJxf0a74 : String := "java/util/RandomAccess"
def TJxf0a74 : u_T := fun k => match k with
  | _ => ("", "", "", false)
def tyJxf0a74 : Nat → FieldType := fun k => match k with
  | _ => .int
abbrev wsJxf0a740 : List Cond := u_ws RJxf0a74 TJxf0a74 0
theorem nmJxf0a74 : ∀ a, a < 0 → ∀ b, b < 0 → a ≠ b → (TJxf0a74 a).2.1 ≠ (TJxf0a74 b).2.1 := by decide +kernel
theorem tyJxf0a74_ok : ∀ k, k < 0 → parseFieldDescriptor (TJxf0a74 k).2.2.1 = some (tyJxf0a74 k) := by decide +kernel
def RJxa66e6 : String := "java/util/SequencedCollection"
def TJxa66e6 : u_T := fun k => match k with
  | _ => ("", "", "", false)
def tyJxa66e6 : Nat → FieldType := fun k => match k with
  | _ => .int
abbrev wsJxa66e60 : List Cond := u_ws RJxa66e6 TJxa66e6 0
theorem nmJxa66e6 : ∀ a, a < 0 → ∀ b, b < 0 → a ≠ b → (TJxa66e6 a).2.1 ≠ (TJxa66e6 b).2.1 := by decide +kernel
theorem tyJxa66e6_ok : ∀ k, k < 0 → parseFieldDescriptor (TJxa66e6 k).2.2.1 = some (tyJxa66e6 k) := by decide +kernel
def RJ8 : String := "jdk/internal/util/ArraysSupport"
def TJ8 : u_T := fun k => match k with
  | _ => ("", "", "", false)
def tyJ8 : Nat → FieldType := fun k => match k with
  | _ => .int
abbrev wsJ80 : List Cond := u_ws RJ8 TJ8 0
theorem nmJ8 : ∀ a, a < 0 → ∀ b, b < 0 → a ≠ b → (TJ8 a).2.1 ≠ (TJ8 b).2.1 := by decide +kernel
theorem tyJ8_ok : ∀ k, k < 0 → parseFieldDescriptor (TJ8 k).2.2.1 = some (tyJ8 k) := by decide +kernel
abbrev cJ8_newLength_cabcc : ByteArray := prog_43_method_27_code
def yJ8_newLength_cabcc : MethodName := ⟨RJ8, "newLength", "(III)I"⟩
abbrev cJ8_hugeLength_7cf53 : ByteArray := prog_43_method_28_code
def yJ8_hugeLength_7cf53 : MethodName := ⟨RJ8, "hugeLength", "(II)I"⟩
def RJ3 : String := "jdk/internal/util/Preconditions"
def TJ3 : u_T := fun k => match k with
  | _ => ("", "", "", false)
def tyJ3 : Nat → FieldType := fun k => match k with
  | _ => .int
abbrev wsJ30 : List Cond := u_ws RJ3 TJ3 0
theorem nmJ3 : ∀ a, a < 0 → ∀ b, b < 0 → a ≠ b → (TJ3 a).2.1 ≠ (TJ3 b).2.1 := by decide +kernel
theorem tyJ3_ok : ∀ k, k < 0 → parseFieldDescriptor (TJ3 k).2.2.1 = some (tyJ3 k) := by decide +kernel
abbrev cJ3_checkIndex_8e157 : ByteArray := prog_44_method_11_code
def yJ3_checkIndex_8e157 : MethodName := ⟨RJ3, "checkIndex", "(IILjava/util/function/BiFunction;)I"⟩
def RL : String := "GemPitsLaw"
abbrev cL_step : ByteArray := method_3_code
def yL_step : MethodName := ⟨RL, "step", "(LGemPits;I)I"⟩
abbrev cL_law : ByteArray := method_4_code
def yL_law : MethodName := ⟨RL, "law", "(LGemPits;[J)I"⟩
abbrev cL_agreement : ByteArray := method_5_code
def yL_agreement : MethodName := ⟨RL, "agreement", "(LGemPits;[J)I"⟩
abbrev cL_sink : ByteArray := method_6_code
def yL_sink : MethodName := ⟨RL, "sink", "(LGemPits;I[J)I"⟩
abbrev cL_wash : ByteArray := method_7_code
def yL_wash : MethodName := ⟨RL, "wash", "(LGemPits;II[J)I"⟩
abbrev cL_fill : ByteArray := method_8_code
def yL_fill : MethodName := ⟨RL, "fill", "(LGemPits;I[J)I"⟩
abbrev cL_days : ByteArray := method_9_code
def yL_days : MethodName := ⟨RL, "days", "(LGemPits;I[J)I"⟩
abbrev cL_span : ByteArray := method_10_code
def yL_span : MethodName := ⟨RL, "span", "(LGemPits;IZ[J)I"⟩
abbrev cL_look : ByteArray := method_11_code
def yL_look : MethodName := ⟨RL, "look", "(LGemPits;II[J)I"⟩
abbrev cL_stone : ByteArray := method_12_code
def yL_stone : MethodName := ⟨RL, "stone", "(LGemPits;II[J)I"⟩
abbrev cL_lay : ByteArray := method_13_code
def yL_lay : MethodName := ⟨RL, "lay", "(LGemPits;I[J)I"⟩
abbrev cL_hand : ByteArray := method_14_code
def yL_hand : MethodName := ⟨RL, "hand", "(LGemPits;III[J)I"⟩
abbrev cL_sell : ByteArray := method_15_code
def yL_sell : MethodName := ⟨RL, "sell", "(LGemPits;II[J)I"⟩
abbrev cL_part : ByteArray := method_16_code
def yL_part : MethodName := ⟨RL, "part", "(LGemPits;II[J)I"⟩
abbrev cL_rough : ByteArray := method_17_code
def yL_rough : MethodName := ⟨RL, "rough", "(LGemPits;II)I"⟩
abbrev cL_flaw : ByteArray := method_18_code
def yL_flaw : MethodName := ⟨RL, "flaw", "(LGemPits;IIZ[J)I"⟩
abbrev cL_law_ : ByteArray := code
def yL_law_ : MethodName := ⟨RL, "law", "([I)Z"⟩
abbrev vwCl : List vw_C := [(RJx4a65c, TJx4a65c, 3), (RX0, TX0, 3), (RX2, TX2, 6), (RX3, TX3, 3), (RX4, TX4, 5), (RX5, TX5, 6), (RX6, TX6, 3), (RX7, TX7, 7), (RX8, TX8, 6), (RX9, TX9, 2), (RX10, TX10, 5), (RX11, TX11, 31)]
