def RX0 : String := "OwnedByGuests$Choices"
def TX0 : u_T := fun k => match k with
  | 0 => ("OwnedByGuests$Choices", "chosen", "[I", true)
  | 1 => ("OwnedByGuests$Choices", "most", "[I", true)
  | _ => ("OwnedByGuests$Choices", "size", "I", false)
def tyX0 : Nat → FieldType := fun k => match k with
  | 0 => .array .int
  | 1 => .array .int
  | _ => .int
theorem nmX0 : ∀ a, a < 3 → ∀ b, b < 3 → a ≠ b → (TX0 a).2.1 ≠ (TX0 b).2.1 := by decide +kernel
theorem tyX0_ok : ∀ k, k < 3 → parseFieldDescriptor (TX0 k).2.2.1 = some (tyX0 k) := by decide +kernel
abbrev cX0_init : ByteArray := prog_2_method_1_code
def yX0_init : MethodName := ⟨RX0, "<init>", "()V"⟩
abbrev cX0_begin : ByteArray := prog_2_method_2_code
def yX0_begin : MethodName := ⟨RX0, "begin", "(II)V"⟩
abbrev cX0_goOn : ByteArray := prog_2_method_3_code
def yX0_goOn : MethodName := ⟨RX0, "goOn", "()I"⟩
def RX1 : String := "OwnedByGuests$Course"
def TX1 : u_T := fun k => match k with
  | 0 => ("OwnedByGuests$Course", "scene", "LOwnedByGuests$Scene;", true)
  | 1 => ("OwnedByGuests$Course", "ways", "LOwnedByGuests$Ways;", true)
  | 2 => ("OwnedByGuests$Course", "seed", "I", false)
  | 3 => ("OwnedByGuests$Course", "isKept", "Z", false)
  | _ => ("OwnedByGuests$Course", "wish", "[I", true)
def tyX1 : Nat → FieldType := fun k => match k with
  | 0 => .object "OwnedByGuests$Scene"
  | 1 => .object "OwnedByGuests$Ways"
  | 2 => .int
  | 3 => .boolean
  | _ => .array .int
theorem nmX1 : ∀ a, a < 5 → ∀ b, b < 5 → a ≠ b → (TX1 a).2.1 ≠ (TX1 b).2.1 := by decide +kernel
theorem tyX1_ok : ∀ k, k < 5 → parseFieldDescriptor (TX1 k).2.2.1 = some (tyX1 k) := by decide +kernel
abbrev cX1_init : ByteArray := prog_3_method_1_code
def yX1_init : MethodName := ⟨RX1, "<init>", "()V"⟩
abbrev cX1_begin : ByteArray := prog_3_method_2_code
def yX1_begin : MethodName := ⟨RX1, "begin", "(LOwnedByGuests$Village;)V"⟩
abbrev cX1_copyFrom : ByteArray := prog_3_method_3_code
def yX1_copyFrom : MethodName := ⟨RX1, "copyFrom", "(LOwnedByGuests$Course;)V"⟩
abbrev cX1_passQuarter : ByteArray := prog_3_method_4_code
def yX1_passQuarter : MethodName := ⟨RX1, "passQuarter", "(LOwnedByGuests$Village;)V"⟩
abbrev cX1_stroll : ByteArray := prog_3_method_5_code
def yX1_stroll : MethodName := ⟨RX1, "stroll", "(LOwnedByGuests$Village;)V"⟩
abbrev cX1_draw : ByteArray := prog_3_method_6_code
def yX1_draw : MethodName := ⟨RX1, "draw", "(I)I"⟩
def RX2 : String := "OwnedByGuests$Ledger"
def TX2 : u_T := fun k => match k with
  | 0 => ("OwnedByGuests$Ledger", "quarters", "[I", true)
  | 1 => ("OwnedByGuests$Ledger", "persons", "[I", true)
  | 2 => ("OwnedByGuests$Ledger", "places", "[I", true)
  | 3 => ("OwnedByGuests$Ledger", "size", "I", false)
  | 4 => ("OwnedByGuests$Ledger", "scene", "LOwnedByGuests$Scene;", true)
  | _ => ("OwnedByGuests$Ledger", "wish", "[I", true)
def tyX2 : Nat → FieldType := fun k => match k with
  | 0 => .array .int
  | 1 => .array .int
  | 2 => .array .int
  | 3 => .int
  | 4 => .object "OwnedByGuests$Scene"
  | _ => .array .int
theorem nmX2 : ∀ a, a < 6 → ∀ b, b < 6 → a ≠ b → (TX2 a).2.1 ≠ (TX2 b).2.1 := by decide +kernel
theorem tyX2_ok : ∀ k, k < 6 → parseFieldDescriptor (TX2 k).2.2.1 = some (tyX2 k) := by decide +kernel
abbrev cX2_init : ByteArray := prog_4_method_1_code
def yX2_init : MethodName := ⟨RX2, "<init>", "()V"⟩
abbrev cX2_readAll : ByteArray := prog_4_method_2_code
def yX2_readAll : MethodName := ⟨RX2, "readAll", "(LOwnedByGuests$Tape;)Z"⟩
abbrev cX2_readRow : ByteArray := prog_4_method_3_code
def yX2_readRow : MethodName := ⟨RX2, "readRow", "(LOwnedByGuests$Tape;)Z"⟩
abbrev cX2_readNumber : ByteArray := prog_4_method_4_code
def yX2_readNumber : MethodName := ⟨RX2, "readNumber", "(LOwnedByGuests$Tape;I)I"⟩
abbrev cX2_firstThatCannot : ByteArray := prog_4_method_5_code
def yX2_firstThatCannot : MethodName := ⟨RX2, "firstThatCannot", "(LOwnedByGuests$Village;[I)I"⟩
abbrev cX2_rowsInOrder : ByteArray := prog_4_method_6_code
def yX2_rowsInOrder : MethodName := ⟨RX2, "rowsInOrder", "(LOwnedByGuests$Village;)I"⟩
abbrev cX2_isOutOfOrder : ByteArray := prog_4_method_7_code
def yX2_isOutOfOrder : MethodName := ⟨RX2, "isOutOfOrder", "(I)Z"⟩
abbrev cX2_passRows : ByteArray := prog_4_method_8_code
def yX2_passRows : MethodName := ⟨RX2, "passRows", "(LOwnedByGuests$Village;[III)I"⟩
def RX3 : String := "OwnedByGuests$Scene"
def TX3 : u_T := fun k => match k with
  | 0 => ("OwnedByGuests$Scene", "passed", "I", false)
  | 1 => ("OwnedByGuests$Scene", "where", "[I", true)
  | 2 => ("OwnedByGuests$Scene", "stayed", "[I", true)
  | 3 => ("OwnedByGuests$Scene", "latest", "[I", true)
  | 4 => ("OwnedByGuests$Scene", "all", "[I", true)
  | 5 => ("OwnedByGuests$Scene", "store", "[I", true)
  | _ => ("OwnedByGuests$Scene", "state", "[I", true)
def tyX3 : Nat → FieldType := fun k => match k with
  | 0 => .int
  | 1 => .array .int
  | 2 => .array .int
  | 3 => .array .int
  | 4 => .array .int
  | 5 => .array .int
  | _ => .array .int
theorem nmX3 : ∀ a, a < 7 → ∀ b, b < 7 → a ≠ b → (TX3 a).2.1 ≠ (TX3 b).2.1 := by decide +kernel
theorem tyX3_ok : ∀ k, k < 7 → parseFieldDescriptor (TX3 k).2.2.1 = some (tyX3 k) := by decide +kernel
abbrev cX3_init : ByteArray := prog_5_method_1_code
def yX3_init : MethodName := ⟨RX3, "<init>", "()V"⟩
abbrev cX3_begin : ByteArray := prog_5_method_2_code
def yX3_begin : MethodName := ⟨RX3, "begin", "(LOwnedByGuests$Village;)V"⟩
abbrev cX3_copyFrom : ByteArray := prog_5_method_3_code
def yX3_copyFrom : MethodName := ⟨RX3, "copyFrom", "(LOwnedByGuests$Scene;)V"⟩
abbrev cX3_guestsIn : ByteArray := prog_5_method_4_code
def yX3_guestsIn : MethodName := ⟨RX3, "guestsIn", "(LOwnedByGuests$Village;I)I"⟩
abbrev cX3_haver : ByteArray := prog_5_method_5_code
def yX3_haver : MethodName := ⟨RX3, "haver", "(LOwnedByGuests$Village;I)I"⟩
abbrev cX3_wordOf : ByteArray := prog_5_method_6_code
def yX3_wordOf : MethodName := ⟨RX3, "wordOf", "(LOwnedByGuests$Village;I)I"⟩
abbrev cX3_goOn : ByteArray := prog_5_method_7_code
def yX3_goOn : MethodName := ⟨RX3, "goOn", "(LOwnedByGuests$Village;[I[I)V"⟩
abbrev cX3_leave : ByteArray := prog_5_method_8_code
def yX3_leave : MethodName := ⟨RX3, "leave", "(LOwnedByGuests$Village;[I)I"⟩
abbrev cX3_mayCome : ByteArray := prog_5_method_9_code
def yX3_mayCome : MethodName := ⟨RX3, "mayCome", "(LOwnedByGuests$Village;[III)Z"⟩
abbrev cX3_gainOfTies : ByteArray := prog_5_method_10_code
def yX3_gainOfTies : MethodName := ⟨RX3, "gainOfTies", "(LOwnedByGuests$Village;I)I"⟩
abbrev cX3_useHouse : ByteArray := prog_5_method_11_code
def yX3_useHouse : MethodName := ⟨RX3, "useHouse", "(LOwnedByGuests$Village;I)V"⟩
def RX4 : String := "OwnedByGuests$Tape"
def TX4 : u_T := fun k => match k with
  | 0 => ("OwnedByGuests$Tape", "bytes", "[I", true)
  | 1 => ("OwnedByGuests$Tape", "length", "I", false)
  | 2 => ("OwnedByGuests$Tape", "next", "I", false)
  | 3 => ("OwnedByGuests$Tape", "kind", "I", false)
  | 4 => ("OwnedByGuests$Tape", "start", "I", false)
  | 5 => ("OwnedByGuests$Tape", "number", "I", false)
  | _ => ("OwnedByGuests$Tape", "name", "J", false)
def tyX4 : Nat → FieldType := fun k => match k with
  | 0 => .array .int
  | 1 => .int
  | 2 => .int
  | 3 => .int
  | 4 => .int
  | 5 => .int
  | _ => .long
theorem nmX4 : ∀ a, a < 7 → ∀ b, b < 7 → a ≠ b → (TX4 a).2.1 ≠ (TX4 b).2.1 := by decide +kernel
theorem tyX4_ok : ∀ k, k < 7 → parseFieldDescriptor (TX4 k).2.2.1 = some (tyX4 k) := by decide +kernel
abbrev cX4_init : ByteArray := prog_6_method_1_code
def yX4_init : MethodName := ⟨RX4, "<init>", "()V"⟩
abbrev cX4_addFour : ByteArray := prog_6_method_2_code
def yX4_addFour : MethodName := ⟨RX4, "addFour", "(I)V"⟩
abbrev cX4_byteAt : ByteArray := prog_6_method_3_code
def yX4_byteAt : MethodName := ⟨RX4, "byteAt", "(I)I"⟩
abbrev cX4_readFirst : ByteArray := prog_6_method_4_code
def yX4_readFirst : MethodName := ⟨RX4, "readFirst", "()V"⟩
abbrev cX4_readToken : ByteArray := prog_6_method_5_code
def yX4_readToken : MethodName := ⟨RX4, "readToken", "()V"⟩
abbrev cX4_readRun : ByteArray := prog_6_method_6_code
def yX4_readRun : MethodName := ⟨RX4, "readRun", "()V"⟩
abbrev cX4_kindAt : ByteArray := prog_6_method_7_code
def yX4_kindAt : MethodName := ⟨RX4, "kindAt", "(I)I"⟩
abbrev cX4_reads : ByteArray := prog_6_method_8_code
def yX4_reads : MethodName := ⟨RX4, "reads", "(Ljava/lang/String;)Z"⟩
def RX5 : String := "OwnedByGuests$Teller"
def TX5 : u_T := fun k => match k with
  | 0 => ("OwnedByGuests$Teller", "text", "LOwnedByGuests$Tape;", true)
  | 1 => ("OwnedByGuests$Teller", "into", "LOwnedByGuests$Village;", false)
  | 2 => ("OwnedByGuests$Teller", "kind", "I", false)
  | _ => ("OwnedByGuests$Teller", "place", "I", false)
def tyX5 : Nat → FieldType := fun k => match k with
  | 0 => .object "OwnedByGuests$Tape"
  | 1 => .object "OwnedByGuests$Village"
  | 2 => .int
  | _ => .int
theorem nmX5 : ∀ a, a < 4 → ∀ b, b < 4 → a ≠ b → (TX5 a).2.1 ≠ (TX5 b).2.1 := by decide +kernel
theorem tyX5_ok : ∀ k, k < 4 → parseFieldDescriptor (TX5 k).2.2.1 = some (tyX5 k) := by decide +kernel
abbrev cX5_init : ByteArray := prog_7_method_1_code
def yX5_init : MethodName := ⟨RX5, "<init>", "(LOwnedByGuests$Tape;)V"⟩
abbrev cX5_tellAll : ByteArray := prog_7_method_2_code
def yX5_tellAll : MethodName := ⟨RX5, "tellAll", "()Z"⟩
abbrev cX5_tellClause : ByteArray := prog_7_method_3_code
def yX5_tellClause : MethodName := ⟨RX5, "tellClause", "()V"⟩
abbrev cX5_tellHouse : ByteArray := prog_7_method_4_code
def yX5_tellHouse : MethodName := ⟨RX5, "tellHouse", "()V"⟩
abbrev cX5_tellPerson : ByteArray := prog_7_method_5_code
def yX5_tellPerson : MethodName := ⟨RX5, "tellPerson", "()V"⟩
abbrev cX5_tellHome : ByteArray := prog_7_method_6_code
def yX5_tellHome : MethodName := ⟨RX5, "tellHome", "(I)V"⟩
abbrev cX5_tellTie : ByteArray := prog_7_method_7_code
def yX5_tellTie : MethodName := ⟨RX5, "tellTie", "()V"⟩
abbrev cX5_isTiedAgain : ByteArray := prog_7_method_8_code
def yX5_isTiedAgain : MethodName := ⟨RX5, "isTiedAgain", "(I)Z"⟩
abbrev cX5_tellWork : ByteArray := prog_7_method_9_code
def yX5_tellWork : MethodName := ⟨RX5, "tellWork", "()V"⟩
abbrev cX5_tellLast : ByteArray := prog_7_method_10_code
def yX5_tellLast : MethodName := ⟨RX5, "tellLast", "()V"⟩
abbrev cX5_tellRule : ByteArray := prog_7_method_11_code
def yX5_tellRule : MethodName := ⟨RX5, "tellRule", "()V"⟩
abbrev cX5_ruleRead : ByteArray := prog_7_method_12_code
def yX5_ruleRead : MethodName := ⟨RX5, "ruleRead", "()I"⟩
abbrev cX5_readNewName : ByteArray := prog_7_method_13_code
def yX5_readNewName : MethodName := ⟨RX5, "readNewName", "(Z)J"⟩
abbrev cX5_readPerson : ByteArray := prog_7_method_14_code
def yX5_readPerson : MethodName := ⟨RX5, "readPerson", "()I"⟩
abbrev cX5_readNumber : ByteArray := prog_7_method_15_code
def yX5_readNumber : MethodName := ⟨RX5, "readNumber", "(II)I"⟩
abbrev cX5_blame : ByteArray := prog_7_method_16_code
def yX5_blame : MethodName := ⟨RX5, "blame", "(I)V"⟩
def RX6 : String := "OwnedByGuests$Trial"
def TX6 : u_T := fun k => match k with
  | 0 => ("OwnedByGuests$Trial", "village", "LOwnedByGuests$Village;", true)
  | 1 => ("OwnedByGuests$Trial", "ways", "LOwnedByGuests$Ways;", true)
  | 2 => ("OwnedByGuests$Trial", "origin", "LOwnedByGuests$Scene;", true)
  | 3 => ("OwnedByGuests$Trial", "scene", "LOwnedByGuests$Scene;", true)
  | 4 => ("OwnedByGuests$Trial", "day", "[LOwnedByGuests$Scene;", true)
  | 5 => ("OwnedByGuests$Trial", "wish", "[I", true)
  | 6 => ("OwnedByGuests$Trial", "choices", "LOwnedByGuests$Choices;", true)
  | 7 => ("OwnedByGuests$Trial", "gains", "[J", true)
  | 8 => ("OwnedByGuests$Trial", "strides", "[I", true)
  | 9 => ("OwnedByGuests$Trial", "bestSum", "I", false)
  | 10 => ("OwnedByGuests$Trial", "bestRow", "I", false)
  | 11 => ("OwnedByGuests$Trial", "rings", "I", false)
  | _ => ("OwnedByGuests$Trial", "leastRing", "I", false)
def tyX6 : Nat → FieldType := fun k => match k with
  | 0 => .object "OwnedByGuests$Village"
  | 1 => .object "OwnedByGuests$Ways"
  | 2 => .object "OwnedByGuests$Scene"
  | 3 => .object "OwnedByGuests$Scene"
  | 4 => .array (.object "OwnedByGuests$Scene")
  | 5 => .array .int
  | 6 => .object "OwnedByGuests$Choices"
  | 7 => .array .long
  | 8 => .array .int
  | 9 => .int
  | 10 => .int
  | 11 => .int
  | _ => .int
theorem nmX6 : ∀ a, a < 13 → ∀ b, b < 13 → a ≠ b → (TX6 a).2.1 ≠ (TX6 b).2.1 := by decide +kernel
theorem tyX6_ok : ∀ k, k < 13 → parseFieldDescriptor (TX6 k).2.2.1 = some (tyX6 k) := by decide +kernel
abbrev cX6_init : ByteArray := prog_8_method_1_code
def yX6_init : MethodName := ⟨RX6, "<init>", "()V"⟩
abbrev cX6_setOut : ByteArray := prog_8_method_2_code
def yX6_setOut : MethodName := ⟨RX6, "setOut", "(LOwnedByGuests$Village;LOwnedByGuests$Course;)V"⟩
abbrev cX6_placeOf : ByteArray := prog_8_method_3_code
def yX6_placeOf : MethodName := ⟨RX6, "placeOf", "(I)I"⟩
abbrev cX6_runQuarters : ByteArray := prog_8_method_4_code
def yX6_runQuarters : MethodName := ⟨RX6, "runQuarters", "(I)V"⟩
abbrev cX6_sumOf : ByteArray := prog_8_method_5_code
def yX6_sumOf : MethodName := ⟨RX6, "sumOf", "(I)I"⟩
abbrev cX6_findBest : ByteArray := prog_8_method_6_code
def yX6_findBest : MethodName := ⟨RX6, "findBest", "(I)V"⟩
abbrev cX6_passOfDay : ByteArray := prog_8_method_7_code
def yX6_passOfDay : MethodName := ⟨RX6, "passOfDay", "(II)V"⟩
abbrev cX6_judgeDay : ByteArray := prog_8_method_8_code
def yX6_judgeDay : MethodName := ⟨RX6, "judgeDay", "(I)V"⟩
abbrev cX6_bestPlace : ByteArray := prog_8_method_9_code
def yX6_bestPlace : MethodName := ⟨RX6, "bestPlace", "(I)I"⟩
abbrev cX6_settleAll : ByteArray := prog_8_method_10_code
def yX6_settleAll : MethodName := ⟨RX6, "settleAll", "()I"⟩
abbrev cX6_planBest : ByteArray := prog_8_method_11_code
def yX6_planBest : MethodName := ⟨RX6, "planBest", "(I)V"⟩
abbrev cX6_findRest : ByteArray := prog_8_method_12_code
def yX6_findRest : MethodName := ⟨RX6, "findRest", "(I)I"⟩
abbrev cX6_beginRows : ByteArray := prog_8_method_13_code
def yX6_beginRows : MethodName := ⟨RX6, "beginRows", "()V"⟩
abbrev cX6_wishRow : ByteArray := prog_8_method_14_code
def yX6_wishRow : MethodName := ⟨RX6, "wishRow", "()V"⟩
abbrev cX6_gainByWishes : ByteArray := prog_8_method_15_code
def yX6_gainByWishes : MethodName := ⟨RX6, "gainByWishes", "(I)I"⟩
abbrev cX6_fillGains : ByteArray := prog_8_method_16_code
def yX6_fillGains : MethodName := ⟨RX6, "fillGains", "()V"⟩
abbrev cX6_packedGains : ByteArray := prog_8_method_17_code
def yX6_packedGains : MethodName := ⟨RX6, "packedGains", "()J"⟩
abbrev cX6_isRest : ByteArray := prog_8_method_18_code
def yX6_isRest : MethodName := ⟨RX6, "isRest", "(I)Z"⟩
abbrev cX6_gainAt : ByteArray := prog_8_method_19_code
def yX6_gainAt : MethodName := ⟨RX6, "gainAt", "(II)I"⟩
abbrev cX6_holds : ByteArray := prog_8_method_20_code
def yX6_holds : MethodName := ⟨RX6, "holds", "(II)Z"⟩
abbrev cX6_findRings : ByteArray := prog_8_method_21_code
def yX6_findRings : MethodName := ⟨RX6, "findRings", "()V"⟩
abbrev cX6_canRing : ByteArray := prog_8_method_22_code
def yX6_canRing : MethodName := ⟨RX6, "canRing", "()Z"⟩
abbrev cX6_goRound : ByteArray := prog_8_method_23_code
def yX6_goRound : MethodName := ⟨RX6, "goRound", "()Z"⟩
abbrev cX6_isRing : ByteArray := prog_8_method_24_code
def yX6_isRing : MethodName := ⟨RX6, "isRing", "()Z"⟩
abbrev cX6_wishRing : ByteArray := prog_8_method_25_code
def yX6_wishRing : MethodName := ⟨RX6, "wishRing", "()V"⟩
abbrev cX6_ringNumber : ByteArray := prog_8_method_26_code
def yX6_ringNumber : MethodName := ⟨RX6, "ringNumber", "()I"⟩
abbrev cX6_bestQuarterOut : ByteArray := prog_8_method_27_code
def yX6_bestQuarterOut : MethodName := ⟨RX6, "bestQuarterOut", "(I)I"⟩
abbrev cX6_leastAfter : ByteArray := prog_8_method_28_code
def yX6_leastAfter : MethodName := ⟨RX6, "leastAfter", "(II)I"⟩
abbrev cX6_bestLets : ByteArray := prog_8_method_29_code
def yX6_bestLets : MethodName := ⟨RX6, "bestLets", "(I)I"⟩
abbrev cX6_leastWorth : ByteArray := prog_8_method_30_code
def yX6_leastWorth : MethodName := ⟨RX6, "leastWorth", "(II)I"⟩
abbrev cX6_bestChairs : ByteArray := prog_8_method_31_code
def yX6_bestChairs : MethodName := ⟨RX6, "bestChairs", "(I)I"⟩
abbrev cX6_runLaw : ByteArray := prog_8_method_32_code
def yX6_runLaw : MethodName := ⟨RX6, "runLaw", "(ZII)V"⟩
abbrev cX6_gainOfAll : ByteArray := prog_8_method_33_code
def yX6_gainOfAll : MethodName := ⟨RX6, "gainOfAll", "()I"⟩
abbrev cX6_stateLost : ByteArray := prog_8_method_34_code
def yX6_stateLost : MethodName := ⟨RX6, "stateLost", "()I"⟩
abbrev cX6_greatestLaw : ByteArray := prog_8_method_35_code
def yX6_greatestLaw : MethodName := ⟨RX6, "greatestLaw", "(I)I"⟩
def RX7 : String := "OwnedByGuests$Village"
def TX7 : u_T := fun k => match k with
  | 0 => ("OwnedByGuests$Village", "clauses", "I", false)
  | 1 => ("OwnedByGuests$Village", "houses", "I", false)
  | 2 => ("OwnedByGuests$Village", "people", "I", false)
  | 3 => ("OwnedByGuests$Village", "isLast", "Z", false)
  | 4 => ("OwnedByGuests$Village", "rulesTold", "I", false)
  | 5 => ("OwnedByGuests$Village", "tiesTold", "I", false)
  | 6 => ("OwnedByGuests$Village", "rules", "[I", true)
  | 7 => ("OwnedByGuests$Village", "houseNames", "[J", true)
  | 8 => ("OwnedByGuests$Village", "store", "[I", true)
  | 9 => ("OwnedByGuests$Village", "worth", "[I", true)
  | 10 => ("OwnedByGuests$Village", "state", "[I", true)
  | 11 => ("OwnedByGuests$Village", "owner", "[I", true)
  | 12 => ("OwnedByGuests$Village", "personNames", "[J", true)
  | 13 => ("OwnedByGuests$Village", "home", "[I", true)
  | 14 => ("OwnedByGuests$Village", "work", "[I", true)
  | _ => ("OwnedByGuests$Village", "ties", "[I", true)
def tyX7 : Nat → FieldType := fun k => match k with
  | 0 => .int
  | 1 => .int
  | 2 => .int
  | 3 => .boolean
  | 4 => .int
  | 5 => .int
  | 6 => .array .int
  | 7 => .array .long
  | 8 => .array .int
  | 9 => .array .int
  | 10 => .array .int
  | 11 => .array .int
  | 12 => .array .long
  | 13 => .array .int
  | 14 => .array .int
  | _ => .array .int
theorem nmX7 : ∀ a, a < 16 → ∀ b, b < 16 → a ≠ b → (TX7 a).2.1 ≠ (TX7 b).2.1 := by decide +kernel
theorem tyX7_ok : ∀ k, k < 16 → parseFieldDescriptor (TX7 k).2.2.1 = some (tyX7 k) := by decide +kernel
abbrev cX7_init : ByteArray := prog_9_method_1_code
def yX7_init : MethodName := ⟨RX7, "<init>", "()V"⟩
abbrev cX7_clear : ByteArray := prog_9_method_2_code
def yX7_clear : MethodName := ⟨RX7, "clear", "()V"⟩
abbrev cX7_copyFrom : ByteArray := prog_9_method_3_code
def yX7_copyFrom : MethodName := ⟨RX7, "copyFrom", "(LOwnedByGuests$Village;)V"⟩
abbrev cX7_mustWork : ByteArray := prog_9_method_4_code
def yX7_mustWork : MethodName := ⟨RX7, "mustWork", "(II)Z"⟩
abbrev cX7_houseNamed : ByteArray := prog_9_method_5_code
def yX7_houseNamed : MethodName := ⟨RX7, "houseNamed", "(J)I"⟩
abbrev cX7_personNamed : ByteArray := prog_9_method_6_code
def yX7_personNamed : MethodName := ⟨RX7, "personNamed", "(J)I"⟩
abbrev cX7_find : ByteArray := prog_9_method_7_code
def yX7_find : MethodName := ⟨RX7, "find", "([JIJ)I"⟩
def RX8 : String := "OwnedByGuests$Ways"
def TX8 : u_T := fun k => match k with
  | 0 => ("OwnedByGuests$Ways", "plans", "[I", true)
  | _ => ("OwnedByGuests$Ways", "lets", "[I", true)
def tyX8 : Nat → FieldType := fun k => match k with
  | 0 => .array .int
  | _ => .array .int
theorem nmX8 : ∀ a, a < 2 → ∀ b, b < 2 → a ≠ b → (TX8 a).2.1 ≠ (TX8 b).2.1 := by decide +kernel
theorem tyX8_ok : ∀ k, k < 2 → parseFieldDescriptor (TX8 k).2.2.1 = some (tyX8 k) := by decide +kernel
abbrev cX8_init : ByteArray := prog_10_method_1_code
def yX8_init : MethodName := ⟨RX8, "<init>", "()V"⟩
abbrev cX8_begin : ByteArray := prog_10_method_2_code
def yX8_begin : MethodName := ⟨RX8, "begin", "(LOwnedByGuests$Village;)V"⟩
abbrev cX8_copyFrom : ByteArray := prog_10_method_3_code
def yX8_copyFrom : MethodName := ⟨RX8, "copyFrom", "(LOwnedByGuests$Ways;)V"⟩
abbrev cX8_planEach : ByteArray := prog_10_method_4_code
def yX8_planEach : MethodName := ⟨RX8, "planEach", "(II)V"⟩
abbrev cX8_fillWishes : ByteArray := prog_10_method_5_code
def yX8_fillWishes : MethodName := ⟨RX8, "fillWishes", "(LOwnedByGuests$Village;I[I)V"⟩
def RX9 : String := "OwnedByGuests"
def TX9 : u_T := fun k => match k with
  | 0 => ("OwnedByGuests", "tape", "LOwnedByGuests$Tape;", true)
  | 1 => ("OwnedByGuests", "teller", "LOwnedByGuests$Teller;", true)
  | 2 => ("OwnedByGuests", "village", "LOwnedByGuests$Village;", false)
  | 3 => ("OwnedByGuests", "now", "LOwnedByGuests$Course;", true)
  | 4 => ("OwnedByGuests", "slots", "[LOwnedByGuests$Course;", true)
  | 5 => ("OwnedByGuests", "trial", "LOwnedByGuests$Trial;", true)
  | 6 => ("OwnedByGuests", "ledger", "LOwnedByGuests$Ledger;", true)
  | 7 => ("OwnedByGuests", "feastRow", "[I", true)
  | _ => ("OwnedByGuests", "hasFeast", "Z", false)
def tyX9 : Nat → FieldType := fun k => match k with
  | 0 => .object "OwnedByGuests$Tape"
  | 1 => .object "OwnedByGuests$Teller"
  | 2 => .object "OwnedByGuests$Village"
  | 3 => .object "OwnedByGuests$Course"
  | 4 => .array (.object "OwnedByGuests$Course")
  | 5 => .object "OwnedByGuests$Trial"
  | 6 => .object "OwnedByGuests$Ledger"
  | 7 => .array .int
  | _ => .boolean
theorem nmX9 : ∀ a, a < 9 → ∀ b, b < 9 → a ≠ b → (TX9 a).2.1 ≠ (TX9 b).2.1 := by decide +kernel
theorem tyX9_ok : ∀ k, k < 9 → parseFieldDescriptor (TX9 k).2.2.1 = some (tyX9 k) := by decide +kernel
abbrev cX9_init : ByteArray := prog_1_method_1_code
def yX9_init : MethodName := ⟨RX9, "<init>", "()V"⟩
abbrev cX9_feed : ByteArray := prog_1_method_2_code
def yX9_feed : MethodName := ⟨RX9, "feed", "(IIIII)I"⟩
abbrev cX9_end : ByteArray := prog_1_method_3_code
def yX9_end : MethodName := ⟨RX9, "end", "(I)I"⟩
abbrev cX9_village : ByteArray := prog_1_method_4_code
def yX9_village : MethodName := ⟨RX9, "village", "()I"⟩
abbrev cX9_fault : ByteArray := prog_1_method_5_code
def yX9_fault : MethodName := ⟨RX9, "fault", "(I)I"⟩
abbrev cX9_told : ByteArray := prog_1_method_6_code
def yX9_told : MethodName := ⟨RX9, "told", "(I)I"⟩
abbrev cX9_toldOfHouse : ByteArray := prog_1_method_7_code
def yX9_toldOfHouse : MethodName := ⟨RX9, "toldOfHouse", "(II)I"⟩
abbrev cX9_toldOfPerson : ByteArray := prog_1_method_8_code
def yX9_toldOfPerson : MethodName := ⟨RX9, "toldOfPerson", "(II)I"⟩
abbrev cX9_tie : ByteArray := prog_1_method_9_code
def yX9_tie : MethodName := ⟨RX9, "tie", "(II)I"⟩
abbrev cX9_plan : ByteArray := prog_1_method_10_code
def yX9_plan : MethodName := ⟨RX9, "plan", "(I)I"⟩
abbrev cX9_readPlan : ByteArray := prog_1_method_11_code
def yX9_readPlan : MethodName := ⟨RX9, "readPlan", "(I)I"⟩
abbrev cX9_planned : ByteArray := prog_1_method_12_code
def yX9_planned : MethodName := ⟨RX9, "planned", "(II)I"⟩
abbrev cX9_lets : ByteArray := prog_1_method_13_code
def yX9_lets : MethodName := ⟨RX9, "lets", "(II)I"⟩
abbrev cX9_chance : ByteArray := prog_1_method_14_code
def yX9_chance : MethodName := ⟨RX9, "chance", "(I)I"⟩
abbrev cX9_pass : ByteArray := prog_1_method_15_code
def yX9_pass : MethodName := ⟨RX9, "pass", "(I)I"⟩
abbrev cX9_who : ByteArray := prog_1_method_16_code
def yX9_who : MethodName := ⟨RX9, "who", "(II)I"⟩
abbrev cX9_house : ByteArray := prog_1_method_17_code
def yX9_house : MethodName := ⟨RX9, "house", "(II)I"⟩
abbrev cX9_word : ByteArray := prog_1_method_18_code
def yX9_word : MethodName := ⟨RX9, "word", "(I)I"⟩
abbrev cX9_keep : ByteArray := prog_1_method_19_code
def yX9_keep : MethodName := ⟨RX9, "keep", "(I)I"⟩
abbrev cX9_take : ByteArray := prog_1_method_20_code
def yX9_take : MethodName := ⟨RX9, "take", "(I)I"⟩
abbrev cX9_sum : ByteArray := prog_1_method_21_code
def yX9_sum : MethodName := ⟨RX9, "sum", "(I)I"⟩
abbrev cX9_best : ByteArray := prog_1_method_22_code
def yX9_best : MethodName := ⟨RX9, "best", "(II)I"⟩
abbrev cX9_rests : ByteArray := prog_1_method_23_code
def yX9_rests : MethodName := ⟨RX9, "rests", "()I"⟩
abbrev cX9_rest : ByteArray := prog_1_method_24_code
def yX9_rest : MethodName := ⟨RX9, "rest", "(II)I"⟩
abbrev cX9_settle : ByteArray := prog_1_method_25_code
def yX9_settle : MethodName := ⟨RX9, "settle", "()I"⟩
abbrev cX9_longer : ByteArray := prog_1_method_26_code
def yX9_longer : MethodName := ⟨RX9, "longer", "(III)I"⟩
abbrev cX9_guard : ByteArray := prog_1_method_27_code
def yX9_guard : MethodName := ⟨RX9, "guard", "(II)I"⟩
abbrev cX9_rings : ByteArray := prog_1_method_28_code
def yX9_rings : MethodName := ⟨RX9, "rings", "(I)I"⟩
abbrev cX9_when : ByteArray := prog_1_method_29_code
def yX9_when : MethodName := ⟨RX9, "when", "(I)I"⟩
abbrev cX9_bound : ByteArray := prog_1_method_30_code
def yX9_bound : MethodName := ⟨RX9, "bound", "(II)I"⟩
abbrev cX9_law : ByteArray := prog_1_method_31_code
def yX9_law : MethodName := ⟨RX9, "law", "(ZIII)I"⟩
abbrev cX9_bestLaw : ByteArray := prog_1_method_32_code
def yX9_bestLaw : MethodName := ⟨RX9, "bestLaw", "(I)I"⟩
abbrev cX9_feast : ByteArray := prog_1_method_33_code
def yX9_feast : MethodName := ⟨RX9, "feast", "()I"⟩
abbrev cX9_isFeastOnTape : ByteArray := prog_1_method_34_code
def yX9_isFeastOnTape : MethodName := ⟨RX9, "isFeastOnTape", "()Z"⟩
abbrev cX9_feastEnd : ByteArray := prog_1_method_35_code
def yX9_feastEnd : MethodName := ⟨RX9, "feastEnd", "()I"⟩
abbrev cX9_placeBehind : ByteArray := prog_1_method_36_code
def yX9_placeBehind : MethodName := ⟨RX9, "placeBehind", "(II)I"⟩
abbrev cX9_turned : ByteArray := prog_1_method_37_code
def yX9_turned : MethodName := ⟨RX9, "turned", "(II)I"⟩
abbrev cX9_whom : ByteArray := prog_1_method_38_code
def yX9_whom : MethodName := ⟨RX9, "whom", "(I)I"⟩
abbrev cX9_edge : ByteArray := prog_1_method_39_code
def yX9_edge : MethodName := ⟨RX9, "edge", "(II)I"⟩
abbrev cX9_show : ByteArray := prog_1_method_40_code
def yX9_show : MethodName := ⟨RX9, "show", "(I)I"⟩
abbrev cX9_book : ByteArray := prog_1_method_41_code
def yX9_book : MethodName := ⟨RX9, "book", "()I"⟩
abbrev cX9_count : ByteArray := prog_1_method_42_code
def yX9_count : MethodName := ⟨RX9, "count", "(I)I"⟩
abbrev cX9_isHouse : ByteArray := prog_1_method_43_code
def yX9_isHouse : MethodName := ⟨RX9, "isHouse", "(I)Z"⟩
abbrev cX9_isPerson : ByteArray := prog_1_method_44_code
def yX9_isPerson : MethodName := ⟨RX9, "isPerson", "(I)Z"⟩
abbrev cX9_areTwo : ByteArray := prog_1_method_45_code
def yX9_areTwo : MethodName := ⟨RX9, "areTwo", "(II)Z"⟩
def RX10 : String := "OwnedByGuestsModel"
def TX10 : u_T := fun k => match k with
  | 0 => ("OwnedByGuestsModel", "tape", "[B", true)
  | 1 => ("OwnedByGuestsModel", "taped", "I", false)
  | 2 => ("OwnedByGuestsModel", "length", "I", false)
  | 3 => ("OwnedByGuestsModel", "from", "I", false)
  | 4 => ("OwnedByGuestsModel", "behind", "I", false)
  | 5 => ("OwnedByGuestsModel", "hand", "I", false)
  | 6 => ("OwnedByGuestsModel", "value", "I", false)
  | 7 => ("OwnedByGuestsModel", "got", "I", false)
  | 8 => ("OwnedByGuestsModel", "fault", "I", false)
  | 9 => ("OwnedByGuestsModel", "faultAt", "I", false)
  | 10 => ("OwnedByGuestsModel", "houses", "I", false)
  | 11 => ("OwnedByGuestsModel", "people", "I", false)
  | 12 => ("OwnedByGuestsModel", "clauses", "I", false)
  | 13 => ("OwnedByGuestsModel", "readHouses", "I", false)
  | 14 => ("OwnedByGuestsModel", "readPeople", "I", false)
  | 15 => ("OwnedByGuestsModel", "read", "I", false)
  | 16 => ("OwnedByGuestsModel", "toldWords", "I", false)
  | 17 => ("OwnedByGuestsModel", "isLast", "Z", false)
  | 18 => ("OwnedByGuestsModel", "readLast", "Z", false)
  | 19 => ("OwnedByGuestsModel", "law", "[I", true)
  | 20 => ("OwnedByGuestsModel", "readLaw", "[I", true)
  | 21 => ("OwnedByGuestsModel", "store", "[I", true)
  | 22 => ("OwnedByGuestsModel", "worth", "[I", true)
  | 23 => ("OwnedByGuestsModel", "state", "[I", true)
  | 24 => ("OwnedByGuestsModel", "owner", "[I", true)
  | 25 => ("OwnedByGuestsModel", "home", "[I", true)
  | 26 => ("OwnedByGuestsModel", "work", "[I", true)
  | 27 => ("OwnedByGuestsModel", "tie", "[I", true)
  | 28 => ("OwnedByGuestsModel", "readStore", "[I", true)
  | 29 => ("OwnedByGuestsModel", "readWorth", "[I", true)
  | 30 => ("OwnedByGuestsModel", "readState", "[I", true)
  | 31 => ("OwnedByGuestsModel", "readOwner", "[I", true)
  | 32 => ("OwnedByGuestsModel", "readHome", "[I", true)
  | 33 => ("OwnedByGuestsModel", "readWork", "[I", true)
  | 34 => ("OwnedByGuestsModel", "readTie", "[I", true)
  | 35 => ("OwnedByGuestsModel", "houseNames", "[J", true)
  | 36 => ("OwnedByGuestsModel", "names", "[J", true)
  | 37 => ("OwnedByGuestsModel", "tieTold", "I", false)
  | 38 => ("OwnedByGuestsModel", "now", "[I", true)
  | 39 => ("OwnedByGuestsModel", "trial", "[I", true)
  | 40 => ("OwnedByGuestsModel", "stays", "I", false)
  | 41 => ("OwnedByGuestsModel", "chairs", "I", false)
  | 42 => ("OwnedByGuestsModel", "worthOf", "I", false)
  | 43 => ("OwnedByGuestsModel", "worthOfHouse", "I", false)
  | 44 => ("OwnedByGuestsModel", "otherLast", "Z", false)
  | 45 => ("OwnedByGuestsModel", "lastIs", "Z", false)
  | 46 => ("OwnedByGuestsModel", "wish", "[I", true)
  | 47 => ("OwnedByGuestsModel", "leaves", "[Z", true)
  | 48 => ("OwnedByGuestsModel", "kept", "[I", true)
  | 49 => ("OwnedByGuestsModel", "isKept", "[Z", true)
  | 50 => ("OwnedByGuestsModel", "bestPlan", "[I", true)
  | 51 => ("OwnedByGuestsModel", "gains", "[I", true)
  | 52 => ("OwnedByGuestsModel", "lawGain", "I", false)
  | 53 => ("OwnedByGuestsModel", "lawLost", "I", false)
  | 54 => ("OwnedByGuestsModel", "goesOn", "[I", true)
  | 55 => ("OwnedByGuestsModel", "feasting", "I", false)
  | 56 => ("OwnedByGuestsModel", "hasFeast", "Z", false)
  | 57 => ("OwnedByGuestsModel", "bookQuarter", "[I", true)
  | 58 => ("OwnedByGuestsModel", "bookPerson", "[I", true)
  | 59 => ("OwnedByGuestsModel", "bookPlace", "[I", true)
  | _ => ("OwnedByGuestsModel", "bookRows", "I", false)
def tyX10 : Nat → FieldType := fun k => match k with
  | 0 => .array .byte
  | 1 => .int
  | 2 => .int
  | 3 => .int
  | 4 => .int
  | 5 => .int
  | 6 => .int
  | 7 => .int
  | 8 => .int
  | 9 => .int
  | 10 => .int
  | 11 => .int
  | 12 => .int
  | 13 => .int
  | 14 => .int
  | 15 => .int
  | 16 => .int
  | 17 => .boolean
  | 18 => .boolean
  | 19 => .array .int
  | 20 => .array .int
  | 21 => .array .int
  | 22 => .array .int
  | 23 => .array .int
  | 24 => .array .int
  | 25 => .array .int
  | 26 => .array .int
  | 27 => .array .int
  | 28 => .array .int
  | 29 => .array .int
  | 30 => .array .int
  | 31 => .array .int
  | 32 => .array .int
  | 33 => .array .int
  | 34 => .array .int
  | 35 => .array .long
  | 36 => .array .long
  | 37 => .int
  | 38 => .array .int
  | 39 => .array .int
  | 40 => .int
  | 41 => .int
  | 42 => .int
  | 43 => .int
  | 44 => .boolean
  | 45 => .boolean
  | 46 => .array .int
  | 47 => .array .boolean
  | 48 => .array .int
  | 49 => .array .boolean
  | 50 => .array .int
  | 51 => .array .int
  | 52 => .int
  | 53 => .int
  | 54 => .array .int
  | 55 => .int
  | 56 => .boolean
  | 57 => .array .int
  | 58 => .array .int
  | 59 => .array .int
  | _ => .int
theorem nmX10 : ∀ a, a < 61 → ∀ b, b < 61 → a ≠ b → (TX10 a).2.1 ≠ (TX10 b).2.1 := by decide +kernel
theorem tyX10_ok : ∀ k, k < 61 → parseFieldDescriptor (TX10 k).2.2.1 = some (tyX10 k) := by decide +kernel
abbrev cX10_in : ByteArray := prog_12_method_1_code
def yX10_in : MethodName := ⟨RX10, "in", "(JJJ)Z"⟩
abbrev cX10_bad : ByteArray := prog_12_method_2_code
def yX10_bad : MethodName := ⟨RX10, "bad", "(I)Z"⟩
abbrev cX10_byteAt : ByteArray := prog_12_method_3_code
def yX10_byteAt : MethodName := ⟨RX10, "byteAt", "(I)I"⟩
abbrev cX10_isSmall : ByteArray := prog_12_method_4_code
def yX10_isSmall : MethodName := ⟨RX10, "isSmall", "(I)Z"⟩
abbrev cX10_isDigit : ByteArray := prog_12_method_5_code
def yX10_isDigit : MethodName := ⟨RX10, "isDigit", "(I)Z"⟩
abbrev cX10_scan : ByteArray := prog_12_method_6_code
def yX10_scan : MethodName := ⟨RX10, "scan", "()V"⟩
abbrev cX10_is : ByteArray := prog_12_method_7_code
def yX10_is : MethodName := ⟨RX10, "is", "(Ljava/lang/String;)Z"⟩
abbrev cX10_number : ByteArray := prog_12_method_8_code
def yX10_number : MethodName := ⟨RX10, "number", "(II)Z"⟩
abbrev cX10_name : ByteArray := prog_12_method_9_code
def yX10_name : MethodName := ⟨RX10, "name", "()J"⟩
abbrev cX10_find : ByteArray := prog_12_method_10_code
def yX10_find : MethodName := ⟨RX10, "find", "([JI)I"⟩
abbrev cX10_fresh : ByteArray := prog_12_method_11_code
def yX10_fresh : MethodName := ⟨RX10, "fresh", "([JI)Z"⟩
abbrev cX10_known : ByteArray := prog_12_method_12_code
def yX10_known : MethodName := ⟨RX10, "known", "([JI)Z"⟩
abbrev cX10_open : ByteArray := prog_12_method_13_code
def yX10_open : MethodName := ⟨RX10, "open", "()V"⟩
abbrev cX10_close : ByteArray := prog_12_method_14_code
def yX10_close : MethodName := ⟨RX10, "close", "()Z"⟩
abbrev cX10_usual : ByteArray := prog_12_method_15_code
def yX10_usual : MethodName := ⟨RX10, "usual", "(I)I"⟩
abbrev cX10_greatest : ByteArray := prog_12_method_16_code
def yX10_greatest : MethodName := ⟨RX10, "greatest", "(I)I"⟩
abbrev cX10_readHouse : ByteArray := prog_12_method_17_code
def yX10_readHouse : MethodName := ⟨RX10, "readHouse", "()Z"⟩
abbrev cX10_readPerson : ByteArray := prog_12_method_18_code
def yX10_readPerson : MethodName := ⟨RX10, "readPerson", "()Z"⟩
abbrev cX10_readTies : ByteArray := prog_12_method_19_code
def yX10_readTies : MethodName := ⟨RX10, "readTies", "()Z"⟩
abbrev cX10_readWorks : ByteArray := prog_12_method_20_code
def yX10_readWorks : MethodName := ⟨RX10, "readWorks", "()Z"⟩
abbrev cX10_wordAt : ByteArray := prog_12_method_21_code
def yX10_wordAt : MethodName := ⟨RX10, "wordAt", "()I"⟩
abbrev cX10_readSmall : ByteArray := prog_12_method_22_code
def yX10_readSmall : MethodName := ⟨RX10, "readSmall", "()Z"⟩
abbrev cX10_readVillage : ByteArray := prog_12_method_23_code
def yX10_readVillage : MethodName := ⟨RX10, "readVillage", "()Z"⟩
abbrev cX10_init : ByteArray := prog_12_method_24_code
def yX10_init : MethodName := ⟨RX10, "<init>", "()V"⟩
abbrev cX10_feed : ByteArray := prog_12_method_25_code
def yX10_feed : MethodName := ⟨RX10, "feed", "(IIIII)I"⟩
abbrev cX10_putFour : ByteArray := prog_12_method_26_code
def yX10_putFour : MethodName := ⟨RX10, "putFour", "(I)V"⟩
abbrev cX10_end : ByteArray := prog_12_method_27_code
def yX10_end : MethodName := ⟨RX10, "end", "(I)I"⟩
abbrev cX10_village : ByteArray := prog_12_method_28_code
def yX10_village : MethodName := ⟨RX10, "village", "()I"⟩
abbrev cX10_fault : ByteArray := prog_12_method_29_code
def yX10_fault : MethodName := ⟨RX10, "fault", "(I)I"⟩
abbrev cX10_told : ByteArray := prog_12_method_30_code
def yX10_told : MethodName := ⟨RX10, "told", "(I)I"⟩
abbrev cX10_isHouse : ByteArray := prog_12_method_31_code
def yX10_isHouse : MethodName := ⟨RX10, "isHouse", "(I)Z"⟩
abbrev cX10_isPerson : ByteArray := prog_12_method_32_code
def yX10_isPerson : MethodName := ⟨RX10, "isPerson", "(I)Z"⟩
abbrev cX10_tie : ByteArray := prog_12_method_33_code
def yX10_tie : MethodName := ⟨RX10, "tie", "(II)I"⟩
abbrev cX10_placed : ByteArray := prog_12_method_34_code
def yX10_placed : MethodName := ⟨RX10, "placed", "(I)I"⟩
abbrev cX10_begin : ByteArray := prog_12_method_35_code
def yX10_begin : MethodName := ⟨RX10, "begin", "([I)V"⟩
abbrev cX10_after : ByteArray := prog_12_method_36_code
def yX10_after : MethodName := ⟨RX10, "after", "()I"⟩
abbrev cX10_goesByLast : ByteArray := prog_12_method_37_code
def yX10_goesByLast : MethodName := ⟨RX10, "goesByLast", "()Z"⟩
abbrev cX10_worthAt : ByteArray := prog_12_method_38_code
def yX10_worthAt : MethodName := ⟨RX10, "worthAt", "(I)I"⟩
abbrev cX10_isGuest : ByteArray := prog_12_method_39_code
def yX10_isGuest : MethodName := ⟨RX10, "isGuest", "([III)Z"⟩
abbrev cX10_guests : ByteArray := prog_12_method_40_code
def yX10_guests : MethodName := ⟨RX10, "guests", "([II)I"⟩
abbrev cX10_has : ByteArray := prog_12_method_41_code
def yX10_has : MethodName := ⟨RX10, "has", "([II)I"⟩
abbrev cX10_works : ByteArray := prog_12_method_42_code
def yX10_works : MethodName := ⟨RX10, "works", "([II)Z"⟩
abbrev cX10_draw : ByteArray := prog_12_method_43_code
def yX10_draw : MethodName := ⟨RX10, "draw", "([II)I"⟩
abbrev cX10_planWishes : ByteArray := prog_12_method_44_code
def yX10_planWishes : MethodName := ⟨RX10, "planWishes", "([I)V"⟩
abbrev cX10_strolls : ByteArray := prog_12_method_45_code
def yX10_strolls : MethodName := ⟨RX10, "strolls", "([I)V"⟩
abbrev cX10_comes : ByteArray := prog_12_method_46_code
def yX10_comes : MethodName := ⟨RX10, "comes", "([II)V"⟩
abbrev cX10_goQuarter : ByteArray := prog_12_method_47_code
def yX10_goQuarter : MethodName := ⟨RX10, "goQuarter", "([I)V"⟩
abbrev cX10_tiesOf : ByteArray := prog_12_method_48_code
def yX10_tiesOf : MethodName := ⟨RX10, "tiesOf", "([II)I"⟩
abbrev cX10_placeOf : ByteArray := prog_12_method_49_code
def yX10_placeOf : MethodName := ⟨RX10, "placeOf", "(I)I"⟩
abbrev cX10_plan : ByteArray := prog_12_method_50_code
def yX10_plan : MethodName := ⟨RX10, "plan", "(I)I"⟩
abbrev cX10_told0 : ByteArray := prog_12_method_51_code
def yX10_told0 : MethodName := ⟨RX10, "told0", "(I)I"⟩
abbrev cX10_planned : ByteArray := prog_12_method_52_code
def yX10_planned : MethodName := ⟨RX10, "planned", "(II)I"⟩
abbrev cX10_lets : ByteArray := prog_12_method_53_code
def yX10_lets : MethodName := ⟨RX10, "lets", "(II)I"⟩
abbrev cX10_chance : ByteArray := prog_12_method_54_code
def yX10_chance : MethodName := ⟨RX10, "chance", "(I)I"⟩
abbrev cX10_pass : ByteArray := prog_12_method_55_code
def yX10_pass : MethodName := ⟨RX10, "pass", "(I)I"⟩
abbrev cX10_who : ByteArray := prog_12_method_56_code
def yX10_who : MethodName := ⟨RX10, "who", "(II)I"⟩
abbrev cX10_house : ByteArray := prog_12_method_57_code
def yX10_house : MethodName := ⟨RX10, "house", "(II)I"⟩
abbrev cX10_word : ByteArray := prog_12_method_58_code
def yX10_word : MethodName := ⟨RX10, "word", "(I)I"⟩
abbrev cX10_isSlot : ByteArray := prog_12_method_59_code
def yX10_isSlot : MethodName := ⟨RX10, "isSlot", "(I)Z"⟩
abbrev cX10_keep : ByteArray := prog_12_method_60_code
def yX10_keep : MethodName := ⟨RX10, "keep", "(I)I"⟩
abbrev cX10_take : ByteArray := prog_12_method_61_code
def yX10_take : MethodName := ⟨RX10, "take", "(I)I"⟩
abbrev cX10_copyNow : ByteArray := prog_12_method_62_code
def yX10_copyNow : MethodName := ⟨RX10, "copyNow", "()V"⟩
abbrev cX10_goTrial : ByteArray := prog_12_method_63_code
def yX10_goTrial : MethodName := ⟨RX10, "goTrial", "(I)V"⟩
abbrev cX10_sumOf : ByteArray := prog_12_method_64_code
def yX10_sumOf : MethodName := ⟨RX10, "sumOf", "(I)I"⟩
abbrev cX10_sumNow : ByteArray := prog_12_method_65_code
def yX10_sumNow : MethodName := ⟨RX10, "sumNow", "(I)I"⟩
abbrev cX10_sum : ByteArray := prog_12_method_66_code
def yX10_sum : MethodName := ⟨RX10, "sum", "(I)I"⟩
abbrev cX10_place : ByteArray := prog_12_method_67_code
def yX10_place : MethodName := ⟨RX10, "place", "(I)I"⟩
abbrev cX10_findBest : ByteArray := prog_12_method_68_code
def yX10_findBest : MethodName := ⟨RX10, "findBest", "(I)I"⟩
abbrev cX10_best : ByteArray := prog_12_method_69_code
def yX10_best : MethodName := ⟨RX10, "best", "(II)I"⟩
abbrev cX10_weight : ByteArray := prog_12_method_70_code
def yX10_weight : MethodName := ⟨RX10, "weight", "(I)I"⟩
abbrev cX10_rows : ByteArray := prog_12_method_71_code
def yX10_rows : MethodName := ⟨RX10, "rows", "()I"⟩
abbrev cX10_wished : ByteArray := prog_12_method_72_code
def yX10_wished : MethodName := ⟨RX10, "wished", "(II)I"⟩
abbrev cX10_goWishes : ByteArray := prog_12_method_73_code
def yX10_goWishes : MethodName := ⟨RX10, "goWishes", "(I)V"⟩
abbrev cX10_findGains : ByteArray := prog_12_method_74_code
def yX10_findGains : MethodName := ⟨RX10, "findGains", "()V"⟩
abbrev cX10_isRest : ByteArray := prog_12_method_75_code
def yX10_isRest : MethodName := ⟨RX10, "isRest", "(I)Z"⟩
abbrev cX10_rests : ByteArray := prog_12_method_76_code
def yX10_rests : MethodName := ⟨RX10, "rests", "()I"⟩
abbrev cX10_rest : ByteArray := prog_12_method_77_code
def yX10_rest : MethodName := ⟨RX10, "rest", "(II)I"⟩
abbrev cX10_settle : ByteArray := prog_12_method_78_code
def yX10_settle : MethodName := ⟨RX10, "settle", "()I"⟩
abbrev cX10_longer : ByteArray := prog_12_method_79_code
def yX10_longer : MethodName := ⟨RX10, "longer", "(III)I"⟩
abbrev cX10_guard : ByteArray := prog_12_method_80_code
def yX10_guard : MethodName := ⟨RX10, "guard", "(II)I"⟩
abbrev cX10_holds : ByteArray := prog_12_method_81_code
def yX10_holds : MethodName := ⟨RX10, "holds", "(I)Z"⟩
abbrev cX10_isRing : ByteArray := prog_12_method_82_code
def yX10_isRing : MethodName := ⟨RX10, "isRing", "(I)Z"⟩
abbrev cX10_rings : ByteArray := prog_12_method_83_code
def yX10_rings : MethodName := ⟨RX10, "rings", "(I)I"⟩
abbrev cX10_when : ByteArray := prog_12_method_84_code
def yX10_when : MethodName := ⟨RX10, "when", "(I)I"⟩
abbrev cX10_bound : ByteArray := prog_12_method_85_code
def yX10_bound : MethodName := ⟨RX10, "bound", "(II)I"⟩
abbrev cX10_tryLaw : ByteArray := prog_12_method_86_code
def yX10_tryLaw : MethodName := ⟨RX10, "tryLaw", "(ZII)V"⟩
abbrev cX10_law : ByteArray := prog_12_method_87_code
def yX10_law : MethodName := ⟨RX10, "law", "(ZIII)I"⟩
abbrev cX10_bestLaw : ByteArray := prog_12_method_88_code
def yX10_bestLaw : MethodName := ⟨RX10, "bestLaw", "(I)I"⟩
abbrev cX10_feast : ByteArray := prog_12_method_89_code
def yX10_feast : MethodName := ⟨RX10, "feast", "()I"⟩
abbrev cX10_behindTurns : ByteArray := prog_12_method_90_code
def yX10_behindTurns : MethodName := ⟨RX10, "behindTurns", "(II)I"⟩
abbrev cX10_allHome : ByteArray := prog_12_method_91_code
def yX10_allHome : MethodName := ⟨RX10, "allHome", "(I)Z"⟩
abbrev cX10_turned : ByteArray := prog_12_method_92_code
def yX10_turned : MethodName := ⟨RX10, "turned", "(II)I"⟩
abbrev cX10_whom : ByteArray := prog_12_method_93_code
def yX10_whom : MethodName := ⟨RX10, "whom", "(I)I"⟩
abbrev cX10_edge : ByteArray := prog_12_method_94_code
def yX10_edge : MethodName := ⟨RX10, "edge", "(II)I"⟩
abbrev cX10_show : ByteArray := prog_12_method_95_code
def yX10_show : MethodName := ⟨RX10, "show", "(I)I"⟩
abbrev cX10_readBook : ByteArray := prog_12_method_96_code
def yX10_readBook : MethodName := ⟨RX10, "readBook", "()Z"⟩
abbrev cX10_isInOrder : ByteArray := prog_12_method_97_code
def yX10_isInOrder : MethodName := ⟨RX10, "isInOrder", "(I)Z"⟩
abbrev cX10_book : ByteArray := prog_12_method_98_code
def yX10_book : MethodName := ⟨RX10, "book", "()I"⟩
abbrev cX10_count : ByteArray := prog_12_method_99_code
def yX10_count : MethodName := ⟨RX10, "count", "(I)I"⟩
def RJ9 : String := "java/lang/Math"
def TJ9 : u_T := fun k => match k with
  | _ => ("", "", "", false)
def tyJ9 : Nat → FieldType := fun k => match k with
  | _ => .int
theorem nmJ9 : ∀ a, a < 0 → ∀ b, b < 0 → a ≠ b → (TJ9 a).2.1 ≠ (TJ9 b).2.1 := by decide +kernel
theorem tyJ9_ok : ∀ k, k < 0 → parseFieldDescriptor (TJ9 k).2.2.1 = some (tyJ9 k) := by decide +kernel
abbrev cJ9_max_7cf53 : ByteArray := prog_13_method_65_code
def yJ9_max_7cf53 : MethodName := ⟨RJ9, "max", "(II)I"⟩
abbrev cJ9_min_7cf53 : ByteArray := prog_13_method_69_code
def yJ9_min_7cf53 : MethodName := ⟨RJ9, "min", "(II)I"⟩
def RJ0 : String := "java/lang/String"
def TJ0 : u_T := fun k => match k with
  | _ => ("", "", "", false)
def tyJ0 : Nat → FieldType := fun k => match k with
  | _ => .int
theorem nmJ0 : ∀ a, a < 0 → ∀ b, b < 0 → a ≠ b → (TJ0 a).2.1 ≠ (TJ0 b).2.1 := by decide +kernel
theorem tyJ0_ok : ∀ k, k < 0 → parseFieldDescriptor (TJ0 k).2.2.1 = some (tyJ0 k) := by decide +kernel
abbrev cJ0_length_8abf5 : ByteArray := prog_14_method_54_code
def yJ0_length_8abf5 : MethodName := ⟨RJ0, "length", "()I"⟩
abbrev cJ0_charAt_5068e : ByteArray := prog_14_method_56_code
def yJ0_charAt_5068e : MethodName := ⟨RJ0, "charAt", "(I)C"⟩
abbrev cJ0_coder_7d493 : ByteArray := prog_14_method_152_code
def yJ0_coder_7d493 : MethodName := ⟨RJ0, "coder", "()B"⟩
abbrev cJ0_isLatin1_aae02 : ByteArray := prog_14_method_154_code
def yJ0_isLatin1_aae02 : MethodName := ⟨RJ0, "isLatin1", "()Z"⟩
abbrev cJ0_checkIndex_df160 : ByteArray := prog_14_method_155_code
def yJ0_checkIndex_df160 : MethodName := ⟨RJ0, "checkIndex", "(II)V"⟩
def RJ1 : String := "java/lang/StringLatin1"
def TJ1 : u_T := fun k => match k with
  | _ => ("", "", "", false)
def tyJ1 : Nat → FieldType := fun k => match k with
  | _ => .int
theorem nmJ1 : ∀ a, a < 0 → ∀ b, b < 0 → a ≠ b → (TJ1 a).2.1 ≠ (TJ1 b).2.1 := by decide +kernel
theorem tyJ1_ok : ∀ k, k < 0 → parseFieldDescriptor (TJ1 k).2.2.1 = some (tyJ1 k) := by decide +kernel
abbrev cJ1_charAt_3b067 : ByteArray := prog_15_method_2_code
def yJ1_charAt_3b067 : MethodName := ⟨RJ1, "charAt", "([BI)C"⟩
def RJ2 : String := "java/lang/StringUTF16"
def TJ2 : u_T := fun k => match k with
  | _ => ("", "", "", false)
def tyJ2 : Nat → FieldType := fun k => match k with
  | _ => .int
theorem nmJ2 : ∀ a, a < 0 → ∀ b, b < 0 → a ≠ b → (TJ2 a).2.1 ≠ (TJ2 b).2.1 := by decide +kernel
theorem tyJ2_ok : ∀ k, k < 0 → parseFieldDescriptor (TJ2 k).2.2.1 = some (tyJ2 k) := by decide +kernel
abbrev cJ2_getChar_3b067 : ByteArray := prog_16_method_5_code
def yJ2_getChar_3b067 : MethodName := ⟨RJ2, "getChar", "([BI)C"⟩
abbrev cJ2_length_9d52b : ByteArray := prog_16_method_6_code
def yJ2_length_9d52b : MethodName := ⟨RJ2, "length", "([B)I"⟩
abbrev cJ2_charAt_3b067 : ByteArray := prog_16_method_83_code
def yJ2_charAt_3b067 : MethodName := ⟨RJ2, "charAt", "([BI)C"⟩
abbrev cJ2_checkIndex_2214a : ByteArray := prog_16_method_91_code
def yJ2_checkIndex_2214a : MethodName := ⟨RJ2, "checkIndex", "(I[B)V"⟩
def RJ10 : String := "java/lang/System"
def TJ10 : u_T := fun k => match k with
  | _ => ("", "", "", false)
def tyJ10 : Nat → FieldType := fun k => match k with
  | _ => .int
theorem nmJ10 : ∀ a, a < 0 → ∀ b, b < 0 → a ≠ b → (TJ10 a).2.1 ≠ (TJ10 b).2.1 := by decide +kernel
theorem tyJ10_ok : ∀ k, k < 0 → parseFieldDescriptor (TJ10 k).2.2.1 = some (tyJ10 k) := by decide +kernel
def RJ3 : String := "jdk/internal/util/Preconditions"
def TJ3 : u_T := fun k => match k with
  | _ => ("", "", "", false)
def tyJ3 : Nat → FieldType := fun k => match k with
  | _ => .int
theorem nmJ3 : ∀ a, a < 0 → ∀ b, b < 0 → a ≠ b → (TJ3 a).2.1 ≠ (TJ3 b).2.1 := by decide +kernel
theorem tyJ3_ok : ∀ k, k < 0 → parseFieldDescriptor (TJ3 k).2.2.1 = some (tyJ3 k) := by decide +kernel
abbrev cJ3_checkIndex_8e157 : ByteArray := prog_18_method_11_code
def yJ3_checkIndex_8e157 : MethodName := ⟨RJ3, "checkIndex", "(IILjava/util/function/BiFunction;)I"⟩
def RL : String := "OwnedByGuestsLaw"
abbrev cL_law : ByteArray := code
def yL_law : MethodName := ⟨RL, "law", "([I)Z"⟩
theorem dX0_init_0 : decode cX0_init 0 = .ok (.aload_n 0, 1) := by decide +kernel
theorem dX0_init_1 : decode cX0_init 1 = .ok (.invokespecial 3, 3) := by decide +kernel
theorem dX0_init_4 : decode cX0_init 4 = .ok (.aload_n 0, 1) := by decide +kernel
theorem dX0_init_5 : decode cX0_init 5 = .ok (.iconst 5, 1) := by decide +kernel
theorem dX0_init_6 : decode cX0_init 6 = .ok (.newarray .int, 2) := by decide +kernel
theorem dX0_init_8 : decode cX0_init 8 = .ok (.putfield 9, 3) := by decide +kernel
theorem dX0_init_11 : decode cX0_init 11 = .ok (.aload_n 0, 1) := by decide +kernel
theorem dX0_init_12 : decode cX0_init 12 = .ok (.iconst 5, 1) := by decide +kernel
theorem dX0_init_13 : decode cX0_init 13 = .ok (.newarray .int, 2) := by decide +kernel
theorem dX0_init_15 : decode cX0_init 15 = .ok (.putfield 15, 3) := by decide +kernel
theorem dX0_init_18 : decode cX0_init 18 = .ok (.return_, 1) := by decide +kernel
theorem dX0_begin_0 : decode cX0_begin 0 = .ok (.aload_n 0, 1) := by decide +kernel
theorem dX0_begin_1 : decode cX0_begin 1 = .ok (.iload_n 1, 1) := by decide +kernel
theorem dX0_begin_2 : decode cX0_begin 2 = .ok (.iconst 5, 1) := by decide +kernel
theorem dX0_begin_3 : decode cX0_begin 3 = .ok (.invokestatic 18, 3) := by decide +kernel
theorem dX0_begin_6 : decode cX0_begin 6 = .ok (.putfield 24, 3) := by decide +kernel
theorem dX0_begin_9 : decode cX0_begin 9 = .ok (.iconst 0, 1) := by decide +kernel
theorem dX0_begin_10 : decode cX0_begin 10 = .ok (.istore_n 3, 1) := by decide +kernel
theorem dX0_begin_11 : decode cX0_begin 11 = .ok (.iload_n 3, 1) := by decide +kernel
theorem dX0_begin_12 : decode cX0_begin 12 = .ok (.aload_n 0, 1) := by decide +kernel
theorem dX0_begin_13 : decode cX0_begin 13 = .ok (.getfield 24, 3) := by decide +kernel
theorem dX0_begin_16 : decode cX0_begin 16 = .ok (.if_icmp .ge 23, 3) := by decide +kernel
theorem dX0_begin_19 : decode cX0_begin 19 = .ok (.aload_n 0, 1) := by decide +kernel
theorem dX0_begin_20 : decode cX0_begin 20 = .ok (.getfield 9, 3) := by decide +kernel
theorem dX0_begin_23 : decode cX0_begin 23 = .ok (.iload_n 3, 1) := by decide +kernel
theorem dX0_begin_24 : decode cX0_begin 24 = .ok (.iconst 0, 1) := by decide +kernel
theorem dX0_begin_25 : decode cX0_begin 25 = .ok (.iastore, 1) := by decide +kernel
theorem dX0_begin_26 : decode cX0_begin 26 = .ok (.aload_n 0, 1) := by decide +kernel
theorem dX0_begin_27 : decode cX0_begin 27 = .ok (.getfield 15, 3) := by decide +kernel
theorem dX0_begin_30 : decode cX0_begin 30 = .ok (.iload_n 3, 1) := by decide +kernel
theorem dX0_begin_31 : decode cX0_begin 31 = .ok (.iload_n 2, 1) := by decide +kernel
theorem dX0_begin_32 : decode cX0_begin 32 = .ok (.iastore, 1) := by decide +kernel
theorem dX0_begin_33 : decode cX0_begin 33 = .ok (.iinc 3 1, 3) := by decide +kernel
theorem dX0_begin_36 : decode cX0_begin 36 = .ok (.goto (-25), 3) := by decide +kernel
theorem dX0_begin_39 : decode cX0_begin 39 = .ok (.return_, 1) := by decide +kernel
theorem dX0_goOn_0 : decode cX0_goOn 0 = .ok (.aload_n 0, 1) := by decide +kernel
theorem dX0_goOn_1 : decode cX0_goOn 1 = .ok (.getfield 24, 3) := by decide +kernel
theorem dX0_goOn_4 : decode cX0_goOn 4 = .ok (.iconst 1, 1) := by decide +kernel
theorem dX0_goOn_5 : decode cX0_goOn 5 = .ok (.isub, 1) := by decide +kernel
theorem dX0_goOn_6 : decode cX0_goOn 6 = .ok (.istore_n 1, 1) := by decide +kernel
theorem dX0_goOn_7 : decode cX0_goOn 7 = .ok (.iload_n 1, 1) := by decide +kernel
theorem dX0_goOn_8 : decode cX0_goOn 8 = .ok (.ifCond .lt 45, 3) := by decide +kernel
theorem dX0_goOn_11 : decode cX0_goOn 11 = .ok (.aload_n 0, 1) := by decide +kernel
theorem dX0_goOn_12 : decode cX0_goOn 12 = .ok (.getfield 9, 3) := by decide +kernel
theorem dX0_goOn_15 : decode cX0_goOn 15 = .ok (.iload_n 1, 1) := by decide +kernel
theorem dX0_goOn_16 : decode cX0_goOn 16 = .ok (.iaload, 1) := by decide +kernel
theorem dX0_goOn_17 : decode cX0_goOn 17 = .ok (.iconst 1, 1) := by decide +kernel
theorem dX0_goOn_18 : decode cX0_goOn 18 = .ok (.iadd, 1) := by decide +kernel
theorem dX0_goOn_19 : decode cX0_goOn 19 = .ok (.aload_n 0, 1) := by decide +kernel
theorem dX0_goOn_20 : decode cX0_goOn 20 = .ok (.getfield 15, 3) := by decide +kernel
theorem dX0_goOn_23 : decode cX0_goOn 23 = .ok (.iload_n 1, 1) := by decide +kernel
theorem dX0_goOn_24 : decode cX0_goOn 24 = .ok (.iaload, 1) := by decide +kernel
theorem dX0_goOn_25 : decode cX0_goOn 25 = .ok (.if_icmp .ge 15, 3) := by decide +kernel
theorem dX0_goOn_28 : decode cX0_goOn 28 = .ok (.aload_n 0, 1) := by decide +kernel
theorem dX0_goOn_29 : decode cX0_goOn 29 = .ok (.getfield 9, 3) := by decide +kernel
theorem dX0_goOn_32 : decode cX0_goOn 32 = .ok (.iload_n 1, 1) := by decide +kernel
theorem dX0_goOn_33 : decode cX0_goOn 33 = .ok (.dup2, 1) := by decide +kernel
theorem dX0_goOn_34 : decode cX0_goOn 34 = .ok (.iaload, 1) := by decide +kernel
theorem dX0_goOn_35 : decode cX0_goOn 35 = .ok (.iconst 1, 1) := by decide +kernel
theorem dX0_goOn_36 : decode cX0_goOn 36 = .ok (.iadd, 1) := by decide +kernel
theorem dX0_goOn_37 : decode cX0_goOn 37 = .ok (.iastore, 1) := by decide +kernel
theorem dX0_goOn_38 : decode cX0_goOn 38 = .ok (.iload_n 1, 1) := by decide +kernel
theorem dX0_goOn_39 : decode cX0_goOn 39 = .ok (.ireturn, 1) := by decide +kernel
theorem dX0_goOn_40 : decode cX0_goOn 40 = .ok (.aload_n 0, 1) := by decide +kernel
theorem dX0_goOn_41 : decode cX0_goOn 41 = .ok (.getfield 9, 3) := by decide +kernel
theorem dX0_goOn_44 : decode cX0_goOn 44 = .ok (.iload_n 1, 1) := by decide +kernel
theorem dX0_goOn_45 : decode cX0_goOn 45 = .ok (.iconst 0, 1) := by decide +kernel
theorem dX0_goOn_46 : decode cX0_goOn 46 = .ok (.iastore, 1) := by decide +kernel
theorem dX0_goOn_47 : decode cX0_goOn 47 = .ok (.iinc 1 (-1), 3) := by decide +kernel
theorem dX0_goOn_50 : decode cX0_goOn 50 = .ok (.goto (-43), 3) := by decide +kernel
theorem dX0_goOn_53 : decode cX0_goOn 53 = .ok (.iconst (-1), 1) := by decide +kernel
theorem dX0_goOn_54 : decode cX0_goOn 54 = .ok (.ireturn, 1) := by decide +kernel
set_option maxRecDepth 20000 in
theorem dX1_init_0 : decode cX1_init 0 = .ok (.aload_n 0, 1) := by decide +kernel
theorem dX1_init_1 : decode cX1_init 1 = .ok (.invokespecial 3, 3) := by decide +kernel
theorem dX1_init_4 : decode cX1_init 4 = .ok (.aload_n 0, 1) := by decide +kernel
theorem dX1_init_5 : decode cX1_init 5 = .ok (.new 9, 3) := by decide +kernel
theorem dX1_init_8 : decode cX1_init 8 = .ok (.dup, 1) := by decide +kernel
theorem dX1_init_9 : decode cX1_init 9 = .ok (.invokespecial 11, 3) := by decide +kernel
theorem dX1_init_12 : decode cX1_init 12 = .ok (.putfield 12, 3) := by decide +kernel
theorem dX1_init_15 : decode cX1_init 15 = .ok (.aload_n 0, 1) := by decide +kernel
theorem dX1_init_16 : decode cX1_init 16 = .ok (.new 18, 3) := by decide +kernel
theorem dX1_init_19 : decode cX1_init 19 = .ok (.dup, 1) := by decide +kernel
theorem dX1_init_20 : decode cX1_init 20 = .ok (.invokespecial 20, 3) := by decide +kernel
theorem dX1_init_23 : decode cX1_init 23 = .ok (.putfield 21, 3) := by decide +kernel
theorem dX1_init_26 : decode cX1_init 26 = .ok (.aload_n 0, 1) := by decide +kernel
theorem dX1_init_27 : decode cX1_init 27 = .ok (.iconst 1, 1) := by decide +kernel
theorem dX1_init_28 : decode cX1_init 28 = .ok (.putfield 25, 3) := by decide +kernel
theorem dX1_init_31 : decode cX1_init 31 = .ok (.aload_n 0, 1) := by decide +kernel
theorem dX1_init_32 : decode cX1_init 32 = .ok (.iconst 5, 1) := by decide +kernel
theorem dX1_init_33 : decode cX1_init 33 = .ok (.newarray .int, 2) := by decide +kernel
theorem dX1_init_35 : decode cX1_init 35 = .ok (.putfield 29, 3) := by decide +kernel
theorem dX1_init_38 : decode cX1_init 38 = .ok (.return_, 1) := by decide +kernel
set_option maxRecDepth 20000 in
theorem dX1_begin_0 : decode cX1_begin 0 = .ok (.aload_n 0, 1) := by decide +kernel
theorem dX1_begin_1 : decode cX1_begin 1 = .ok (.getfield 12, 3) := by decide +kernel
theorem dX1_begin_4 : decode cX1_begin 4 = .ok (.aload_n 1, 1) := by decide +kernel
theorem dX1_begin_5 : decode cX1_begin 5 = .ok (.invokevirtual 33, 3) := by decide +kernel
theorem dX1_begin_8 : decode cX1_begin 8 = .ok (.aload_n 0, 1) := by decide +kernel
theorem dX1_begin_9 : decode cX1_begin 9 = .ok (.getfield 21, 3) := by decide +kernel
theorem dX1_begin_12 : decode cX1_begin 12 = .ok (.aload_n 1, 1) := by decide +kernel
theorem dX1_begin_13 : decode cX1_begin 13 = .ok (.invokevirtual 37, 3) := by decide +kernel
theorem dX1_begin_16 : decode cX1_begin 16 = .ok (.return_, 1) := by decide +kernel
set_option maxRecDepth 20000 in
theorem dX1_copyFrom_0 : decode cX1_copyFrom 0 = .ok (.aload_n 0, 1) := by decide +kernel
theorem dX1_copyFrom_1 : decode cX1_copyFrom 1 = .ok (.getfield 12, 3) := by decide +kernel
theorem dX1_copyFrom_4 : decode cX1_copyFrom 4 = .ok (.aload_n 1, 1) := by decide +kernel
theorem dX1_copyFrom_5 : decode cX1_copyFrom 5 = .ok (.getfield 12, 3) := by decide +kernel
theorem dX1_copyFrom_8 : decode cX1_copyFrom 8 = .ok (.invokevirtual 38, 3) := by decide +kernel
theorem dX1_copyFrom_11 : decode cX1_copyFrom 11 = .ok (.aload_n 0, 1) := by decide +kernel
theorem dX1_copyFrom_12 : decode cX1_copyFrom 12 = .ok (.getfield 21, 3) := by decide +kernel
theorem dX1_copyFrom_15 : decode cX1_copyFrom 15 = .ok (.aload_n 1, 1) := by decide +kernel
theorem dX1_copyFrom_16 : decode cX1_copyFrom 16 = .ok (.getfield 21, 3) := by decide +kernel
theorem dX1_copyFrom_19 : decode cX1_copyFrom 19 = .ok (.invokevirtual 42, 3) := by decide +kernel
theorem dX1_copyFrom_22 : decode cX1_copyFrom 22 = .ok (.aload_n 0, 1) := by decide +kernel
theorem dX1_copyFrom_23 : decode cX1_copyFrom 23 = .ok (.aload_n 1, 1) := by decide +kernel
theorem dX1_copyFrom_24 : decode cX1_copyFrom 24 = .ok (.getfield 25, 3) := by decide +kernel
theorem dX1_copyFrom_27 : decode cX1_copyFrom 27 = .ok (.putfield 25, 3) := by decide +kernel
theorem dX1_copyFrom_30 : decode cX1_copyFrom 30 = .ok (.return_, 1) := by decide +kernel
set_option maxRecDepth 20000 in
theorem dX1_passQuarter_0 : decode cX1_passQuarter 0 = .ok (.aload_n 0, 1) := by decide +kernel
theorem dX1_passQuarter_1 : decode cX1_passQuarter 1 = .ok (.getfield 21, 3) := by decide +kernel
theorem dX1_passQuarter_4 : decode cX1_passQuarter 4 = .ok (.aload_n 1, 1) := by decide +kernel
theorem dX1_passQuarter_5 : decode cX1_passQuarter 5 = .ok (.aload_n 0, 1) := by decide +kernel
theorem dX1_passQuarter_6 : decode cX1_passQuarter 6 = .ok (.getfield 12, 3) := by decide +kernel
theorem dX1_passQuarter_9 : decode cX1_passQuarter 9 = .ok (.getfield 45, 3) := by decide +kernel
theorem dX1_passQuarter_12 : decode cX1_passQuarter 12 = .ok (.aload_n 0, 1) := by decide +kernel
theorem dX1_passQuarter_13 : decode cX1_passQuarter 13 = .ok (.getfield 29, 3) := by decide +kernel
theorem dX1_passQuarter_16 : decode cX1_passQuarter 16 = .ok (.invokevirtual 48, 3) := by decide +kernel
theorem dX1_passQuarter_19 : decode cX1_passQuarter 19 = .ok (.aload_n 1, 1) := by decide +kernel
theorem dX1_passQuarter_20 : decode cX1_passQuarter 20 = .ok (.getfield 52, 3) := by decide +kernel
theorem dX1_passQuarter_23 : decode cX1_passQuarter 23 = .ok (.iconst 5, 1) := by decide +kernel
theorem dX1_passQuarter_24 : decode cX1_passQuarter 24 = .ok (.iaload, 1) := by decide +kernel
theorem dX1_passQuarter_25 : decode cX1_passQuarter 25 = .ok (.ifCond .le 8, 3) := by decide +kernel
theorem dX1_passQuarter_28 : decode cX1_passQuarter 28 = .ok (.aload_n 0, 1) := by decide +kernel
theorem dX1_passQuarter_29 : decode cX1_passQuarter 29 = .ok (.aload_n 1, 1) := by decide +kernel
theorem dX1_passQuarter_30 : decode cX1_passQuarter 30 = .ok (.invokevirtual 57, 3) := by decide +kernel
theorem dX1_passQuarter_33 : decode cX1_passQuarter 33 = .ok (.aload_n 0, 1) := by decide +kernel
theorem dX1_passQuarter_34 : decode cX1_passQuarter 34 = .ok (.getfield 12, 3) := by decide +kernel
theorem dX1_passQuarter_37 : decode cX1_passQuarter 37 = .ok (.aload_n 1, 1) := by decide +kernel
theorem dX1_passQuarter_38 : decode cX1_passQuarter 38 = .ok (.aload_n 0, 1) := by decide +kernel
theorem dX1_passQuarter_39 : decode cX1_passQuarter 39 = .ok (.getfield 21, 3) := by decide +kernel
theorem dX1_passQuarter_42 : decode cX1_passQuarter 42 = .ok (.getfield 60, 3) := by decide +kernel
theorem dX1_passQuarter_45 : decode cX1_passQuarter 45 = .ok (.aload_n 0, 1) := by decide +kernel
theorem dX1_passQuarter_46 : decode cX1_passQuarter 46 = .ok (.getfield 29, 3) := by decide +kernel
theorem dX1_passQuarter_49 : decode cX1_passQuarter 49 = .ok (.invokevirtual 63, 3) := by decide +kernel
theorem dX1_passQuarter_52 : decode cX1_passQuarter 52 = .ok (.return_, 1) := by decide +kernel
set_option maxRecDepth 20000 in
theorem dX1_stroll_0 : decode cX1_stroll 0 = .ok (.iconst 0, 1) := by decide +kernel
theorem dX1_stroll_1 : decode cX1_stroll 1 = .ok (.istore_n 2, 1) := by decide +kernel
theorem dX1_stroll_2 : decode cX1_stroll 2 = .ok (.iload_n 2, 1) := by decide +kernel
theorem dX1_stroll_3 : decode cX1_stroll 3 = .ok (.aload_n 1, 1) := by decide +kernel
theorem dX1_stroll_4 : decode cX1_stroll 4 = .ok (.getfield 67, 3) := by decide +kernel
theorem dX1_stroll_7 : decode cX1_stroll 7 = .ok (.if_icmp .ge 82, 3) := by decide +kernel
theorem dX1_stroll_10 : decode cX1_stroll 10 = .ok (.aload_n 0, 1) := by decide +kernel
theorem dX1_stroll_11 : decode cX1_stroll 11 = .ok (.bipush 100, 2) := by decide +kernel
theorem dX1_stroll_13 : decode cX1_stroll 13 = .ok (.invokevirtual 70, 3) := by decide +kernel
theorem dX1_stroll_16 : decode cX1_stroll 16 = .ok (.aload_n 1, 1) := by decide +kernel
theorem dX1_stroll_17 : decode cX1_stroll 17 = .ok (.getfield 52, 3) := by decide +kernel
theorem dX1_stroll_20 : decode cX1_stroll 20 = .ok (.iconst 5, 1) := by decide +kernel
theorem dX1_stroll_21 : decode cX1_stroll 21 = .ok (.iaload, 1) := by decide +kernel
theorem dX1_stroll_22 : decode cX1_stroll 22 = .ok (.if_icmp .ge 7, 3) := by decide +kernel
theorem dX1_stroll_25 : decode cX1_stroll 25 = .ok (.iconst 1, 1) := by decide +kernel
theorem dX1_stroll_26 : decode cX1_stroll 26 = .ok (.goto 4, 3) := by decide +kernel
theorem dX1_stroll_29 : decode cX1_stroll 29 = .ok (.iconst 0, 1) := by decide +kernel
theorem dX1_stroll_30 : decode cX1_stroll 30 = .ok (.istore_n 3, 1) := by decide +kernel
theorem dX1_stroll_31 : decode cX1_stroll 31 = .ok (.iload_n 3, 1) := by decide +kernel
theorem dX1_stroll_32 : decode cX1_stroll 32 = .ok (.ifCond .eq 51, 3) := by decide +kernel
theorem dX1_stroll_35 : decode cX1_stroll 35 = .ok (.aload_n 1, 1) := by decide +kernel
theorem dX1_stroll_36 : decode cX1_stroll 36 = .ok (.iload_n 2, 1) := by decide +kernel
theorem dX1_stroll_37 : decode cX1_stroll 37 = .ok (.aload_n 0, 1) := by decide +kernel
theorem dX1_stroll_38 : decode cX1_stroll 38 = .ok (.getfield 12, 3) := by decide +kernel
theorem dX1_stroll_41 : decode cX1_stroll 41 = .ok (.getfield 45, 3) := by decide +kernel
theorem dX1_stroll_44 : decode cX1_stroll 44 = .ok (.invokevirtual 74, 3) := by decide +kernel
theorem dX1_stroll_47 : decode cX1_stroll 47 = .ok (.ifCond .ne 36, 3) := by decide +kernel
theorem dX1_stroll_50 : decode cX1_stroll 50 = .ok (.aload_n 0, 1) := by decide +kernel
theorem dX1_stroll_51 : decode cX1_stroll 51 = .ok (.aload_n 1, 1) := by decide +kernel
theorem dX1_stroll_52 : decode cX1_stroll 52 = .ok (.getfield 78, 3) := by decide +kernel
theorem dX1_stroll_55 : decode cX1_stroll 55 = .ok (.iconst 1, 1) := by decide +kernel
theorem dX1_stroll_56 : decode cX1_stroll 56 = .ok (.iadd, 1) := by decide +kernel
theorem dX1_stroll_57 : decode cX1_stroll 57 = .ok (.invokevirtual 70, 3) := by decide +kernel
theorem dX1_stroll_60 : decode cX1_stroll 60 = .ok (.istore 4, 2) := by decide +kernel
theorem dX1_stroll_62 : decode cX1_stroll 62 = .ok (.aload_n 0, 1) := by decide +kernel
theorem dX1_stroll_63 : decode cX1_stroll 63 = .ok (.getfield 29, 3) := by decide +kernel
theorem dX1_stroll_66 : decode cX1_stroll 66 = .ok (.iload_n 2, 1) := by decide +kernel
theorem dX1_stroll_67 : decode cX1_stroll 67 = .ok (.iload 4, 2) := by decide +kernel
theorem dX1_stroll_69 : decode cX1_stroll 69 = .ok (.aload_n 1, 1) := by decide +kernel
theorem dX1_stroll_70 : decode cX1_stroll 70 = .ok (.getfield 78, 3) := by decide +kernel
theorem dX1_stroll_73 : decode cX1_stroll 73 = .ok (.if_icmp .ge 8, 3) := by decide +kernel
theorem dX1_stroll_76 : decode cX1_stroll 76 = .ok (.iload 4, 2) := by decide +kernel
theorem dX1_stroll_78 : decode cX1_stroll 78 = .ok (.goto 4, 3) := by decide +kernel
theorem dX1_stroll_81 : decode cX1_stroll 81 = .ok (.iconst (-1), 1) := by decide +kernel
theorem dX1_stroll_82 : decode cX1_stroll 82 = .ok (.iastore, 1) := by decide +kernel
theorem dX1_stroll_83 : decode cX1_stroll 83 = .ok (.iinc 2 1, 3) := by decide +kernel
theorem dX1_stroll_86 : decode cX1_stroll 86 = .ok (.goto (-84), 3) := by decide +kernel
theorem dX1_stroll_89 : decode cX1_stroll 89 = .ok (.return_, 1) := by decide +kernel
theorem dX1_draw_0 : decode cX1_draw 0 = .ok (.aload_n 0, 1) := by decide +kernel
theorem dX1_draw_1 : decode cX1_draw 1 = .ok (.ldc2_w 81, 3) := by decide +kernel
theorem dX1_draw_4 : decode cX1_draw 4 = .ok (.aload_n 0, 1) := by decide +kernel
theorem dX1_draw_5 : decode cX1_draw 5 = .ok (.getfield 25, 3) := by decide +kernel
theorem dX1_draw_8 : decode cX1_draw 8 = .ok (.i2l, 1) := by decide +kernel
theorem dX1_draw_9 : decode cX1_draw 9 = .ok (.lmul, 1) := by decide +kernel
theorem dX1_draw_10 : decode cX1_draw 10 = .ok (.ldc2_w 83, 3) := by decide +kernel
theorem dX1_draw_13 : decode cX1_draw 13 = .ok (.ladd, 1) := by decide +kernel
theorem dX1_draw_14 : decode cX1_draw 14 = .ok (.ldc2_w 85, 3) := by decide +kernel
theorem dX1_draw_17 : decode cX1_draw 17 = .ok (.land, 1) := by decide +kernel
theorem dX1_draw_18 : decode cX1_draw 18 = .ok (.l2i, 1) := by decide +kernel
theorem dX1_draw_19 : decode cX1_draw 19 = .ok (.putfield 25, 3) := by decide +kernel
theorem dX1_draw_22 : decode cX1_draw 22 = .ok (.iload_n 1, 1) := by decide +kernel
theorem dX1_draw_23 : decode cX1_draw 23 = .ok (.ifCond .le 15, 3) := by decide +kernel
theorem dX1_draw_26 : decode cX1_draw 26 = .ok (.aload_n 0, 1) := by decide +kernel
theorem dX1_draw_27 : decode cX1_draw 27 = .ok (.getfield 25, 3) := by decide +kernel
theorem dX1_draw_30 : decode cX1_draw 30 = .ok (.bipush 16, 2) := by decide +kernel
theorem dX1_draw_32 : decode cX1_draw 32 = .ok (.ishr, 1) := by decide +kernel
theorem dX1_draw_33 : decode cX1_draw 33 = .ok (.iload_n 1, 1) := by decide +kernel
theorem dX1_draw_34 : decode cX1_draw 34 = .ok (.irem, 1) := by decide +kernel
theorem dX1_draw_35 : decode cX1_draw 35 = .ok (.goto 4, 3) := by decide +kernel
theorem dX1_draw_38 : decode cX1_draw 38 = .ok (.iconst 0, 1) := by decide +kernel
theorem dX1_draw_39 : decode cX1_draw 39 = .ok (.ireturn, 1) := by decide +kernel
set_option maxRecDepth 20000 in
theorem dX2_init_0 : decode cX2_init 0 = .ok (.aload_n 0, 1) := by decide +kernel
theorem dX2_init_1 : decode cX2_init 1 = .ok (.invokespecial 3, 3) := by decide +kernel
theorem dX2_init_4 : decode cX2_init 4 = .ok (.aload_n 0, 1) := by decide +kernel
theorem dX2_init_5 : decode cX2_init 5 = .ok (.sipush 150, 3) := by decide +kernel
theorem dX2_init_8 : decode cX2_init 8 = .ok (.newarray .int, 2) := by decide +kernel
theorem dX2_init_10 : decode cX2_init 10 = .ok (.putfield 11, 3) := by decide +kernel
theorem dX2_init_13 : decode cX2_init 13 = .ok (.aload_n 0, 1) := by decide +kernel
theorem dX2_init_14 : decode cX2_init 14 = .ok (.sipush 150, 3) := by decide +kernel
theorem dX2_init_17 : decode cX2_init 17 = .ok (.newarray .int, 2) := by decide +kernel
theorem dX2_init_19 : decode cX2_init 19 = .ok (.putfield 15, 3) := by decide +kernel
theorem dX2_init_22 : decode cX2_init 22 = .ok (.aload_n 0, 1) := by decide +kernel
theorem dX2_init_23 : decode cX2_init 23 = .ok (.sipush 150, 3) := by decide +kernel
theorem dX2_init_26 : decode cX2_init 26 = .ok (.newarray .int, 2) := by decide +kernel
theorem dX2_init_28 : decode cX2_init 28 = .ok (.putfield 18, 3) := by decide +kernel
theorem dX2_init_31 : decode cX2_init 31 = .ok (.aload_n 0, 1) := by decide +kernel
theorem dX2_init_32 : decode cX2_init 32 = .ok (.new 21, 3) := by decide +kernel
theorem dX2_init_35 : decode cX2_init 35 = .ok (.dup, 1) := by decide +kernel
theorem dX2_init_36 : decode cX2_init 36 = .ok (.invokespecial 23, 3) := by decide +kernel
theorem dX2_init_39 : decode cX2_init 39 = .ok (.putfield 24, 3) := by decide +kernel
theorem dX2_init_42 : decode cX2_init 42 = .ok (.aload_n 0, 1) := by decide +kernel
theorem dX2_init_43 : decode cX2_init 43 = .ok (.iconst 5, 1) := by decide +kernel
theorem dX2_init_44 : decode cX2_init 44 = .ok (.newarray .int, 2) := by decide +kernel
theorem dX2_init_46 : decode cX2_init 46 = .ok (.putfield 28, 3) := by decide +kernel
theorem dX2_init_49 : decode cX2_init 49 = .ok (.return_, 1) := by decide +kernel
set_option maxRecDepth 20000 in
theorem dX2_readAll_0 : decode cX2_readAll 0 = .ok (.aload_n 0, 1) := by decide +kernel
theorem dX2_readAll_1 : decode cX2_readAll 1 = .ok (.iconst 0, 1) := by decide +kernel
theorem dX2_readAll_2 : decode cX2_readAll 2 = .ok (.putfield 31, 3) := by decide +kernel
theorem dX2_readAll_5 : decode cX2_readAll 5 = .ok (.aload_n 1, 1) := by decide +kernel
theorem dX2_readAll_6 : decode cX2_readAll 6 = .ok (.invokevirtual 35, 3) := by decide +kernel
theorem dX2_readAll_9 : decode cX2_readAll 9 = .ok (.iconst 1, 1) := by decide +kernel
theorem dX2_readAll_10 : decode cX2_readAll 10 = .ok (.istore_n 2, 1) := by decide +kernel
theorem dX2_readAll_11 : decode cX2_readAll 11 = .ok (.iconst 0, 1) := by decide +kernel
theorem dX2_readAll_12 : decode cX2_readAll 12 = .ok (.istore_n 3, 1) := by decide +kernel
theorem dX2_readAll_13 : decode cX2_readAll 13 = .ok (.iload_n 3, 1) := by decide +kernel
theorem dX2_readAll_14 : decode cX2_readAll 14 = .ok (.sipush 150, 3) := by decide +kernel
theorem dX2_readAll_17 : decode cX2_readAll 17 = .ok (.if_icmp .ge 26, 3) := by decide +kernel
theorem dX2_readAll_20 : decode cX2_readAll 20 = .ok (.iload_n 2, 1) := by decide +kernel
theorem dX2_readAll_21 : decode cX2_readAll 21 = .ok (.ifCond .eq 22, 3) := by decide +kernel
theorem dX2_readAll_24 : decode cX2_readAll 24 = .ok (.aload_n 1, 1) := by decide +kernel
theorem dX2_readAll_25 : decode cX2_readAll 25 = .ok (.getfield 40, 3) := by decide +kernel
theorem dX2_readAll_28 : decode cX2_readAll 28 = .ok (.ifCond .eq 15, 3) := by decide +kernel
theorem dX2_readAll_31 : decode cX2_readAll 31 = .ok (.aload_n 0, 1) := by decide +kernel
theorem dX2_readAll_32 : decode cX2_readAll 32 = .ok (.aload_n 1, 1) := by decide +kernel
theorem dX2_readAll_33 : decode cX2_readAll 33 = .ok (.invokevirtual 43, 3) := by decide +kernel
theorem dX2_readAll_36 : decode cX2_readAll 36 = .ok (.istore_n 2, 1) := by decide +kernel
theorem dX2_readAll_37 : decode cX2_readAll 37 = .ok (.iinc 3 1, 3) := by decide +kernel
theorem dX2_readAll_40 : decode cX2_readAll 40 = .ok (.goto (-27), 3) := by decide +kernel
theorem dX2_readAll_43 : decode cX2_readAll 43 = .ok (.iload_n 2, 1) := by decide +kernel
theorem dX2_readAll_44 : decode cX2_readAll 44 = .ok (.ifCond .eq 14, 3) := by decide +kernel
theorem dX2_readAll_47 : decode cX2_readAll 47 = .ok (.aload_n 1, 1) := by decide +kernel
theorem dX2_readAll_48 : decode cX2_readAll 48 = .ok (.getfield 40, 3) := by decide +kernel
theorem dX2_readAll_51 : decode cX2_readAll 51 = .ok (.ifCond .ne 7, 3) := by decide +kernel
theorem dX2_readAll_54 : decode cX2_readAll 54 = .ok (.iconst 1, 1) := by decide +kernel
theorem dX2_readAll_55 : decode cX2_readAll 55 = .ok (.goto 4, 3) := by decide +kernel
theorem dX2_readAll_58 : decode cX2_readAll 58 = .ok (.iconst 0, 1) := by decide +kernel
theorem dX2_readAll_59 : decode cX2_readAll 59 = .ok (.ireturn, 1) := by decide +kernel
set_option maxRecDepth 20000 in
theorem dX2_readRow_0 : decode cX2_readRow 0 = .ok (.aload_n 0, 1) := by decide +kernel
theorem dX2_readRow_1 : decode cX2_readRow 1 = .ok (.getfield 31, 3) := by decide +kernel
theorem dX2_readRow_4 : decode cX2_readRow 4 = .ok (.ifCond .lt 13, 3) := by decide +kernel
theorem dX2_readRow_7 : decode cX2_readRow 7 = .ok (.aload_n 0, 1) := by decide +kernel
theorem dX2_readRow_8 : decode cX2_readRow 8 = .ok (.getfield 31, 3) := by decide +kernel
theorem dX2_readRow_11 : decode cX2_readRow 11 = .ok (.sipush 150, 3) := by decide +kernel
theorem dX2_readRow_14 : decode cX2_readRow 14 = .ok (.if_icmp .lt 5, 3) := by decide +kernel
theorem dX2_readRow_17 : decode cX2_readRow 17 = .ok (.iconst 0, 1) := by decide +kernel
theorem dX2_readRow_18 : decode cX2_readRow 18 = .ok (.ireturn, 1) := by decide +kernel
theorem dX2_readRow_19 : decode cX2_readRow 19 = .ok (.aload_n 1, 1) := by decide +kernel
theorem dX2_readRow_20 : decode cX2_readRow 20 = .ok (.bipush 99, 2) := by decide +kernel
theorem dX2_readRow_22 : decode cX2_readRow 22 = .ok (.invokestatic 47, 3) := by decide +kernel
theorem dX2_readRow_25 : decode cX2_readRow 25 = .ok (.istore_n 2, 1) := by decide +kernel
theorem dX2_readRow_26 : decode cX2_readRow 26 = .ok (.aload_n 1, 1) := by decide +kernel
theorem dX2_readRow_27 : decode cX2_readRow 27 = .ok (.iconst 4, 1) := by decide +kernel
theorem dX2_readRow_28 : decode cX2_readRow 28 = .ok (.invokestatic 47, 3) := by decide +kernel
theorem dX2_readRow_31 : decode cX2_readRow 31 = .ok (.istore_n 3, 1) := by decide +kernel
theorem dX2_readRow_32 : decode cX2_readRow 32 = .ok (.aload_n 1, 1) := by decide +kernel
theorem dX2_readRow_33 : decode cX2_readRow 33 = .ok (.iconst 5, 1) := by decide +kernel
theorem dX2_readRow_34 : decode cX2_readRow 34 = .ok (.invokestatic 47, 3) := by decide +kernel
theorem dX2_readRow_37 : decode cX2_readRow 37 = .ok (.istore 4, 2) := by decide +kernel
theorem dX2_readRow_39 : decode cX2_readRow 39 = .ok (.iload_n 2, 1) := by decide +kernel
theorem dX2_readRow_40 : decode cX2_readRow 40 = .ok (.iconst (-1), 1) := by decide +kernel
theorem dX2_readRow_41 : decode cX2_readRow 41 = .ok (.if_icmp .eq 22, 3) := by decide +kernel
theorem dX2_readRow_44 : decode cX2_readRow 44 = .ok (.iload_n 3, 1) := by decide +kernel
theorem dX2_readRow_45 : decode cX2_readRow 45 = .ok (.iconst (-1), 1) := by decide +kernel
theorem dX2_readRow_46 : decode cX2_readRow 46 = .ok (.if_icmp .eq 17, 3) := by decide +kernel
theorem dX2_readRow_49 : decode cX2_readRow 49 = .ok (.iload 4, 2) := by decide +kernel
theorem dX2_readRow_51 : decode cX2_readRow 51 = .ok (.iconst (-1), 1) := by decide +kernel
theorem dX2_readRow_52 : decode cX2_readRow 52 = .ok (.if_icmp .eq 11, 3) := by decide +kernel
theorem dX2_readRow_55 : decode cX2_readRow 55 = .ok (.aload_n 1, 1) := by decide +kernel
theorem dX2_readRow_56 : decode cX2_readRow 56 = .ok (.getfield 40, 3) := by decide +kernel
theorem dX2_readRow_59 : decode cX2_readRow 59 = .ok (.iconst 3, 1) := by decide +kernel
theorem dX2_readRow_60 : decode cX2_readRow 60 = .ok (.if_icmp .eq 5, 3) := by decide +kernel
theorem dX2_readRow_63 : decode cX2_readRow 63 = .ok (.iconst 0, 1) := by decide +kernel
theorem dX2_readRow_64 : decode cX2_readRow 64 = .ok (.ireturn, 1) := by decide +kernel
theorem dX2_readRow_65 : decode cX2_readRow 65 = .ok (.aload_n 1, 1) := by decide +kernel
theorem dX2_readRow_66 : decode cX2_readRow 66 = .ok (.invokevirtual 51, 3) := by decide +kernel
theorem dX2_readRow_69 : decode cX2_readRow 69 = .ok (.aload_n 0, 1) := by decide +kernel
theorem dX2_readRow_70 : decode cX2_readRow 70 = .ok (.getfield 11, 3) := by decide +kernel
theorem dX2_readRow_73 : decode cX2_readRow 73 = .ok (.aload_n 0, 1) := by decide +kernel
theorem dX2_readRow_74 : decode cX2_readRow 74 = .ok (.getfield 31, 3) := by decide +kernel
theorem dX2_readRow_77 : decode cX2_readRow 77 = .ok (.iload_n 2, 1) := by decide +kernel
theorem dX2_readRow_78 : decode cX2_readRow 78 = .ok (.iastore, 1) := by decide +kernel
theorem dX2_readRow_79 : decode cX2_readRow 79 = .ok (.aload_n 0, 1) := by decide +kernel
theorem dX2_readRow_80 : decode cX2_readRow 80 = .ok (.getfield 15, 3) := by decide +kernel
theorem dX2_readRow_83 : decode cX2_readRow 83 = .ok (.aload_n 0, 1) := by decide +kernel
theorem dX2_readRow_84 : decode cX2_readRow 84 = .ok (.getfield 31, 3) := by decide +kernel
theorem dX2_readRow_87 : decode cX2_readRow 87 = .ok (.iload_n 3, 1) := by decide +kernel
theorem dX2_readRow_88 : decode cX2_readRow 88 = .ok (.iastore, 1) := by decide +kernel
theorem dX2_readRow_89 : decode cX2_readRow 89 = .ok (.aload_n 0, 1) := by decide +kernel
theorem dX2_readRow_90 : decode cX2_readRow 90 = .ok (.getfield 18, 3) := by decide +kernel
theorem dX2_readRow_93 : decode cX2_readRow 93 = .ok (.aload_n 0, 1) := by decide +kernel
theorem dX2_readRow_94 : decode cX2_readRow 94 = .ok (.getfield 31, 3) := by decide +kernel
theorem dX2_readRow_97 : decode cX2_readRow 97 = .ok (.iload 4, 2) := by decide +kernel
theorem dX2_readRow_99 : decode cX2_readRow 99 = .ok (.iconst 5, 1) := by decide +kernel
theorem dX2_readRow_100 : decode cX2_readRow 100 = .ok (.if_icmp .ne 7, 3) := by decide +kernel
theorem dX2_readRow_103 : decode cX2_readRow 103 = .ok (.iconst (-1), 1) := by decide +kernel
theorem dX2_readRow_104 : decode cX2_readRow 104 = .ok (.goto 5, 3) := by decide +kernel
theorem dX2_readRow_107 : decode cX2_readRow 107 = .ok (.iload 4, 2) := by decide +kernel
theorem dX2_readRow_109 : decode cX2_readRow 109 = .ok (.iastore, 1) := by decide +kernel
theorem dX2_readRow_110 : decode cX2_readRow 110 = .ok (.aload_n 0, 1) := by decide +kernel
theorem dX2_readRow_111 : decode cX2_readRow 111 = .ok (.dup, 1) := by decide +kernel
theorem dX2_readRow_112 : decode cX2_readRow 112 = .ok (.getfield 31, 3) := by decide +kernel
theorem dX2_readRow_115 : decode cX2_readRow 115 = .ok (.iconst 1, 1) := by decide +kernel
theorem dX2_readRow_116 : decode cX2_readRow 116 = .ok (.iadd, 1) := by decide +kernel
theorem dX2_readRow_117 : decode cX2_readRow 117 = .ok (.putfield 31, 3) := by decide +kernel
theorem dX2_readRow_120 : decode cX2_readRow 120 = .ok (.iconst 1, 1) := by decide +kernel
theorem dX2_readRow_121 : decode cX2_readRow 121 = .ok (.ireturn, 1) := by decide +kernel
set_option maxRecDepth 20000 in
theorem dX2_readNumber_0 : decode cX2_readNumber 0 = .ok (.aload_n 0, 1) := by decide +kernel
theorem dX2_readNumber_1 : decode cX2_readNumber 1 = .ok (.getfield 40, 3) := by decide +kernel
theorem dX2_readNumber_4 : decode cX2_readNumber 4 = .ok (.iconst 2, 1) := by decide +kernel
theorem dX2_readNumber_5 : decode cX2_readNumber 5 = .ok (.if_icmp .ne 11, 3) := by decide +kernel
theorem dX2_readNumber_8 : decode cX2_readNumber 8 = .ok (.aload_n 0, 1) := by decide +kernel
theorem dX2_readNumber_9 : decode cX2_readNumber 9 = .ok (.getfield 54, 3) := by decide +kernel
theorem dX2_readNumber_12 : decode cX2_readNumber 12 = .ok (.iload_n 1, 1) := by decide +kernel
theorem dX2_readNumber_13 : decode cX2_readNumber 13 = .ok (.if_icmp .le 5, 3) := by decide +kernel
theorem dX2_readNumber_16 : decode cX2_readNumber 16 = .ok (.iconst (-1), 1) := by decide +kernel
theorem dX2_readNumber_17 : decode cX2_readNumber 17 = .ok (.ireturn, 1) := by decide +kernel
theorem dX2_readNumber_18 : decode cX2_readNumber 18 = .ok (.aload_n 0, 1) := by decide +kernel
theorem dX2_readNumber_19 : decode cX2_readNumber 19 = .ok (.getfield 54, 3) := by decide +kernel
theorem dX2_readNumber_22 : decode cX2_readNumber 22 = .ok (.istore_n 2, 1) := by decide +kernel
theorem dX2_readNumber_23 : decode cX2_readNumber 23 = .ok (.aload_n 0, 1) := by decide +kernel
theorem dX2_readNumber_24 : decode cX2_readNumber 24 = .ok (.invokevirtual 51, 3) := by decide +kernel
theorem dX2_readNumber_27 : decode cX2_readNumber 27 = .ok (.iload_n 2, 1) := by decide +kernel
theorem dX2_readNumber_28 : decode cX2_readNumber 28 = .ok (.ireturn, 1) := by decide +kernel
set_option maxRecDepth 20000 in
theorem dX2_firstThatCannot_0 : decode cX2_firstThatCannot 0 = .ok (.aload_n 0, 1) := by decide +kernel
theorem dX2_firstThatCannot_1 : decode cX2_firstThatCannot 1 = .ok (.aload_n 1, 1) := by decide +kernel
theorem dX2_firstThatCannot_2 : decode cX2_firstThatCannot 2 = .ok (.invokevirtual 57, 3) := by decide +kernel
theorem dX2_firstThatCannot_5 : decode cX2_firstThatCannot 5 = .ok (.istore_n 3, 1) := by decide +kernel
theorem dX2_firstThatCannot_6 : decode cX2_firstThatCannot 6 = .ok (.iconst 0, 1) := by decide +kernel
theorem dX2_firstThatCannot_7 : decode cX2_firstThatCannot 7 = .ok (.istore 4, 2) := by decide +kernel
theorem dX2_firstThatCannot_9 : decode cX2_firstThatCannot 9 = .ok (.aload_n 0, 1) := by decide +kernel
theorem dX2_firstThatCannot_10 : decode cX2_firstThatCannot 10 = .ok (.getfield 24, 3) := by decide +kernel
theorem dX2_firstThatCannot_13 : decode cX2_firstThatCannot 13 = .ok (.aload_n 1, 1) := by decide +kernel
theorem dX2_firstThatCannot_14 : decode cX2_firstThatCannot 14 = .ok (.invokevirtual 61, 3) := by decide +kernel
theorem dX2_firstThatCannot_17 : decode cX2_firstThatCannot 17 = .ok (.iconst 0, 1) := by decide +kernel
theorem dX2_firstThatCannot_18 : decode cX2_firstThatCannot 18 = .ok (.istore 5, 2) := by decide +kernel
theorem dX2_firstThatCannot_20 : decode cX2_firstThatCannot 20 = .ok (.iload 5, 2) := by decide +kernel
theorem dX2_firstThatCannot_22 : decode cX2_firstThatCannot 22 = .ok (.bipush 99, 2) := by decide +kernel
theorem dX2_firstThatCannot_24 : decode cX2_firstThatCannot 24 = .ok (.if_icmp .gt 67, 3) := by decide +kernel
theorem dX2_firstThatCannot_27 : decode cX2_firstThatCannot 27 = .ok (.iload 4, 2) := by decide +kernel
theorem dX2_firstThatCannot_29 : decode cX2_firstThatCannot 29 = .ok (.iload_n 3, 1) := by decide +kernel
theorem dX2_firstThatCannot_30 : decode cX2_firstThatCannot 30 = .ok (.if_icmp .ge 61, 3) := by decide +kernel
theorem dX2_firstThatCannot_33 : decode cX2_firstThatCannot 33 = .ok (.aload_n 0, 1) := by decide +kernel
theorem dX2_firstThatCannot_34 : decode cX2_firstThatCannot 34 = .ok (.aload_n 1, 1) := by decide +kernel
theorem dX2_firstThatCannot_35 : decode cX2_firstThatCannot 35 = .ok (.aload_n 2, 1) := by decide +kernel
theorem dX2_firstThatCannot_36 : decode cX2_firstThatCannot 36 = .ok (.iload 4, 2) := by decide +kernel
theorem dX2_firstThatCannot_38 : decode cX2_firstThatCannot 38 = .ok (.iload_n 3, 1) := by decide +kernel
theorem dX2_firstThatCannot_39 : decode cX2_firstThatCannot 39 = .ok (.invokevirtual 65, 3) := by decide +kernel
theorem dX2_firstThatCannot_42 : decode cX2_firstThatCannot 42 = .ok (.istore 6, 2) := by decide +kernel
theorem dX2_firstThatCannot_44 : decode cX2_firstThatCannot 44 = .ok (.iload 4, 2) := by decide +kernel
theorem dX2_firstThatCannot_46 : decode cX2_firstThatCannot 46 = .ok (.iload 6, 2) := by decide +kernel
theorem dX2_firstThatCannot_48 : decode cX2_firstThatCannot 48 = .ok (.if_icmp .ge 37, 3) := by decide +kernel
theorem dX2_firstThatCannot_51 : decode cX2_firstThatCannot 51 = .ok (.aload_n 0, 1) := by decide +kernel
theorem dX2_firstThatCannot_52 : decode cX2_firstThatCannot 52 = .ok (.getfield 24, 3) := by decide +kernel
theorem dX2_firstThatCannot_55 : decode cX2_firstThatCannot 55 = .ok (.getfield 69, 3) := by decide +kernel
theorem dX2_firstThatCannot_58 : decode cX2_firstThatCannot 58 = .ok (.aload_n 0, 1) := by decide +kernel
theorem dX2_firstThatCannot_59 : decode cX2_firstThatCannot 59 = .ok (.getfield 15, 3) := by decide +kernel
theorem dX2_firstThatCannot_62 : decode cX2_firstThatCannot 62 = .ok (.iload 4, 2) := by decide +kernel
theorem dX2_firstThatCannot_64 : decode cX2_firstThatCannot 64 = .ok (.iaload, 1) := by decide +kernel
theorem dX2_firstThatCannot_65 : decode cX2_firstThatCannot 65 = .ok (.iaload, 1) := by decide +kernel
theorem dX2_firstThatCannot_66 : decode cX2_firstThatCannot 66 = .ok (.aload_n 0, 1) := by decide +kernel
theorem dX2_firstThatCannot_67 : decode cX2_firstThatCannot 67 = .ok (.getfield 18, 3) := by decide +kernel
theorem dX2_firstThatCannot_70 : decode cX2_firstThatCannot 70 = .ok (.iload 4, 2) := by decide +kernel
theorem dX2_firstThatCannot_72 : decode cX2_firstThatCannot 72 = .ok (.iaload, 1) := by decide +kernel
theorem dX2_firstThatCannot_73 : decode cX2_firstThatCannot 73 = .ok (.if_icmp .eq 6, 3) := by decide +kernel
theorem dX2_firstThatCannot_76 : decode cX2_firstThatCannot 76 = .ok (.iload 4, 2) := by decide +kernel
theorem dX2_firstThatCannot_78 : decode cX2_firstThatCannot 78 = .ok (.ireturn, 1) := by decide +kernel
theorem dX2_firstThatCannot_79 : decode cX2_firstThatCannot 79 = .ok (.iinc 4 1, 3) := by decide +kernel
theorem dX2_firstThatCannot_82 : decode cX2_firstThatCannot 82 = .ok (.goto (-38), 3) := by decide +kernel
theorem dX2_firstThatCannot_85 : decode cX2_firstThatCannot 85 = .ok (.iinc 5 1, 3) := by decide +kernel
theorem dX2_firstThatCannot_88 : decode cX2_firstThatCannot 88 = .ok (.goto (-68), 3) := by decide +kernel
theorem dX2_firstThatCannot_91 : decode cX2_firstThatCannot 91 = .ok (.iload_n 3, 1) := by decide +kernel
theorem dX2_firstThatCannot_92 : decode cX2_firstThatCannot 92 = .ok (.aload_n 0, 1) := by decide +kernel
theorem dX2_firstThatCannot_93 : decode cX2_firstThatCannot 93 = .ok (.getfield 31, 3) := by decide +kernel
theorem dX2_firstThatCannot_96 : decode cX2_firstThatCannot 96 = .ok (.if_icmp .ge 7, 3) := by decide +kernel
theorem dX2_firstThatCannot_99 : decode cX2_firstThatCannot 99 = .ok (.iload_n 3, 1) := by decide +kernel
theorem dX2_firstThatCannot_100 : decode cX2_firstThatCannot 100 = .ok (.goto 4, 3) := by decide +kernel
theorem dX2_firstThatCannot_103 : decode cX2_firstThatCannot 103 = .ok (.iconst (-1), 1) := by decide +kernel
theorem dX2_firstThatCannot_104 : decode cX2_firstThatCannot 104 = .ok (.ireturn, 1) := by decide +kernel
set_option maxRecDepth 20000 in
theorem dX2_rowsInOrder_0 : decode cX2_rowsInOrder 0 = .ok (.iconst 0, 1) := by decide +kernel
theorem dX2_rowsInOrder_1 : decode cX2_rowsInOrder 1 = .ok (.istore_n 2, 1) := by decide +kernel
theorem dX2_rowsInOrder_2 : decode cX2_rowsInOrder 2 = .ok (.iload_n 2, 1) := by decide +kernel
theorem dX2_rowsInOrder_3 : decode cX2_rowsInOrder 3 = .ok (.aload_n 0, 1) := by decide +kernel
theorem dX2_rowsInOrder_4 : decode cX2_rowsInOrder 4 = .ok (.getfield 31, 3) := by decide +kernel
theorem dX2_rowsInOrder_7 : decode cX2_rowsInOrder 7 = .ok (.if_icmp .ge 45, 3) := by decide +kernel
theorem dX2_rowsInOrder_10 : decode cX2_rowsInOrder 10 = .ok (.aload_n 0, 1) := by decide +kernel
theorem dX2_rowsInOrder_11 : decode cX2_rowsInOrder 11 = .ok (.getfield 15, 3) := by decide +kernel
theorem dX2_rowsInOrder_14 : decode cX2_rowsInOrder 14 = .ok (.iload_n 2, 1) := by decide +kernel
theorem dX2_rowsInOrder_15 : decode cX2_rowsInOrder 15 = .ok (.iaload, 1) := by decide +kernel
theorem dX2_rowsInOrder_16 : decode cX2_rowsInOrder 16 = .ok (.aload_n 1, 1) := by decide +kernel
theorem dX2_rowsInOrder_17 : decode cX2_rowsInOrder 17 = .ok (.getfield 72, 3) := by decide +kernel
theorem dX2_rowsInOrder_20 : decode cX2_rowsInOrder 20 = .ok (.if_icmp .ge 24, 3) := by decide +kernel
theorem dX2_rowsInOrder_23 : decode cX2_rowsInOrder 23 = .ok (.aload_n 0, 1) := by decide +kernel
theorem dX2_rowsInOrder_24 : decode cX2_rowsInOrder 24 = .ok (.getfield 18, 3) := by decide +kernel
theorem dX2_rowsInOrder_27 : decode cX2_rowsInOrder 27 = .ok (.iload_n 2, 1) := by decide +kernel
theorem dX2_rowsInOrder_28 : decode cX2_rowsInOrder 28 = .ok (.iaload, 1) := by decide +kernel
theorem dX2_rowsInOrder_29 : decode cX2_rowsInOrder 29 = .ok (.aload_n 1, 1) := by decide +kernel
theorem dX2_rowsInOrder_30 : decode cX2_rowsInOrder 30 = .ok (.getfield 77, 3) := by decide +kernel
theorem dX2_rowsInOrder_33 : decode cX2_rowsInOrder 33 = .ok (.if_icmp .ge 11, 3) := by decide +kernel
theorem dX2_rowsInOrder_36 : decode cX2_rowsInOrder 36 = .ok (.aload_n 0, 1) := by decide +kernel
theorem dX2_rowsInOrder_37 : decode cX2_rowsInOrder 37 = .ok (.iload_n 2, 1) := by decide +kernel
theorem dX2_rowsInOrder_38 : decode cX2_rowsInOrder 38 = .ok (.invokevirtual 80, 3) := by decide +kernel
theorem dX2_rowsInOrder_41 : decode cX2_rowsInOrder 41 = .ok (.ifCond .eq 5, 3) := by decide +kernel
theorem dX2_rowsInOrder_44 : decode cX2_rowsInOrder 44 = .ok (.iload_n 2, 1) := by decide +kernel
theorem dX2_rowsInOrder_45 : decode cX2_rowsInOrder 45 = .ok (.ireturn, 1) := by decide +kernel
theorem dX2_rowsInOrder_46 : decode cX2_rowsInOrder 46 = .ok (.iinc 2 1, 3) := by decide +kernel
theorem dX2_rowsInOrder_49 : decode cX2_rowsInOrder 49 = .ok (.goto (-47), 3) := by decide +kernel
theorem dX2_rowsInOrder_52 : decode cX2_rowsInOrder 52 = .ok (.aload_n 0, 1) := by decide +kernel
theorem dX2_rowsInOrder_53 : decode cX2_rowsInOrder 53 = .ok (.getfield 31, 3) := by decide +kernel
theorem dX2_rowsInOrder_56 : decode cX2_rowsInOrder 56 = .ok (.ireturn, 1) := by decide +kernel
theorem dX2_isOutOfOrder_0 : decode cX2_isOutOfOrder 0 = .ok (.iconst 0, 1) := by decide +kernel
theorem dX2_isOutOfOrder_1 : decode cX2_isOutOfOrder 1 = .ok (.istore_n 2, 1) := by decide +kernel
theorem dX2_isOutOfOrder_2 : decode cX2_isOutOfOrder 2 = .ok (.iload_n 2, 1) := by decide +kernel
theorem dX2_isOutOfOrder_3 : decode cX2_isOutOfOrder 3 = .ok (.iload_n 1, 1) := by decide +kernel
theorem dX2_isOutOfOrder_4 : decode cX2_isOutOfOrder 4 = .ok (.if_icmp .ge 56, 3) := by decide +kernel
theorem dX2_isOutOfOrder_7 : decode cX2_isOutOfOrder 7 = .ok (.aload_n 0, 1) := by decide +kernel
theorem dX2_isOutOfOrder_8 : decode cX2_isOutOfOrder 8 = .ok (.getfield 11, 3) := by decide +kernel
theorem dX2_isOutOfOrder_11 : decode cX2_isOutOfOrder 11 = .ok (.iload_n 2, 1) := by decide +kernel
theorem dX2_isOutOfOrder_12 : decode cX2_isOutOfOrder 12 = .ok (.iaload, 1) := by decide +kernel
theorem dX2_isOutOfOrder_13 : decode cX2_isOutOfOrder 13 = .ok (.aload_n 0, 1) := by decide +kernel
theorem dX2_isOutOfOrder_14 : decode cX2_isOutOfOrder 14 = .ok (.getfield 11, 3) := by decide +kernel
theorem dX2_isOutOfOrder_17 : decode cX2_isOutOfOrder 17 = .ok (.iload_n 1, 1) := by decide +kernel
theorem dX2_isOutOfOrder_18 : decode cX2_isOutOfOrder 18 = .ok (.iaload, 1) := by decide +kernel
theorem dX2_isOutOfOrder_19 : decode cX2_isOutOfOrder 19 = .ok (.if_icmp .gt 33, 3) := by decide +kernel
theorem dX2_isOutOfOrder_22 : decode cX2_isOutOfOrder 22 = .ok (.aload_n 0, 1) := by decide +kernel
theorem dX2_isOutOfOrder_23 : decode cX2_isOutOfOrder 23 = .ok (.getfield 11, 3) := by decide +kernel
theorem dX2_isOutOfOrder_26 : decode cX2_isOutOfOrder 26 = .ok (.iload_n 2, 1) := by decide +kernel
theorem dX2_isOutOfOrder_27 : decode cX2_isOutOfOrder 27 = .ok (.iaload, 1) := by decide +kernel
theorem dX2_isOutOfOrder_28 : decode cX2_isOutOfOrder 28 = .ok (.aload_n 0, 1) := by decide +kernel
theorem dX2_isOutOfOrder_29 : decode cX2_isOutOfOrder 29 = .ok (.getfield 11, 3) := by decide +kernel
theorem dX2_isOutOfOrder_32 : decode cX2_isOutOfOrder 32 = .ok (.iload_n 1, 1) := by decide +kernel
theorem dX2_isOutOfOrder_33 : decode cX2_isOutOfOrder 33 = .ok (.iaload, 1) := by decide +kernel
theorem dX2_isOutOfOrder_34 : decode cX2_isOutOfOrder 34 = .ok (.if_icmp .ne 20, 3) := by decide +kernel
theorem dX2_isOutOfOrder_37 : decode cX2_isOutOfOrder 37 = .ok (.aload_n 0, 1) := by decide +kernel
theorem dX2_isOutOfOrder_38 : decode cX2_isOutOfOrder 38 = .ok (.getfield 15, 3) := by decide +kernel
theorem dX2_isOutOfOrder_41 : decode cX2_isOutOfOrder 41 = .ok (.iload_n 2, 1) := by decide +kernel
theorem dX2_isOutOfOrder_42 : decode cX2_isOutOfOrder 42 = .ok (.iaload, 1) := by decide +kernel
theorem dX2_isOutOfOrder_43 : decode cX2_isOutOfOrder 43 = .ok (.aload_n 0, 1) := by decide +kernel
theorem dX2_isOutOfOrder_44 : decode cX2_isOutOfOrder 44 = .ok (.getfield 15, 3) := by decide +kernel
theorem dX2_isOutOfOrder_47 : decode cX2_isOutOfOrder 47 = .ok (.iload_n 1, 1) := by decide +kernel
theorem dX2_isOutOfOrder_48 : decode cX2_isOutOfOrder 48 = .ok (.iaload, 1) := by decide +kernel
theorem dX2_isOutOfOrder_49 : decode cX2_isOutOfOrder 49 = .ok (.if_icmp .ne 5, 3) := by decide +kernel
theorem dX2_isOutOfOrder_52 : decode cX2_isOutOfOrder 52 = .ok (.iconst 1, 1) := by decide +kernel
theorem dX2_isOutOfOrder_53 : decode cX2_isOutOfOrder 53 = .ok (.ireturn, 1) := by decide +kernel
theorem dX2_isOutOfOrder_54 : decode cX2_isOutOfOrder 54 = .ok (.iinc 2 1, 3) := by decide +kernel
theorem dX2_isOutOfOrder_57 : decode cX2_isOutOfOrder 57 = .ok (.goto (-55), 3) := by decide +kernel
theorem dX2_isOutOfOrder_60 : decode cX2_isOutOfOrder 60 = .ok (.iconst 0, 1) := by decide +kernel
theorem dX2_isOutOfOrder_61 : decode cX2_isOutOfOrder 61 = .ok (.ireturn, 1) := by decide +kernel
set_option maxRecDepth 20000 in
theorem dX2_passRows_0 : decode cX2_passRows 0 = .ok (.iconst 0, 1) := by decide +kernel
theorem dX2_passRows_1 : decode cX2_passRows 1 = .ok (.istore 5, 2) := by decide +kernel
theorem dX2_passRows_3 : decode cX2_passRows 3 = .ok (.iload 5, 2) := by decide +kernel
theorem dX2_passRows_5 : decode cX2_passRows 5 = .ok (.aload_n 1, 1) := by decide +kernel
theorem dX2_passRows_6 : decode cX2_passRows 6 = .ok (.getfield 72, 3) := by decide +kernel
theorem dX2_passRows_9 : decode cX2_passRows 9 = .ok (.if_icmp .ge 26, 3) := by decide +kernel
theorem dX2_passRows_12 : decode cX2_passRows 12 = .ok (.aload_n 0, 1) := by decide +kernel
theorem dX2_passRows_13 : decode cX2_passRows 13 = .ok (.getfield 28, 3) := by decide +kernel
theorem dX2_passRows_16 : decode cX2_passRows 16 = .ok (.iload 5, 2) := by decide +kernel
theorem dX2_passRows_18 : decode cX2_passRows 18 = .ok (.aload_n 0, 1) := by decide +kernel
theorem dX2_passRows_19 : decode cX2_passRows 19 = .ok (.getfield 24, 3) := by decide +kernel
theorem dX2_passRows_22 : decode cX2_passRows 22 = .ok (.getfield 69, 3) := by decide +kernel
theorem dX2_passRows_25 : decode cX2_passRows 25 = .ok (.iload 5, 2) := by decide +kernel
theorem dX2_passRows_27 : decode cX2_passRows 27 = .ok (.iaload, 1) := by decide +kernel
theorem dX2_passRows_28 : decode cX2_passRows 28 = .ok (.iastore, 1) := by decide +kernel
theorem dX2_passRows_29 : decode cX2_passRows 29 = .ok (.iinc 5 1, 3) := by decide +kernel
theorem dX2_passRows_32 : decode cX2_passRows 32 = .ok (.goto (-29), 3) := by decide +kernel
theorem dX2_passRows_35 : decode cX2_passRows 35 = .ok (.iload_n 3, 1) := by decide +kernel
theorem dX2_passRows_36 : decode cX2_passRows 36 = .ok (.istore 5, 2) := by decide +kernel
theorem dX2_passRows_38 : decode cX2_passRows 38 = .ok (.iload 5, 2) := by decide +kernel
theorem dX2_passRows_40 : decode cX2_passRows 40 = .ok (.iload 4, 2) := by decide +kernel
theorem dX2_passRows_42 : decode cX2_passRows 42 = .ok (.if_icmp .ge 45, 3) := by decide +kernel
theorem dX2_passRows_45 : decode cX2_passRows 45 = .ok (.aload_n 0, 1) := by decide +kernel
theorem dX2_passRows_46 : decode cX2_passRows 46 = .ok (.getfield 11, 3) := by decide +kernel
theorem dX2_passRows_49 : decode cX2_passRows 49 = .ok (.iload 5, 2) := by decide +kernel
theorem dX2_passRows_51 : decode cX2_passRows 51 = .ok (.iaload, 1) := by decide +kernel
theorem dX2_passRows_52 : decode cX2_passRows 52 = .ok (.aload_n 0, 1) := by decide +kernel
theorem dX2_passRows_53 : decode cX2_passRows 53 = .ok (.getfield 24, 3) := by decide +kernel
theorem dX2_passRows_56 : decode cX2_passRows 56 = .ok (.getfield 84, 3) := by decide +kernel
theorem dX2_passRows_59 : decode cX2_passRows 59 = .ok (.if_icmp .ne 28, 3) := by decide +kernel
theorem dX2_passRows_62 : decode cX2_passRows 62 = .ok (.aload_n 0, 1) := by decide +kernel
theorem dX2_passRows_63 : decode cX2_passRows 63 = .ok (.getfield 28, 3) := by decide +kernel
theorem dX2_passRows_66 : decode cX2_passRows 66 = .ok (.aload_n 0, 1) := by decide +kernel
theorem dX2_passRows_67 : decode cX2_passRows 67 = .ok (.getfield 15, 3) := by decide +kernel
theorem dX2_passRows_70 : decode cX2_passRows 70 = .ok (.iload 5, 2) := by decide +kernel
theorem dX2_passRows_72 : decode cX2_passRows 72 = .ok (.iaload, 1) := by decide +kernel
theorem dX2_passRows_73 : decode cX2_passRows 73 = .ok (.aload_n 0, 1) := by decide +kernel
theorem dX2_passRows_74 : decode cX2_passRows 74 = .ok (.getfield 18, 3) := by decide +kernel
theorem dX2_passRows_77 : decode cX2_passRows 77 = .ok (.iload 5, 2) := by decide +kernel
theorem dX2_passRows_79 : decode cX2_passRows 79 = .ok (.iaload, 1) := by decide +kernel
theorem dX2_passRows_80 : decode cX2_passRows 80 = .ok (.iastore, 1) := by decide +kernel
theorem dX2_passRows_81 : decode cX2_passRows 81 = .ok (.iinc 5 1, 3) := by decide +kernel
theorem dX2_passRows_84 : decode cX2_passRows 84 = .ok (.goto (-46), 3) := by decide +kernel
theorem dX2_passRows_87 : decode cX2_passRows 87 = .ok (.iconst 0, 1) := by decide +kernel
theorem dX2_passRows_88 : decode cX2_passRows 88 = .ok (.istore 6, 2) := by decide +kernel
theorem dX2_passRows_90 : decode cX2_passRows 90 = .ok (.iload 6, 2) := by decide +kernel
theorem dX2_passRows_92 : decode cX2_passRows 92 = .ok (.aload_n 1, 1) := by decide +kernel
theorem dX2_passRows_93 : decode cX2_passRows 93 = .ok (.getfield 72, 3) := by decide +kernel
theorem dX2_passRows_96 : decode cX2_passRows 96 = .ok (.if_icmp .ge 33, 3) := by decide +kernel
theorem dX2_passRows_99 : decode cX2_passRows 99 = .ok (.aload_n 1, 1) := by decide +kernel
theorem dX2_passRows_100 : decode cX2_passRows 100 = .ok (.iload 6, 2) := by decide +kernel
theorem dX2_passRows_102 : decode cX2_passRows 102 = .ok (.aload_n 0, 1) := by decide +kernel
theorem dX2_passRows_103 : decode cX2_passRows 103 = .ok (.getfield 24, 3) := by decide +kernel
theorem dX2_passRows_106 : decode cX2_passRows 106 = .ok (.getfield 84, 3) := by decide +kernel
theorem dX2_passRows_109 : decode cX2_passRows 109 = .ok (.invokevirtual 87, 3) := by decide +kernel
theorem dX2_passRows_112 : decode cX2_passRows 112 = .ok (.ifCond .eq 11, 3) := by decide +kernel
theorem dX2_passRows_115 : decode cX2_passRows 115 = .ok (.aload_n 0, 1) := by decide +kernel
theorem dX2_passRows_116 : decode cX2_passRows 116 = .ok (.getfield 28, 3) := by decide +kernel
theorem dX2_passRows_119 : decode cX2_passRows 119 = .ok (.iload 6, 2) := by decide +kernel
theorem dX2_passRows_121 : decode cX2_passRows 121 = .ok (.iconst (-1), 1) := by decide +kernel
theorem dX2_passRows_122 : decode cX2_passRows 122 = .ok (.iastore, 1) := by decide +kernel
theorem dX2_passRows_123 : decode cX2_passRows 123 = .ok (.iinc 6 1, 3) := by decide +kernel
theorem dX2_passRows_126 : decode cX2_passRows 126 = .ok (.goto (-36), 3) := by decide +kernel
theorem dX2_passRows_129 : decode cX2_passRows 129 = .ok (.aload_n 0, 1) := by decide +kernel
theorem dX2_passRows_130 : decode cX2_passRows 130 = .ok (.getfield 24, 3) := by decide +kernel
theorem dX2_passRows_133 : decode cX2_passRows 133 = .ok (.aload_n 1, 1) := by decide +kernel
theorem dX2_passRows_134 : decode cX2_passRows 134 = .ok (.aload_n 2, 1) := by decide +kernel
theorem dX2_passRows_135 : decode cX2_passRows 135 = .ok (.aload_n 0, 1) := by decide +kernel
theorem dX2_passRows_136 : decode cX2_passRows 136 = .ok (.getfield 28, 3) := by decide +kernel
theorem dX2_passRows_139 : decode cX2_passRows 139 = .ok (.invokevirtual 91, 3) := by decide +kernel
theorem dX2_passRows_142 : decode cX2_passRows 142 = .ok (.iload 5, 2) := by decide +kernel
theorem dX2_passRows_144 : decode cX2_passRows 144 = .ok (.ireturn, 1) := by decide +kernel
theorem dX3_init_0 : decode cX3_init 0 = .ok (.aload_n 0, 1) := by decide +kernel
theorem dX3_init_1 : decode cX3_init 1 = .ok (.invokespecial 3, 3) := by decide +kernel
theorem dX3_init_4 : decode cX3_init 4 = .ok (.aload_n 0, 1) := by decide +kernel
theorem dX3_init_5 : decode cX3_init 5 = .ok (.iconst 5, 1) := by decide +kernel
theorem dX3_init_6 : decode cX3_init 6 = .ok (.newarray .int, 2) := by decide +kernel
theorem dX3_init_8 : decode cX3_init 8 = .ok (.putfield 9, 3) := by decide +kernel
theorem dX3_init_11 : decode cX3_init 11 = .ok (.aload_n 0, 1) := by decide +kernel
theorem dX3_init_12 : decode cX3_init 12 = .ok (.iconst 5, 1) := by decide +kernel
theorem dX3_init_13 : decode cX3_init 13 = .ok (.newarray .int, 2) := by decide +kernel
theorem dX3_init_15 : decode cX3_init 15 = .ok (.putfield 15, 3) := by decide +kernel
theorem dX3_init_18 : decode cX3_init 18 = .ok (.aload_n 0, 1) := by decide +kernel
theorem dX3_init_19 : decode cX3_init 19 = .ok (.iconst 5, 1) := by decide +kernel
theorem dX3_init_20 : decode cX3_init 20 = .ok (.newarray .int, 2) := by decide +kernel
theorem dX3_init_22 : decode cX3_init 22 = .ok (.putfield 18, 3) := by decide +kernel
theorem dX3_init_25 : decode cX3_init 25 = .ok (.aload_n 0, 1) := by decide +kernel
theorem dX3_init_26 : decode cX3_init 26 = .ok (.iconst 5, 1) := by decide +kernel
theorem dX3_init_27 : decode cX3_init 27 = .ok (.newarray .int, 2) := by decide +kernel
theorem dX3_init_29 : decode cX3_init 29 = .ok (.putfield 21, 3) := by decide +kernel
theorem dX3_init_32 : decode cX3_init 32 = .ok (.aload_n 0, 1) := by decide +kernel
theorem dX3_init_33 : decode cX3_init 33 = .ok (.iconst 5, 1) := by decide +kernel
theorem dX3_init_34 : decode cX3_init 34 = .ok (.newarray .int, 2) := by decide +kernel
theorem dX3_init_36 : decode cX3_init 36 = .ok (.putfield 24, 3) := by decide +kernel
theorem dX3_init_39 : decode cX3_init 39 = .ok (.aload_n 0, 1) := by decide +kernel
theorem dX3_init_40 : decode cX3_init 40 = .ok (.iconst 5, 1) := by decide +kernel
theorem dX3_init_41 : decode cX3_init 41 = .ok (.newarray .int, 2) := by decide +kernel
theorem dX3_init_43 : decode cX3_init 43 = .ok (.putfield 27, 3) := by decide +kernel
theorem dX3_init_46 : decode cX3_init 46 = .ok (.return_, 1) := by decide +kernel
theorem dX3_begin_0 : decode cX3_begin 0 = .ok (.aload_n 0, 1) := by decide +kernel
theorem dX3_begin_1 : decode cX3_begin 1 = .ok (.iconst 0, 1) := by decide +kernel
theorem dX3_begin_2 : decode cX3_begin 2 = .ok (.putfield 30, 3) := by decide +kernel
theorem dX3_begin_5 : decode cX3_begin 5 = .ok (.iconst 0, 1) := by decide +kernel
theorem dX3_begin_6 : decode cX3_begin 6 = .ok (.istore_n 2, 1) := by decide +kernel
theorem dX3_begin_7 : decode cX3_begin 7 = .ok (.iload_n 2, 1) := by decide +kernel
theorem dX3_begin_8 : decode cX3_begin 8 = .ok (.iconst 5, 1) := by decide +kernel
theorem dX3_begin_9 : decode cX3_begin 9 = .ok (.if_icmp .ge 66, 3) := by decide +kernel
theorem dX3_begin_12 : decode cX3_begin 12 = .ok (.aload_n 0, 1) := by decide +kernel
theorem dX3_begin_13 : decode cX3_begin 13 = .ok (.getfield 9, 3) := by decide +kernel
theorem dX3_begin_16 : decode cX3_begin 16 = .ok (.iload_n 2, 1) := by decide +kernel
theorem dX3_begin_17 : decode cX3_begin 17 = .ok (.aload_n 1, 1) := by decide +kernel
theorem dX3_begin_18 : decode cX3_begin 18 = .ok (.getfield 34, 3) := by decide +kernel
theorem dX3_begin_21 : decode cX3_begin 21 = .ok (.iload_n 2, 1) := by decide +kernel
theorem dX3_begin_22 : decode cX3_begin 22 = .ok (.iaload, 1) := by decide +kernel
theorem dX3_begin_23 : decode cX3_begin 23 = .ok (.iastore, 1) := by decide +kernel
theorem dX3_begin_24 : decode cX3_begin 24 = .ok (.aload_n 0, 1) := by decide +kernel
theorem dX3_begin_25 : decode cX3_begin 25 = .ok (.getfield 15, 3) := by decide +kernel
theorem dX3_begin_28 : decode cX3_begin 28 = .ok (.iload_n 2, 1) := by decide +kernel
theorem dX3_begin_29 : decode cX3_begin 29 = .ok (.iconst 0, 1) := by decide +kernel
theorem dX3_begin_30 : decode cX3_begin 30 = .ok (.iastore, 1) := by decide +kernel
theorem dX3_begin_31 : decode cX3_begin 31 = .ok (.aload_n 0, 1) := by decide +kernel
theorem dX3_begin_32 : decode cX3_begin 32 = .ok (.getfield 18, 3) := by decide +kernel
theorem dX3_begin_35 : decode cX3_begin 35 = .ok (.iload_n 2, 1) := by decide +kernel
theorem dX3_begin_36 : decode cX3_begin 36 = .ok (.iconst 0, 1) := by decide +kernel
theorem dX3_begin_37 : decode cX3_begin 37 = .ok (.iastore, 1) := by decide +kernel
theorem dX3_begin_38 : decode cX3_begin 38 = .ok (.aload_n 0, 1) := by decide +kernel
theorem dX3_begin_39 : decode cX3_begin 39 = .ok (.getfield 21, 3) := by decide +kernel
theorem dX3_begin_42 : decode cX3_begin 42 = .ok (.iload_n 2, 1) := by decide +kernel
theorem dX3_begin_43 : decode cX3_begin 43 = .ok (.iconst 0, 1) := by decide +kernel
theorem dX3_begin_44 : decode cX3_begin 44 = .ok (.iastore, 1) := by decide +kernel
theorem dX3_begin_45 : decode cX3_begin 45 = .ok (.aload_n 0, 1) := by decide +kernel
theorem dX3_begin_46 : decode cX3_begin 46 = .ok (.getfield 24, 3) := by decide +kernel
theorem dX3_begin_49 : decode cX3_begin 49 = .ok (.iload_n 2, 1) := by decide +kernel
theorem dX3_begin_50 : decode cX3_begin 50 = .ok (.aload_n 1, 1) := by decide +kernel
theorem dX3_begin_51 : decode cX3_begin 51 = .ok (.getfield 39, 3) := by decide +kernel
theorem dX3_begin_54 : decode cX3_begin 54 = .ok (.iload_n 2, 1) := by decide +kernel
theorem dX3_begin_55 : decode cX3_begin 55 = .ok (.iaload, 1) := by decide +kernel
theorem dX3_begin_56 : decode cX3_begin 56 = .ok (.iastore, 1) := by decide +kernel
theorem dX3_begin_57 : decode cX3_begin 57 = .ok (.aload_n 0, 1) := by decide +kernel
theorem dX3_begin_58 : decode cX3_begin 58 = .ok (.getfield 27, 3) := by decide +kernel
theorem dX3_begin_61 : decode cX3_begin 61 = .ok (.iload_n 2, 1) := by decide +kernel
theorem dX3_begin_62 : decode cX3_begin 62 = .ok (.aload_n 1, 1) := by decide +kernel
theorem dX3_begin_63 : decode cX3_begin 63 = .ok (.getfield 40, 3) := by decide +kernel
theorem dX3_begin_66 : decode cX3_begin 66 = .ok (.iload_n 2, 1) := by decide +kernel
theorem dX3_begin_67 : decode cX3_begin 67 = .ok (.iaload, 1) := by decide +kernel
theorem dX3_begin_68 : decode cX3_begin 68 = .ok (.iastore, 1) := by decide +kernel
theorem dX3_begin_69 : decode cX3_begin 69 = .ok (.iinc 2 1, 3) := by decide +kernel
theorem dX3_begin_72 : decode cX3_begin 72 = .ok (.goto (-65), 3) := by decide +kernel
theorem dX3_begin_75 : decode cX3_begin 75 = .ok (.return_, 1) := by decide +kernel
theorem dX3_copyFrom_0 : decode cX3_copyFrom 0 = .ok (.aload_n 0, 1) := by decide +kernel
theorem dX3_copyFrom_1 : decode cX3_copyFrom 1 = .ok (.aload_n 1, 1) := by decide +kernel
theorem dX3_copyFrom_2 : decode cX3_copyFrom 2 = .ok (.getfield 30, 3) := by decide +kernel
theorem dX3_copyFrom_5 : decode cX3_copyFrom 5 = .ok (.putfield 30, 3) := by decide +kernel
theorem dX3_copyFrom_8 : decode cX3_copyFrom 8 = .ok (.aload_n 1, 1) := by decide +kernel
theorem dX3_copyFrom_9 : decode cX3_copyFrom 9 = .ok (.getfield 9, 3) := by decide +kernel
theorem dX3_copyFrom_12 : decode cX3_copyFrom 12 = .ok (.iconst 0, 1) := by decide +kernel
theorem dX3_copyFrom_13 : decode cX3_copyFrom 13 = .ok (.aload_n 0, 1) := by decide +kernel
theorem dX3_copyFrom_14 : decode cX3_copyFrom 14 = .ok (.getfield 9, 3) := by decide +kernel
theorem dX3_copyFrom_17 : decode cX3_copyFrom 17 = .ok (.iconst 0, 1) := by decide +kernel
theorem dX3_copyFrom_18 : decode cX3_copyFrom 18 = .ok (.iconst 5, 1) := by decide +kernel
theorem dX3_copyFrom_19 : decode cX3_copyFrom 19 = .ok (.invokestatic 41, 3) := by decide +kernel
theorem dX3_copyFrom_22 : decode cX3_copyFrom 22 = .ok (.aload_n 1, 1) := by decide +kernel
theorem dX3_copyFrom_23 : decode cX3_copyFrom 23 = .ok (.getfield 15, 3) := by decide +kernel
theorem dX3_copyFrom_26 : decode cX3_copyFrom 26 = .ok (.iconst 0, 1) := by decide +kernel
theorem dX3_copyFrom_27 : decode cX3_copyFrom 27 = .ok (.aload_n 0, 1) := by decide +kernel
theorem dX3_copyFrom_28 : decode cX3_copyFrom 28 = .ok (.getfield 15, 3) := by decide +kernel
theorem dX3_copyFrom_31 : decode cX3_copyFrom 31 = .ok (.iconst 0, 1) := by decide +kernel
theorem dX3_copyFrom_32 : decode cX3_copyFrom 32 = .ok (.iconst 5, 1) := by decide +kernel
theorem dX3_copyFrom_33 : decode cX3_copyFrom 33 = .ok (.invokestatic 41, 3) := by decide +kernel
theorem dX3_copyFrom_36 : decode cX3_copyFrom 36 = .ok (.aload_n 1, 1) := by decide +kernel
theorem dX3_copyFrom_37 : decode cX3_copyFrom 37 = .ok (.getfield 18, 3) := by decide +kernel
theorem dX3_copyFrom_40 : decode cX3_copyFrom 40 = .ok (.iconst 0, 1) := by decide +kernel
theorem dX3_copyFrom_41 : decode cX3_copyFrom 41 = .ok (.aload_n 0, 1) := by decide +kernel
theorem dX3_copyFrom_42 : decode cX3_copyFrom 42 = .ok (.getfield 18, 3) := by decide +kernel
theorem dX3_copyFrom_45 : decode cX3_copyFrom 45 = .ok (.iconst 0, 1) := by decide +kernel
theorem dX3_copyFrom_46 : decode cX3_copyFrom 46 = .ok (.iconst 5, 1) := by decide +kernel
theorem dX3_copyFrom_47 : decode cX3_copyFrom 47 = .ok (.invokestatic 41, 3) := by decide +kernel
theorem dX3_copyFrom_50 : decode cX3_copyFrom 50 = .ok (.aload_n 1, 1) := by decide +kernel
theorem dX3_copyFrom_51 : decode cX3_copyFrom 51 = .ok (.getfield 21, 3) := by decide +kernel
theorem dX3_copyFrom_54 : decode cX3_copyFrom 54 = .ok (.iconst 0, 1) := by decide +kernel
theorem dX3_copyFrom_55 : decode cX3_copyFrom 55 = .ok (.aload_n 0, 1) := by decide +kernel
theorem dX3_copyFrom_56 : decode cX3_copyFrom 56 = .ok (.getfield 21, 3) := by decide +kernel
theorem dX3_copyFrom_59 : decode cX3_copyFrom 59 = .ok (.iconst 0, 1) := by decide +kernel
theorem dX3_copyFrom_60 : decode cX3_copyFrom 60 = .ok (.iconst 5, 1) := by decide +kernel
theorem dX3_copyFrom_61 : decode cX3_copyFrom 61 = .ok (.invokestatic 41, 3) := by decide +kernel
theorem dX3_copyFrom_64 : decode cX3_copyFrom 64 = .ok (.aload_n 1, 1) := by decide +kernel
theorem dX3_copyFrom_65 : decode cX3_copyFrom 65 = .ok (.getfield 24, 3) := by decide +kernel
theorem dX3_copyFrom_68 : decode cX3_copyFrom 68 = .ok (.iconst 0, 1) := by decide +kernel
theorem dX3_copyFrom_69 : decode cX3_copyFrom 69 = .ok (.aload_n 0, 1) := by decide +kernel
theorem dX3_copyFrom_70 : decode cX3_copyFrom 70 = .ok (.getfield 24, 3) := by decide +kernel
theorem dX3_copyFrom_73 : decode cX3_copyFrom 73 = .ok (.iconst 0, 1) := by decide +kernel
theorem dX3_copyFrom_74 : decode cX3_copyFrom 74 = .ok (.iconst 5, 1) := by decide +kernel
theorem dX3_copyFrom_75 : decode cX3_copyFrom 75 = .ok (.invokestatic 41, 3) := by decide +kernel
theorem dX3_copyFrom_78 : decode cX3_copyFrom 78 = .ok (.aload_n 1, 1) := by decide +kernel
theorem dX3_copyFrom_79 : decode cX3_copyFrom 79 = .ok (.getfield 27, 3) := by decide +kernel
theorem dX3_copyFrom_82 : decode cX3_copyFrom 82 = .ok (.iconst 0, 1) := by decide +kernel
theorem dX3_copyFrom_83 : decode cX3_copyFrom 83 = .ok (.aload_n 0, 1) := by decide +kernel
theorem dX3_copyFrom_84 : decode cX3_copyFrom 84 = .ok (.getfield 27, 3) := by decide +kernel
theorem dX3_copyFrom_87 : decode cX3_copyFrom 87 = .ok (.iconst 0, 1) := by decide +kernel
theorem dX3_copyFrom_88 : decode cX3_copyFrom 88 = .ok (.iconst 5, 1) := by decide +kernel
theorem dX3_copyFrom_89 : decode cX3_copyFrom 89 = .ok (.invokestatic 41, 3) := by decide +kernel
theorem dX3_copyFrom_92 : decode cX3_copyFrom 92 = .ok (.return_, 1) := by decide +kernel
theorem dX3_guestsIn_0 : decode cX3_guestsIn 0 = .ok (.iconst 0, 1) := by decide +kernel
theorem dX3_guestsIn_1 : decode cX3_guestsIn 1 = .ok (.istore_n 3, 1) := by decide +kernel
theorem dX3_guestsIn_2 : decode cX3_guestsIn 2 = .ok (.iconst 0, 1) := by decide +kernel
theorem dX3_guestsIn_3 : decode cX3_guestsIn 3 = .ok (.istore 4, 2) := by decide +kernel
theorem dX3_guestsIn_5 : decode cX3_guestsIn 5 = .ok (.iload 4, 2) := by decide +kernel
theorem dX3_guestsIn_7 : decode cX3_guestsIn 7 = .ok (.aload_n 1, 1) := by decide +kernel
theorem dX3_guestsIn_8 : decode cX3_guestsIn 8 = .ok (.getfield 47, 3) := by decide +kernel
theorem dX3_guestsIn_11 : decode cX3_guestsIn 11 = .ok (.if_icmp .ge 34, 3) := by decide +kernel
theorem dX3_guestsIn_14 : decode cX3_guestsIn 14 = .ok (.aload_n 0, 1) := by decide +kernel
theorem dX3_guestsIn_15 : decode cX3_guestsIn 15 = .ok (.getfield 9, 3) := by decide +kernel
theorem dX3_guestsIn_18 : decode cX3_guestsIn 18 = .ok (.iload 4, 2) := by decide +kernel
theorem dX3_guestsIn_20 : decode cX3_guestsIn 20 = .ok (.iaload, 1) := by decide +kernel
theorem dX3_guestsIn_21 : decode cX3_guestsIn 21 = .ok (.iload_n 2, 1) := by decide +kernel
theorem dX3_guestsIn_22 : decode cX3_guestsIn 22 = .ok (.if_icmp .ne 17, 3) := by decide +kernel
theorem dX3_guestsIn_25 : decode cX3_guestsIn 25 = .ok (.aload_n 1, 1) := by decide +kernel
theorem dX3_guestsIn_26 : decode cX3_guestsIn 26 = .ok (.getfield 50, 3) := by decide +kernel
theorem dX3_guestsIn_29 : decode cX3_guestsIn 29 = .ok (.iload_n 2, 1) := by decide +kernel
theorem dX3_guestsIn_30 : decode cX3_guestsIn 30 = .ok (.iaload, 1) := by decide +kernel
theorem dX3_guestsIn_31 : decode cX3_guestsIn 31 = .ok (.iload 4, 2) := by decide +kernel
theorem dX3_guestsIn_33 : decode cX3_guestsIn 33 = .ok (.if_icmp .eq 6, 3) := by decide +kernel
theorem dX3_guestsIn_36 : decode cX3_guestsIn 36 = .ok (.iinc 3 1, 3) := by decide +kernel
theorem dX3_guestsIn_39 : decode cX3_guestsIn 39 = .ok (.iinc 4 1, 3) := by decide +kernel
theorem dX3_guestsIn_42 : decode cX3_guestsIn 42 = .ok (.goto (-37), 3) := by decide +kernel
theorem dX3_guestsIn_45 : decode cX3_guestsIn 45 = .ok (.iload_n 3, 1) := by decide +kernel
theorem dX3_guestsIn_46 : decode cX3_guestsIn 46 = .ok (.ireturn, 1) := by decide +kernel
theorem dX3_haver_0 : decode cX3_haver 0 = .ok (.aload_n 1, 1) := by decide +kernel
theorem dX3_haver_1 : decode cX3_haver 1 = .ok (.getfield 50, 3) := by decide +kernel
theorem dX3_haver_4 : decode cX3_haver 4 = .ok (.iload_n 2, 1) := by decide +kernel
theorem dX3_haver_5 : decode cX3_haver 5 = .ok (.iaload, 1) := by decide +kernel
theorem dX3_haver_6 : decode cX3_haver 6 = .ok (.istore_n 3, 1) := by decide +kernel
theorem dX3_haver_7 : decode cX3_haver 7 = .ok (.iconst (-1), 1) := by decide +kernel
theorem dX3_haver_8 : decode cX3_haver 8 = .ok (.istore 4, 2) := by decide +kernel
theorem dX3_haver_10 : decode cX3_haver 10 = .ok (.iconst 0, 1) := by decide +kernel
theorem dX3_haver_11 : decode cX3_haver 11 = .ok (.istore 5, 2) := by decide +kernel
theorem dX3_haver_13 : decode cX3_haver 13 = .ok (.iconst 0, 1) := by decide +kernel
theorem dX3_haver_14 : decode cX3_haver 14 = .ok (.istore 6, 2) := by decide +kernel
theorem dX3_haver_16 : decode cX3_haver 16 = .ok (.iload 6, 2) := by decide +kernel
theorem dX3_haver_18 : decode cX3_haver 18 = .ok (.aload_n 1, 1) := by decide +kernel
theorem dX3_haver_19 : decode cX3_haver 19 = .ok (.getfield 47, 3) := by decide +kernel
theorem dX3_haver_22 : decode cX3_haver 22 = .ok (.if_icmp .ge 112, 3) := by decide +kernel
theorem dX3_haver_25 : decode cX3_haver 25 = .ok (.aload_n 0, 1) := by decide +kernel
theorem dX3_haver_26 : decode cX3_haver 26 = .ok (.getfield 9, 3) := by decide +kernel
theorem dX3_haver_29 : decode cX3_haver 29 = .ok (.iload 6, 2) := by decide +kernel
theorem dX3_haver_31 : decode cX3_haver 31 = .ok (.iaload, 1) := by decide +kernel
theorem dX3_haver_32 : decode cX3_haver 32 = .ok (.iload_n 2, 1) := by decide +kernel
theorem dX3_haver_33 : decode cX3_haver 33 = .ok (.if_icmp .ne 95, 3) := by decide +kernel
theorem dX3_haver_36 : decode cX3_haver 36 = .ok (.iload 6, 2) := by decide +kernel
theorem dX3_haver_38 : decode cX3_haver 38 = .ok (.iload_n 3, 1) := by decide +kernel
theorem dX3_haver_39 : decode cX3_haver 39 = .ok (.if_icmp .eq 89, 3) := by decide +kernel
theorem dX3_haver_42 : decode cX3_haver 42 = .ok (.aload_n 0, 1) := by decide +kernel
theorem dX3_haver_43 : decode cX3_haver 43 = .ok (.getfield 15, 3) := by decide +kernel
theorem dX3_haver_46 : decode cX3_haver 46 = .ok (.iload 6, 2) := by decide +kernel
theorem dX3_haver_48 : decode cX3_haver 48 = .ok (.iaload, 1) := by decide +kernel
theorem dX3_haver_49 : decode cX3_haver 49 = .ok (.aload_n 1, 1) := by decide +kernel
theorem dX3_haver_50 : decode cX3_haver 50 = .ok (.getfield 53, 3) := by decide +kernel
theorem dX3_haver_53 : decode cX3_haver 53 = .ok (.iconst 1, 1) := by decide +kernel
theorem dX3_haver_54 : decode cX3_haver 54 = .ok (.iaload, 1) := by decide +kernel
theorem dX3_haver_55 : decode cX3_haver 55 = .ok (.if_icmp .ge 73, 3) := by decide +kernel
theorem dX3_haver_58 : decode cX3_haver 58 = .ok (.aload_n 1, 1) := by decide +kernel
theorem dX3_haver_59 : decode cX3_haver 59 = .ok (.getfield 56, 3) := by decide +kernel
theorem dX3_haver_62 : decode cX3_haver 62 = .ok (.ifCond .eq 23, 3) := by decide +kernel
theorem dX3_haver_65 : decode cX3_haver 65 = .ok (.aload_n 0, 1) := by decide +kernel
theorem dX3_haver_66 : decode cX3_haver 66 = .ok (.getfield 15, 3) := by decide +kernel
theorem dX3_haver_69 : decode cX3_haver 69 = .ok (.iload 6, 2) := by decide +kernel
theorem dX3_haver_71 : decode cX3_haver 71 = .ok (.iaload, 1) := by decide +kernel
theorem dX3_haver_72 : decode cX3_haver 72 = .ok (.iload 5, 2) := by decide +kernel
theorem dX3_haver_74 : decode cX3_haver 74 = .ok (.if_icmp .gt 7, 3) := by decide +kernel
theorem dX3_haver_77 : decode cX3_haver 77 = .ok (.iconst 1, 1) := by decide +kernel
theorem dX3_haver_78 : decode cX3_haver 78 = .ok (.goto 24, 3) := by decide +kernel
theorem dX3_haver_81 : decode cX3_haver 81 = .ok (.iconst 0, 1) := by decide +kernel
theorem dX3_haver_82 : decode cX3_haver 82 = .ok (.goto 20, 3) := by decide +kernel
theorem dX3_haver_85 : decode cX3_haver 85 = .ok (.aload_n 0, 1) := by decide +kernel
theorem dX3_haver_86 : decode cX3_haver 86 = .ok (.getfield 15, 3) := by decide +kernel
theorem dX3_haver_89 : decode cX3_haver 89 = .ok (.iload 6, 2) := by decide +kernel
theorem dX3_haver_91 : decode cX3_haver 91 = .ok (.iaload, 1) := by decide +kernel
theorem dX3_haver_92 : decode cX3_haver 92 = .ok (.iload 5, 2) := by decide +kernel
theorem dX3_haver_94 : decode cX3_haver 94 = .ok (.if_icmp .le 7, 3) := by decide +kernel
theorem dX3_haver_97 : decode cX3_haver 97 = .ok (.iconst 1, 1) := by decide +kernel
theorem dX3_haver_98 : decode cX3_haver 98 = .ok (.goto 4, 3) := by decide +kernel
theorem dX3_haver_101 : decode cX3_haver 101 = .ok (.iconst 0, 1) := by decide +kernel
theorem dX3_haver_102 : decode cX3_haver 102 = .ok (.istore 7, 2) := by decide +kernel
theorem dX3_haver_104 : decode cX3_haver 104 = .ok (.iload 4, 2) := by decide +kernel
theorem dX3_haver_106 : decode cX3_haver 106 = .ok (.iconst (-1), 1) := by decide +kernel
theorem dX3_haver_107 : decode cX3_haver 107 = .ok (.if_icmp .eq 8, 3) := by decide +kernel
theorem dX3_haver_110 : decode cX3_haver 110 = .ok (.iload 7, 2) := by decide +kernel
theorem dX3_haver_112 : decode cX3_haver 112 = .ok (.ifCond .eq 16, 3) := by decide +kernel
theorem dX3_haver_115 : decode cX3_haver 115 = .ok (.iload 6, 2) := by decide +kernel
theorem dX3_haver_117 : decode cX3_haver 117 = .ok (.istore 4, 2) := by decide +kernel
theorem dX3_haver_119 : decode cX3_haver 119 = .ok (.aload_n 0, 1) := by decide +kernel
theorem dX3_haver_120 : decode cX3_haver 120 = .ok (.getfield 15, 3) := by decide +kernel
theorem dX3_haver_123 : decode cX3_haver 123 = .ok (.iload 6, 2) := by decide +kernel
theorem dX3_haver_125 : decode cX3_haver 125 = .ok (.iaload, 1) := by decide +kernel
theorem dX3_haver_126 : decode cX3_haver 126 = .ok (.istore 5, 2) := by decide +kernel
theorem dX3_haver_128 : decode cX3_haver 128 = .ok (.iinc 6 1, 3) := by decide +kernel
theorem dX3_haver_131 : decode cX3_haver 131 = .ok (.goto (-115), 3) := by decide +kernel
theorem dX3_haver_134 : decode cX3_haver 134 = .ok (.iload 4, 2) := by decide +kernel
theorem dX3_haver_136 : decode cX3_haver 136 = .ok (.iconst (-1), 1) := by decide +kernel
theorem dX3_haver_137 : decode cX3_haver 137 = .ok (.if_icmp .ne 20, 3) := by decide +kernel
theorem dX3_haver_140 : decode cX3_haver 140 = .ok (.iload_n 3, 1) := by decide +kernel
theorem dX3_haver_141 : decode cX3_haver 141 = .ok (.iconst (-1), 1) := by decide +kernel
theorem dX3_haver_142 : decode cX3_haver 142 = .ok (.if_icmp .eq 15, 3) := by decide +kernel
theorem dX3_haver_145 : decode cX3_haver 145 = .ok (.aload_n 0, 1) := by decide +kernel
theorem dX3_haver_146 : decode cX3_haver 146 = .ok (.getfield 9, 3) := by decide +kernel
theorem dX3_haver_149 : decode cX3_haver 149 = .ok (.iload_n 3, 1) := by decide +kernel
theorem dX3_haver_150 : decode cX3_haver 150 = .ok (.iaload, 1) := by decide +kernel
theorem dX3_haver_151 : decode cX3_haver 151 = .ok (.iload_n 2, 1) := by decide +kernel
theorem dX3_haver_152 : decode cX3_haver 152 = .ok (.if_icmp .ne 5, 3) := by decide +kernel
theorem dX3_haver_155 : decode cX3_haver 155 = .ok (.iload_n 3, 1) := by decide +kernel
theorem dX3_haver_156 : decode cX3_haver 156 = .ok (.ireturn, 1) := by decide +kernel
theorem dX3_haver_157 : decode cX3_haver 157 = .ok (.iload 4, 2) := by decide +kernel
theorem dX3_haver_159 : decode cX3_haver 159 = .ok (.ireturn, 1) := by decide +kernel
set_option maxRecDepth 20000 in
theorem dX3_wordOf_0 : decode cX3_wordOf 0 = .ok (.aload_n 0, 1) := by decide +kernel
theorem dX3_wordOf_1 : decode cX3_wordOf 1 = .ok (.aload_n 1, 1) := by decide +kernel
theorem dX3_wordOf_2 : decode cX3_wordOf 2 = .ok (.iload_n 2, 1) := by decide +kernel
theorem dX3_wordOf_3 : decode cX3_wordOf 3 = .ok (.invokevirtual 60, 3) := by decide +kernel
theorem dX3_wordOf_6 : decode cX3_wordOf 6 = .ok (.istore_n 3, 1) := by decide +kernel
theorem dX3_wordOf_7 : decode cX3_wordOf 7 = .ok (.aload_n 1, 1) := by decide +kernel
theorem dX3_wordOf_8 : decode cX3_wordOf 8 = .ok (.getfield 50, 3) := by decide +kernel
theorem dX3_wordOf_11 : decode cX3_wordOf 11 = .ok (.iload_n 2, 1) := by decide +kernel
theorem dX3_wordOf_12 : decode cX3_wordOf 12 = .ok (.iaload, 1) := by decide +kernel
theorem dX3_wordOf_13 : decode cX3_wordOf 13 = .ok (.istore 4, 2) := by decide +kernel
theorem dX3_wordOf_15 : decode cX3_wordOf 15 = .ok (.iload_n 3, 1) := by decide +kernel
theorem dX3_wordOf_16 : decode cX3_wordOf 16 = .ok (.iconst (-1), 1) := by decide +kernel
theorem dX3_wordOf_17 : decode cX3_wordOf 17 = .ok (.if_icmp .ne 5, 3) := by decide +kernel
theorem dX3_wordOf_20 : decode cX3_wordOf 20 = .ok (.iconst 0, 1) := by decide +kernel
theorem dX3_wordOf_21 : decode cX3_wordOf 21 = .ok (.ireturn, 1) := by decide +kernel
theorem dX3_wordOf_22 : decode cX3_wordOf 22 = .ok (.iload_n 3, 1) := by decide +kernel
theorem dX3_wordOf_23 : decode cX3_wordOf 23 = .ok (.iload 4, 2) := by decide +kernel
theorem dX3_wordOf_25 : decode cX3_wordOf 25 = .ok (.if_icmp .ne 5, 3) := by decide +kernel
theorem dX3_wordOf_28 : decode cX3_wordOf 28 = .ok (.iconst 1, 1) := by decide +kernel
theorem dX3_wordOf_29 : decode cX3_wordOf 29 = .ok (.ireturn, 1) := by decide +kernel
theorem dX3_wordOf_30 : decode cX3_wordOf 30 = .ok (.iconst 0, 1) := by decide +kernel
theorem dX3_wordOf_31 : decode cX3_wordOf 31 = .ok (.istore 5, 2) := by decide +kernel
theorem dX3_wordOf_33 : decode cX3_wordOf 33 = .ok (.iconst 0, 1) := by decide +kernel
theorem dX3_wordOf_34 : decode cX3_wordOf 34 = .ok (.istore 6, 2) := by decide +kernel
theorem dX3_wordOf_36 : decode cX3_wordOf 36 = .ok (.iconst 0, 1) := by decide +kernel
theorem dX3_wordOf_37 : decode cX3_wordOf 37 = .ok (.istore 7, 2) := by decide +kernel
theorem dX3_wordOf_39 : decode cX3_wordOf 39 = .ok (.iload 7, 2) := by decide +kernel
theorem dX3_wordOf_41 : decode cX3_wordOf 41 = .ok (.aload_n 1, 1) := by decide +kernel
theorem dX3_wordOf_42 : decode cX3_wordOf 42 = .ok (.getfield 47, 3) := by decide +kernel
theorem dX3_wordOf_45 : decode cX3_wordOf 45 = .ok (.if_icmp .ge 65, 3) := by decide +kernel
theorem dX3_wordOf_48 : decode cX3_wordOf 48 = .ok (.aload_n 0, 1) := by decide +kernel
theorem dX3_wordOf_49 : decode cX3_wordOf 49 = .ok (.getfield 9, 3) := by decide +kernel
theorem dX3_wordOf_52 : decode cX3_wordOf 52 = .ok (.iload 7, 2) := by decide +kernel
theorem dX3_wordOf_54 : decode cX3_wordOf 54 = .ok (.iaload, 1) := by decide +kernel
theorem dX3_wordOf_55 : decode cX3_wordOf 55 = .ok (.iload_n 2, 1) := by decide +kernel
theorem dX3_wordOf_56 : decode cX3_wordOf 56 = .ok (.if_icmp .ne 48, 3) := by decide +kernel
theorem dX3_wordOf_59 : decode cX3_wordOf 59 = .ok (.iload 7, 2) := by decide +kernel
theorem dX3_wordOf_61 : decode cX3_wordOf 61 = .ok (.iload 4, 2) := by decide +kernel
theorem dX3_wordOf_63 : decode cX3_wordOf 63 = .ok (.if_icmp .eq 41, 3) := by decide +kernel
theorem dX3_wordOf_66 : decode cX3_wordOf 66 = .ok (.aload_n 0, 1) := by decide +kernel
theorem dX3_wordOf_67 : decode cX3_wordOf 67 = .ok (.getfield 15, 3) := by decide +kernel
theorem dX3_wordOf_70 : decode cX3_wordOf 70 = .ok (.iload 7, 2) := by decide +kernel
theorem dX3_wordOf_72 : decode cX3_wordOf 72 = .ok (.iaload, 1) := by decide +kernel
theorem dX3_wordOf_73 : decode cX3_wordOf 73 = .ok (.aload_n 1, 1) := by decide +kernel
theorem dX3_wordOf_74 : decode cX3_wordOf 74 = .ok (.getfield 53, 3) := by decide +kernel
theorem dX3_wordOf_77 : decode cX3_wordOf 77 = .ok (.iconst 1, 1) := by decide +kernel
theorem dX3_wordOf_78 : decode cX3_wordOf 78 = .ok (.iaload, 1) := by decide +kernel
theorem dX3_wordOf_79 : decode cX3_wordOf 79 = .ok (.if_icmp .ge 25, 3) := by decide +kernel
theorem dX3_wordOf_82 : decode cX3_wordOf 82 = .ok (.iinc 5 1, 3) := by decide +kernel
theorem dX3_wordOf_85 : decode cX3_wordOf 85 = .ok (.aload_n 0, 1) := by decide +kernel
theorem dX3_wordOf_86 : decode cX3_wordOf 86 = .ok (.getfield 15, 3) := by decide +kernel
theorem dX3_wordOf_89 : decode cX3_wordOf 89 = .ok (.iload 7, 2) := by decide +kernel
theorem dX3_wordOf_91 : decode cX3_wordOf 91 = .ok (.iaload, 1) := by decide +kernel
theorem dX3_wordOf_92 : decode cX3_wordOf 92 = .ok (.aload_n 0, 1) := by decide +kernel
theorem dX3_wordOf_93 : decode cX3_wordOf 93 = .ok (.getfield 15, 3) := by decide +kernel
theorem dX3_wordOf_96 : decode cX3_wordOf 96 = .ok (.iload_n 3, 1) := by decide +kernel
theorem dX3_wordOf_97 : decode cX3_wordOf 97 = .ok (.iaload, 1) := by decide +kernel
theorem dX3_wordOf_98 : decode cX3_wordOf 98 = .ok (.if_icmp .ne 6, 3) := by decide +kernel
theorem dX3_wordOf_101 : decode cX3_wordOf 101 = .ok (.iinc 6 1, 3) := by decide +kernel
theorem dX3_wordOf_104 : decode cX3_wordOf 104 = .ok (.iinc 7 1, 3) := by decide +kernel
theorem dX3_wordOf_107 : decode cX3_wordOf 107 = .ok (.goto (-68), 3) := by decide +kernel
theorem dX3_wordOf_110 : decode cX3_wordOf 110 = .ok (.iload 5, 2) := by decide +kernel
theorem dX3_wordOf_112 : decode cX3_wordOf 112 = .ok (.iconst 1, 1) := by decide +kernel
theorem dX3_wordOf_113 : decode cX3_wordOf 113 = .ok (.if_icmp .ne 5, 3) := by decide +kernel
theorem dX3_wordOf_116 : decode cX3_wordOf 116 = .ok (.iconst 2, 1) := by decide +kernel
theorem dX3_wordOf_117 : decode cX3_wordOf 117 = .ok (.ireturn, 1) := by decide +kernel
theorem dX3_wordOf_118 : decode cX3_wordOf 118 = .ok (.iload 6, 2) := by decide +kernel
theorem dX3_wordOf_120 : decode cX3_wordOf 120 = .ok (.iconst 1, 1) := by decide +kernel
theorem dX3_wordOf_121 : decode cX3_wordOf 121 = .ok (.if_icmp .ne 7, 3) := by decide +kernel
theorem dX3_wordOf_124 : decode cX3_wordOf 124 = .ok (.iconst 3, 1) := by decide +kernel
theorem dX3_wordOf_125 : decode cX3_wordOf 125 = .ok (.goto 4, 3) := by decide +kernel
theorem dX3_wordOf_128 : decode cX3_wordOf 128 = .ok (.iconst 4, 1) := by decide +kernel
theorem dX3_wordOf_129 : decode cX3_wordOf 129 = .ok (.ireturn, 1) := by decide +kernel
set_option maxRecDepth 20000 in
theorem dX3_goOn_0 : decode cX3_goOn 0 = .ok (.aload_n 0, 1) := by decide +kernel
theorem dX3_goOn_1 : decode cX3_goOn 1 = .ok (.aload_n 1, 1) := by decide +kernel
theorem dX3_goOn_2 : decode cX3_goOn 2 = .ok (.aload_n 3, 1) := by decide +kernel
theorem dX3_goOn_3 : decode cX3_goOn 3 = .ok (.invokevirtual 64, 3) := by decide +kernel
theorem dX3_goOn_6 : decode cX3_goOn 6 = .ok (.istore 4, 2) := by decide +kernel
theorem dX3_goOn_8 : decode cX3_goOn 8 = .ok (.iconst 0, 1) := by decide +kernel
theorem dX3_goOn_9 : decode cX3_goOn 9 = .ok (.istore 5, 2) := by decide +kernel
theorem dX3_goOn_11 : decode cX3_goOn 11 = .ok (.iload 5, 2) := by decide +kernel
theorem dX3_goOn_13 : decode cX3_goOn 13 = .ok (.aload_n 1, 1) := by decide +kernel
theorem dX3_goOn_14 : decode cX3_goOn 14 = .ok (.getfield 47, 3) := by decide +kernel
theorem dX3_goOn_17 : decode cX3_goOn 17 = .ok (.if_icmp .ge 46, 3) := by decide +kernel
theorem dX3_goOn_20 : decode cX3_goOn 20 = .ok (.iload 4, 2) := by decide +kernel
theorem dX3_goOn_22 : decode cX3_goOn 22 = .ok (.iload 5, 2) := by decide +kernel
theorem dX3_goOn_24 : decode cX3_goOn 24 = .ok (.ishr, 1) := by decide +kernel
theorem dX3_goOn_25 : decode cX3_goOn 25 = .ok (.iconst 1, 1) := by decide +kernel
theorem dX3_goOn_26 : decode cX3_goOn 26 = .ok (.iand, 1) := by decide +kernel
theorem dX3_goOn_27 : decode cX3_goOn 27 = .ok (.iconst 1, 1) := by decide +kernel
theorem dX3_goOn_28 : decode cX3_goOn 28 = .ok (.if_icmp .ne 29, 3) := by decide +kernel
theorem dX3_goOn_31 : decode cX3_goOn 31 = .ok (.aload_n 0, 1) := by decide +kernel
theorem dX3_goOn_32 : decode cX3_goOn 32 = .ok (.aload_n 1, 1) := by decide +kernel
theorem dX3_goOn_33 : decode cX3_goOn 33 = .ok (.aload_n 2, 1) := by decide +kernel
theorem dX3_goOn_34 : decode cX3_goOn 34 = .ok (.iload 5, 2) := by decide +kernel
theorem dX3_goOn_36 : decode cX3_goOn 36 = .ok (.aload_n 3, 1) := by decide +kernel
theorem dX3_goOn_37 : decode cX3_goOn 37 = .ok (.iload 5, 2) := by decide +kernel
theorem dX3_goOn_39 : decode cX3_goOn 39 = .ok (.iaload, 1) := by decide +kernel
theorem dX3_goOn_40 : decode cX3_goOn 40 = .ok (.invokevirtual 68, 3) := by decide +kernel
theorem dX3_goOn_43 : decode cX3_goOn 43 = .ok (.ifCond .eq 14, 3) := by decide +kernel
theorem dX3_goOn_46 : decode cX3_goOn 46 = .ok (.aload_n 0, 1) := by decide +kernel
theorem dX3_goOn_47 : decode cX3_goOn 47 = .ok (.getfield 9, 3) := by decide +kernel
theorem dX3_goOn_50 : decode cX3_goOn 50 = .ok (.iload 5, 2) := by decide +kernel
theorem dX3_goOn_52 : decode cX3_goOn 52 = .ok (.aload_n 3, 1) := by decide +kernel
theorem dX3_goOn_53 : decode cX3_goOn 53 = .ok (.iload 5, 2) := by decide +kernel
theorem dX3_goOn_55 : decode cX3_goOn 55 = .ok (.iaload, 1) := by decide +kernel
theorem dX3_goOn_56 : decode cX3_goOn 56 = .ok (.iastore, 1) := by decide +kernel
theorem dX3_goOn_57 : decode cX3_goOn 57 = .ok (.iinc 5 1, 3) := by decide +kernel
theorem dX3_goOn_60 : decode cX3_goOn 60 = .ok (.goto (-49), 3) := by decide +kernel
theorem dX3_goOn_63 : decode cX3_goOn 63 = .ok (.iconst 0, 1) := by decide +kernel
theorem dX3_goOn_64 : decode cX3_goOn 64 = .ok (.istore 5, 2) := by decide +kernel
theorem dX3_goOn_66 : decode cX3_goOn 66 = .ok (.iload 5, 2) := by decide +kernel
theorem dX3_goOn_68 : decode cX3_goOn 68 = .ok (.aload_n 1, 1) := by decide +kernel
theorem dX3_goOn_69 : decode cX3_goOn 69 = .ok (.getfield 47, 3) := by decide +kernel
theorem dX3_goOn_72 : decode cX3_goOn 72 = .ok (.if_icmp .ge 23, 3) := by decide +kernel
theorem dX3_goOn_75 : decode cX3_goOn 75 = .ok (.aload_n 0, 1) := by decide +kernel
theorem dX3_goOn_76 : decode cX3_goOn 76 = .ok (.getfield 18, 3) := by decide +kernel
theorem dX3_goOn_79 : decode cX3_goOn 79 = .ok (.iload 5, 2) := by decide +kernel
theorem dX3_goOn_81 : decode cX3_goOn 81 = .ok (.aload_n 0, 1) := by decide +kernel
theorem dX3_goOn_82 : decode cX3_goOn 82 = .ok (.aload_n 1, 1) := by decide +kernel
theorem dX3_goOn_83 : decode cX3_goOn 83 = .ok (.iload 5, 2) := by decide +kernel
theorem dX3_goOn_85 : decode cX3_goOn 85 = .ok (.invokevirtual 72, 3) := by decide +kernel
theorem dX3_goOn_88 : decode cX3_goOn 88 = .ok (.iastore, 1) := by decide +kernel
theorem dX3_goOn_89 : decode cX3_goOn 89 = .ok (.iinc 5 1, 3) := by decide +kernel
theorem dX3_goOn_92 : decode cX3_goOn 92 = .ok (.goto (-26), 3) := by decide +kernel
theorem dX3_goOn_95 : decode cX3_goOn 95 = .ok (.iconst 0, 1) := by decide +kernel
theorem dX3_goOn_96 : decode cX3_goOn 96 = .ok (.istore 5, 2) := by decide +kernel
theorem dX3_goOn_98 : decode cX3_goOn 98 = .ok (.iload 5, 2) := by decide +kernel
theorem dX3_goOn_100 : decode cX3_goOn 100 = .ok (.aload_n 1, 1) := by decide +kernel
theorem dX3_goOn_101 : decode cX3_goOn 101 = .ok (.getfield 75, 3) := by decide +kernel
theorem dX3_goOn_104 : decode cX3_goOn 104 = .ok (.if_icmp .ge 16, 3) := by decide +kernel
theorem dX3_goOn_107 : decode cX3_goOn 107 = .ok (.aload_n 0, 1) := by decide +kernel
theorem dX3_goOn_108 : decode cX3_goOn 108 = .ok (.aload_n 1, 1) := by decide +kernel
theorem dX3_goOn_109 : decode cX3_goOn 109 = .ok (.iload 5, 2) := by decide +kernel
theorem dX3_goOn_111 : decode cX3_goOn 111 = .ok (.invokevirtual 78, 3) := by decide +kernel
theorem dX3_goOn_114 : decode cX3_goOn 114 = .ok (.iinc 5 1, 3) := by decide +kernel
theorem dX3_goOn_117 : decode cX3_goOn 117 = .ok (.goto (-19), 3) := by decide +kernel
theorem dX3_goOn_120 : decode cX3_goOn 120 = .ok (.iconst 0, 1) := by decide +kernel
theorem dX3_goOn_121 : decode cX3_goOn 121 = .ok (.istore 5, 2) := by decide +kernel
theorem dX3_goOn_123 : decode cX3_goOn 123 = .ok (.iload 5, 2) := by decide +kernel
theorem dX3_goOn_125 : decode cX3_goOn 125 = .ok (.aload_n 1, 1) := by decide +kernel
theorem dX3_goOn_126 : decode cX3_goOn 126 = .ok (.getfield 47, 3) := by decide +kernel
theorem dX3_goOn_129 : decode cX3_goOn 129 = .ok (.if_icmp .ge 26, 3) := by decide +kernel
theorem dX3_goOn_132 : decode cX3_goOn 132 = .ok (.aload_n 0, 1) := by decide +kernel
theorem dX3_goOn_133 : decode cX3_goOn 133 = .ok (.getfield 21, 3) := by decide +kernel
theorem dX3_goOn_136 : decode cX3_goOn 136 = .ok (.iload 5, 2) := by decide +kernel
theorem dX3_goOn_138 : decode cX3_goOn 138 = .ok (.dup2, 1) := by decide +kernel
theorem dX3_goOn_139 : decode cX3_goOn 139 = .ok (.iaload, 1) := by decide +kernel
theorem dX3_goOn_140 : decode cX3_goOn 140 = .ok (.aload_n 0, 1) := by decide +kernel
theorem dX3_goOn_141 : decode cX3_goOn 141 = .ok (.getfield 18, 3) := by decide +kernel
theorem dX3_goOn_144 : decode cX3_goOn 144 = .ok (.iload 5, 2) := by decide +kernel
theorem dX3_goOn_146 : decode cX3_goOn 146 = .ok (.iaload, 1) := by decide +kernel
theorem dX3_goOn_147 : decode cX3_goOn 147 = .ok (.iadd, 1) := by decide +kernel
theorem dX3_goOn_148 : decode cX3_goOn 148 = .ok (.iastore, 1) := by decide +kernel
theorem dX3_goOn_149 : decode cX3_goOn 149 = .ok (.iinc 5 1, 3) := by decide +kernel
theorem dX3_goOn_152 : decode cX3_goOn 152 = .ok (.goto (-29), 3) := by decide +kernel
theorem dX3_goOn_155 : decode cX3_goOn 155 = .ok (.aload_n 0, 1) := by decide +kernel
theorem dX3_goOn_156 : decode cX3_goOn 156 = .ok (.dup, 1) := by decide +kernel
theorem dX3_goOn_157 : decode cX3_goOn 157 = .ok (.getfield 30, 3) := by decide +kernel
theorem dX3_goOn_160 : decode cX3_goOn 160 = .ok (.iconst 1, 1) := by decide +kernel
theorem dX3_goOn_161 : decode cX3_goOn 161 = .ok (.iadd, 1) := by decide +kernel
theorem dX3_goOn_162 : decode cX3_goOn 162 = .ok (.putfield 30, 3) := by decide +kernel
theorem dX3_goOn_165 : decode cX3_goOn 165 = .ok (.return_, 1) := by decide +kernel
theorem dX3_leave_0 : decode cX3_leave 0 = .ok (.iconst 0, 1) := by decide +kernel
theorem dX3_leave_1 : decode cX3_leave 1 = .ok (.istore_n 3, 1) := by decide +kernel
theorem dX3_leave_2 : decode cX3_leave 2 = .ok (.iconst 0, 1) := by decide +kernel
theorem dX3_leave_3 : decode cX3_leave 3 = .ok (.istore 4, 2) := by decide +kernel
theorem dX3_leave_5 : decode cX3_leave 5 = .ok (.iload 4, 2) := by decide +kernel
theorem dX3_leave_7 : decode cX3_leave 7 = .ok (.aload_n 1, 1) := by decide +kernel
theorem dX3_leave_8 : decode cX3_leave 8 = .ok (.getfield 47, 3) := by decide +kernel
theorem dX3_leave_11 : decode cX3_leave 11 = .ok (.if_icmp .ge 71, 3) := by decide +kernel
theorem dX3_leave_14 : decode cX3_leave 14 = .ok (.aload_n 0, 1) := by decide +kernel
theorem dX3_leave_15 : decode cX3_leave 15 = .ok (.getfield 9, 3) := by decide +kernel
theorem dX3_leave_18 : decode cX3_leave 18 = .ok (.iload 4, 2) := by decide +kernel
theorem dX3_leave_20 : decode cX3_leave 20 = .ok (.iaload, 1) := by decide +kernel
theorem dX3_leave_21 : decode cX3_leave 21 = .ok (.aload_n 2, 1) := by decide +kernel
theorem dX3_leave_22 : decode cX3_leave 22 = .ok (.iload 4, 2) := by decide +kernel
theorem dX3_leave_24 : decode cX3_leave 24 = .ok (.iaload, 1) := by decide +kernel
theorem dX3_leave_25 : decode cX3_leave 25 = .ok (.if_icmp .eq 29, 3) := by decide +kernel
theorem dX3_leave_28 : decode cX3_leave 28 = .ok (.iload_n 3, 1) := by decide +kernel
theorem dX3_leave_29 : decode cX3_leave 29 = .ok (.iconst 1, 1) := by decide +kernel
theorem dX3_leave_30 : decode cX3_leave 30 = .ok (.iload 4, 2) := by decide +kernel
theorem dX3_leave_32 : decode cX3_leave 32 = .ok (.ishl, 1) := by decide +kernel
theorem dX3_leave_33 : decode cX3_leave 33 = .ok (.ior, 1) := by decide +kernel
theorem dX3_leave_34 : decode cX3_leave 34 = .ok (.istore_n 3, 1) := by decide +kernel
theorem dX3_leave_35 : decode cX3_leave 35 = .ok (.aload_n 0, 1) := by decide +kernel
theorem dX3_leave_36 : decode cX3_leave 36 = .ok (.getfield 9, 3) := by decide +kernel
theorem dX3_leave_39 : decode cX3_leave 39 = .ok (.iload 4, 2) := by decide +kernel
theorem dX3_leave_41 : decode cX3_leave 41 = .ok (.iconst (-1), 1) := by decide +kernel
theorem dX3_leave_42 : decode cX3_leave 42 = .ok (.iastore, 1) := by decide +kernel
theorem dX3_leave_43 : decode cX3_leave 43 = .ok (.aload_n 0, 1) := by decide +kernel
theorem dX3_leave_44 : decode cX3_leave 44 = .ok (.getfield 15, 3) := by decide +kernel
theorem dX3_leave_47 : decode cX3_leave 47 = .ok (.iload 4, 2) := by decide +kernel
theorem dX3_leave_49 : decode cX3_leave 49 = .ok (.iconst 0, 1) := by decide +kernel
theorem dX3_leave_50 : decode cX3_leave 50 = .ok (.iastore, 1) := by decide +kernel
theorem dX3_leave_51 : decode cX3_leave 51 = .ok (.goto 25, 3) := by decide +kernel
theorem dX3_leave_54 : decode cX3_leave 54 = .ok (.aload_n 0, 1) := by decide +kernel
theorem dX3_leave_55 : decode cX3_leave 55 = .ok (.getfield 9, 3) := by decide +kernel
theorem dX3_leave_58 : decode cX3_leave 58 = .ok (.iload 4, 2) := by decide +kernel
theorem dX3_leave_60 : decode cX3_leave 60 = .ok (.iaload, 1) := by decide +kernel
theorem dX3_leave_61 : decode cX3_leave 61 = .ok (.iconst (-1), 1) := by decide +kernel
theorem dX3_leave_62 : decode cX3_leave 62 = .ok (.if_icmp .eq 14, 3) := by decide +kernel
theorem dX3_leave_65 : decode cX3_leave 65 = .ok (.aload_n 0, 1) := by decide +kernel
theorem dX3_leave_66 : decode cX3_leave 66 = .ok (.getfield 15, 3) := by decide +kernel
theorem dX3_leave_69 : decode cX3_leave 69 = .ok (.iload 4, 2) := by decide +kernel
theorem dX3_leave_71 : decode cX3_leave 71 = .ok (.dup2, 1) := by decide +kernel
theorem dX3_leave_72 : decode cX3_leave 72 = .ok (.iaload, 1) := by decide +kernel
theorem dX3_leave_73 : decode cX3_leave 73 = .ok (.iconst 1, 1) := by decide +kernel
theorem dX3_leave_74 : decode cX3_leave 74 = .ok (.iadd, 1) := by decide +kernel
theorem dX3_leave_75 : decode cX3_leave 75 = .ok (.iastore, 1) := by decide +kernel
theorem dX3_leave_76 : decode cX3_leave 76 = .ok (.iinc 4 1, 3) := by decide +kernel
theorem dX3_leave_79 : decode cX3_leave 79 = .ok (.goto (-74), 3) := by decide +kernel
theorem dX3_leave_82 : decode cX3_leave 82 = .ok (.iload_n 3, 1) := by decide +kernel
theorem dX3_leave_83 : decode cX3_leave 83 = .ok (.ireturn, 1) := by decide +kernel
set_option maxRecDepth 20000 in
theorem dX3_mayCome_0 : decode cX3_mayCome 0 = .ok (.iload 4, 2) := by decide +kernel
theorem dX3_mayCome_2 : decode cX3_mayCome 2 = .ok (.ifCond .lt 12, 3) := by decide +kernel
theorem dX3_mayCome_5 : decode cX3_mayCome 5 = .ok (.iload 4, 2) := by decide +kernel
theorem dX3_mayCome_7 : decode cX3_mayCome 7 = .ok (.aload_n 1, 1) := by decide +kernel
theorem dX3_mayCome_8 : decode cX3_mayCome 8 = .ok (.getfield 75, 3) := by decide +kernel
theorem dX3_mayCome_11 : decode cX3_mayCome 11 = .ok (.if_icmp .lt 5, 3) := by decide +kernel
theorem dX3_mayCome_14 : decode cX3_mayCome 14 = .ok (.iconst 0, 1) := by decide +kernel
theorem dX3_mayCome_15 : decode cX3_mayCome 15 = .ok (.ireturn, 1) := by decide +kernel
theorem dX3_mayCome_16 : decode cX3_mayCome 16 = .ok (.aload_n 1, 1) := by decide +kernel
theorem dX3_mayCome_17 : decode cX3_mayCome 17 = .ok (.getfield 50, 3) := by decide +kernel
theorem dX3_mayCome_20 : decode cX3_mayCome 20 = .ok (.iload 4, 2) := by decide +kernel
theorem dX3_mayCome_22 : decode cX3_mayCome 22 = .ok (.iaload, 1) := by decide +kernel
theorem dX3_mayCome_23 : decode cX3_mayCome 23 = .ok (.iload_n 3, 1) := by decide +kernel
theorem dX3_mayCome_24 : decode cX3_mayCome 24 = .ok (.if_icmp .ne 5, 3) := by decide +kernel
theorem dX3_mayCome_27 : decode cX3_mayCome 27 = .ok (.iconst 1, 1) := by decide +kernel
theorem dX3_mayCome_28 : decode cX3_mayCome 28 = .ok (.ireturn, 1) := by decide +kernel
theorem dX3_mayCome_29 : decode cX3_mayCome 29 = .ok (.aload_n 0, 1) := by decide +kernel
theorem dX3_mayCome_30 : decode cX3_mayCome 30 = .ok (.aload_n 1, 1) := by decide +kernel
theorem dX3_mayCome_31 : decode cX3_mayCome 31 = .ok (.iload 4, 2) := by decide +kernel
theorem dX3_mayCome_33 : decode cX3_mayCome 33 = .ok (.invokevirtual 82, 3) := by decide +kernel
theorem dX3_mayCome_36 : decode cX3_mayCome 36 = .ok (.aload_n 1, 1) := by decide +kernel
theorem dX3_mayCome_37 : decode cX3_mayCome 37 = .ok (.getfield 53, 3) := by decide +kernel
theorem dX3_mayCome_40 : decode cX3_mayCome 40 = .ok (.iconst 0, 1) := by decide +kernel
theorem dX3_mayCome_41 : decode cX3_mayCome 41 = .ok (.iaload, 1) := by decide +kernel
theorem dX3_mayCome_42 : decode cX3_mayCome 42 = .ok (.if_icmp .lt 5, 3) := by decide +kernel
theorem dX3_mayCome_45 : decode cX3_mayCome 45 = .ok (.iconst 0, 1) := by decide +kernel
theorem dX3_mayCome_46 : decode cX3_mayCome 46 = .ok (.ireturn, 1) := by decide +kernel
theorem dX3_mayCome_47 : decode cX3_mayCome 47 = .ok (.aload_n 0, 1) := by decide +kernel
theorem dX3_mayCome_48 : decode cX3_mayCome 48 = .ok (.aload_n 1, 1) := by decide +kernel
theorem dX3_mayCome_49 : decode cX3_mayCome 49 = .ok (.iload 4, 2) := by decide +kernel
theorem dX3_mayCome_51 : decode cX3_mayCome 51 = .ok (.invokevirtual 60, 3) := by decide +kernel
theorem dX3_mayCome_54 : decode cX3_mayCome 54 = .ok (.istore 5, 2) := by decide +kernel
theorem dX3_mayCome_56 : decode cX3_mayCome 56 = .ok (.iload 5, 2) := by decide +kernel
theorem dX3_mayCome_58 : decode cX3_mayCome 58 = .ok (.iconst (-1), 1) := by decide +kernel
theorem dX3_mayCome_59 : decode cX3_mayCome 59 = .ok (.if_icmp .eq 15, 3) := by decide +kernel
theorem dX3_mayCome_62 : decode cX3_mayCome 62 = .ok (.aload_n 2, 1) := by decide +kernel
theorem dX3_mayCome_63 : decode cX3_mayCome 63 = .ok (.iload 5, 2) := by decide +kernel
theorem dX3_mayCome_65 : decode cX3_mayCome 65 = .ok (.iaload, 1) := by decide +kernel
theorem dX3_mayCome_66 : decode cX3_mayCome 66 = .ok (.iload_n 3, 1) := by decide +kernel
theorem dX3_mayCome_67 : decode cX3_mayCome 67 = .ok (.ishr, 1) := by decide +kernel
theorem dX3_mayCome_68 : decode cX3_mayCome 68 = .ok (.iconst 1, 1) := by decide +kernel
theorem dX3_mayCome_69 : decode cX3_mayCome 69 = .ok (.iand, 1) := by decide +kernel
theorem dX3_mayCome_70 : decode cX3_mayCome 70 = .ok (.iconst 1, 1) := by decide +kernel
theorem dX3_mayCome_71 : decode cX3_mayCome 71 = .ok (.if_icmp .ne 7, 3) := by decide +kernel
theorem dX3_mayCome_74 : decode cX3_mayCome 74 = .ok (.iconst 1, 1) := by decide +kernel
theorem dX3_mayCome_75 : decode cX3_mayCome 75 = .ok (.goto 4, 3) := by decide +kernel
theorem dX3_mayCome_78 : decode cX3_mayCome 78 = .ok (.iconst 0, 1) := by decide +kernel
theorem dX3_mayCome_79 : decode cX3_mayCome 79 = .ok (.ireturn, 1) := by decide +kernel
theorem dX3_gainOfTies_0 : decode cX3_gainOfTies 0 = .ok (.iconst 0, 1) := by decide +kernel
theorem dX3_gainOfTies_1 : decode cX3_gainOfTies 1 = .ok (.istore_n 3, 1) := by decide +kernel
theorem dX3_gainOfTies_2 : decode cX3_gainOfTies 2 = .ok (.aload_n 0, 1) := by decide +kernel
theorem dX3_gainOfTies_3 : decode cX3_gainOfTies 3 = .ok (.getfield 9, 3) := by decide +kernel
theorem dX3_gainOfTies_6 : decode cX3_gainOfTies 6 = .ok (.iload_n 2, 1) := by decide +kernel
theorem dX3_gainOfTies_7 : decode cX3_gainOfTies 7 = .ok (.iaload, 1) := by decide +kernel
theorem dX3_gainOfTies_8 : decode cX3_gainOfTies 8 = .ok (.iconst (-1), 1) := by decide +kernel
theorem dX3_gainOfTies_9 : decode cX3_gainOfTies 9 = .ok (.if_icmp .eq 57, 3) := by decide +kernel
theorem dX3_gainOfTies_12 : decode cX3_gainOfTies 12 = .ok (.iconst 0, 1) := by decide +kernel
theorem dX3_gainOfTies_13 : decode cX3_gainOfTies 13 = .ok (.istore 4, 2) := by decide +kernel
theorem dX3_gainOfTies_15 : decode cX3_gainOfTies 15 = .ok (.iload 4, 2) := by decide +kernel
theorem dX3_gainOfTies_17 : decode cX3_gainOfTies 17 = .ok (.aload_n 1, 1) := by decide +kernel
theorem dX3_gainOfTies_18 : decode cX3_gainOfTies 18 = .ok (.getfield 47, 3) := by decide +kernel
theorem dX3_gainOfTies_21 : decode cX3_gainOfTies 21 = .ok (.if_icmp .ge 45, 3) := by decide +kernel
theorem dX3_gainOfTies_24 : decode cX3_gainOfTies 24 = .ok (.iload 4, 2) := by decide +kernel
theorem dX3_gainOfTies_26 : decode cX3_gainOfTies 26 = .ok (.iload_n 2, 1) := by decide +kernel
theorem dX3_gainOfTies_27 : decode cX3_gainOfTies 27 = .ok (.if_icmp .eq 33, 3) := by decide +kernel
theorem dX3_gainOfTies_30 : decode cX3_gainOfTies 30 = .ok (.aload_n 0, 1) := by decide +kernel
theorem dX3_gainOfTies_31 : decode cX3_gainOfTies 31 = .ok (.getfield 9, 3) := by decide +kernel
theorem dX3_gainOfTies_34 : decode cX3_gainOfTies 34 = .ok (.iload 4, 2) := by decide +kernel
theorem dX3_gainOfTies_36 : decode cX3_gainOfTies 36 = .ok (.iaload, 1) := by decide +kernel
theorem dX3_gainOfTies_37 : decode cX3_gainOfTies 37 = .ok (.aload_n 0, 1) := by decide +kernel
theorem dX3_gainOfTies_38 : decode cX3_gainOfTies 38 = .ok (.getfield 9, 3) := by decide +kernel
theorem dX3_gainOfTies_41 : decode cX3_gainOfTies 41 = .ok (.iload_n 2, 1) := by decide +kernel
theorem dX3_gainOfTies_42 : decode cX3_gainOfTies 42 = .ok (.iaload, 1) := by decide +kernel
theorem dX3_gainOfTies_43 : decode cX3_gainOfTies 43 = .ok (.if_icmp .ne 17, 3) := by decide +kernel
theorem dX3_gainOfTies_46 : decode cX3_gainOfTies 46 = .ok (.iload_n 3, 1) := by decide +kernel
theorem dX3_gainOfTies_47 : decode cX3_gainOfTies 47 = .ok (.aload_n 1, 1) := by decide +kernel
theorem dX3_gainOfTies_48 : decode cX3_gainOfTies 48 = .ok (.getfield 85, 3) := by decide +kernel
theorem dX3_gainOfTies_51 : decode cX3_gainOfTies 51 = .ok (.iload_n 2, 1) := by decide +kernel
theorem dX3_gainOfTies_52 : decode cX3_gainOfTies 52 = .ok (.iconst 5, 1) := by decide +kernel
theorem dX3_gainOfTies_53 : decode cX3_gainOfTies 53 = .ok (.imul, 1) := by decide +kernel
theorem dX3_gainOfTies_54 : decode cX3_gainOfTies 54 = .ok (.iload 4, 2) := by decide +kernel
theorem dX3_gainOfTies_56 : decode cX3_gainOfTies 56 = .ok (.iadd, 1) := by decide +kernel
theorem dX3_gainOfTies_57 : decode cX3_gainOfTies 57 = .ok (.iaload, 1) := by decide +kernel
theorem dX3_gainOfTies_58 : decode cX3_gainOfTies 58 = .ok (.iadd, 1) := by decide +kernel
theorem dX3_gainOfTies_59 : decode cX3_gainOfTies 59 = .ok (.istore_n 3, 1) := by decide +kernel
theorem dX3_gainOfTies_60 : decode cX3_gainOfTies 60 = .ok (.iinc 4 1, 3) := by decide +kernel
theorem dX3_gainOfTies_63 : decode cX3_gainOfTies 63 = .ok (.goto (-48), 3) := by decide +kernel
theorem dX3_gainOfTies_66 : decode cX3_gainOfTies 66 = .ok (.iload_n 3, 1) := by decide +kernel
theorem dX3_gainOfTies_67 : decode cX3_gainOfTies 67 = .ok (.ireturn, 1) := by decide +kernel
set_option maxRecDepth 20000 in
theorem dX3_useHouse_0 : decode cX3_useHouse 0 = .ok (.aload_n 0, 1) := by decide +kernel
theorem dX3_useHouse_1 : decode cX3_useHouse 1 = .ok (.aload_n 1, 1) := by decide +kernel
theorem dX3_useHouse_2 : decode cX3_useHouse 2 = .ok (.iload_n 2, 1) := by decide +kernel
theorem dX3_useHouse_3 : decode cX3_useHouse 3 = .ok (.invokevirtual 60, 3) := by decide +kernel
theorem dX3_useHouse_6 : decode cX3_useHouse 6 = .ok (.istore_n 3, 1) := by decide +kernel
theorem dX3_useHouse_7 : decode cX3_useHouse 7 = .ok (.iload_n 3, 1) := by decide +kernel
theorem dX3_useHouse_8 : decode cX3_useHouse 8 = .ok (.iconst (-1), 1) := by decide +kernel
theorem dX3_useHouse_9 : decode cX3_useHouse 9 = .ok (.if_icmp .ne 4, 3) := by decide +kernel
theorem dX3_useHouse_12 : decode cX3_useHouse 12 = .ok (.return_, 1) := by decide +kernel
theorem dX3_useHouse_13 : decode cX3_useHouse 13 = .ok (.aload_n 1, 1) := by decide +kernel
theorem dX3_useHouse_14 : decode cX3_useHouse 14 = .ok (.getfield 53, 3) := by decide +kernel
theorem dX3_useHouse_17 : decode cX3_useHouse 17 = .ok (.iconst 4, 1) := by decide +kernel
theorem dX3_useHouse_18 : decode cX3_useHouse 18 = .ok (.iaload, 1) := by decide +kernel
theorem dX3_useHouse_19 : decode cX3_useHouse 19 = .ok (.aload_n 0, 1) := by decide +kernel
theorem dX3_useHouse_20 : decode cX3_useHouse 20 = .ok (.getfield 24, 3) := by decide +kernel
theorem dX3_useHouse_23 : decode cX3_useHouse 23 = .ok (.iload_n 2, 1) := by decide +kernel
theorem dX3_useHouse_24 : decode cX3_useHouse 24 = .ok (.iaload, 1) := by decide +kernel
theorem dX3_useHouse_25 : decode cX3_useHouse 25 = .ok (.invokestatic 88, 3) := by decide +kernel
theorem dX3_useHouse_28 : decode cX3_useHouse 28 = .ok (.istore 4, 2) := by decide +kernel
theorem dX3_useHouse_30 : decode cX3_useHouse 30 = .ok (.aload_n 0, 1) := by decide +kernel
theorem dX3_useHouse_31 : decode cX3_useHouse 31 = .ok (.getfield 18, 3) := by decide +kernel
theorem dX3_useHouse_34 : decode cX3_useHouse 34 = .ok (.iload_n 3, 1) := by decide +kernel
theorem dX3_useHouse_35 : decode cX3_useHouse 35 = .ok (.dup2, 1) := by decide +kernel
theorem dX3_useHouse_36 : decode cX3_useHouse 36 = .ok (.iaload, 1) := by decide +kernel
theorem dX3_useHouse_37 : decode cX3_useHouse 37 = .ok (.aload_n 1, 1) := by decide +kernel
theorem dX3_useHouse_38 : decode cX3_useHouse 38 = .ok (.getfield 94, 3) := by decide +kernel
theorem dX3_useHouse_41 : decode cX3_useHouse 41 = .ok (.iload_n 2, 1) := by decide +kernel
theorem dX3_useHouse_42 : decode cX3_useHouse 42 = .ok (.iaload, 1) := by decide +kernel
theorem dX3_useHouse_43 : decode cX3_useHouse 43 = .ok (.aload_n 0, 1) := by decide +kernel
theorem dX3_useHouse_44 : decode cX3_useHouse 44 = .ok (.getfield 27, 3) := by decide +kernel
theorem dX3_useHouse_47 : decode cX3_useHouse 47 = .ok (.iload_n 2, 1) := by decide +kernel
theorem dX3_useHouse_48 : decode cX3_useHouse 48 = .ok (.iaload, 1) := by decide +kernel
theorem dX3_useHouse_49 : decode cX3_useHouse 49 = .ok (.imul, 1) := by decide +kernel
theorem dX3_useHouse_50 : decode cX3_useHouse 50 = .ok (.bipush 100, 2) := by decide +kernel
theorem dX3_useHouse_52 : decode cX3_useHouse 52 = .ok (.idiv, 1) := by decide +kernel
theorem dX3_useHouse_53 : decode cX3_useHouse 53 = .ok (.iload 4, 2) := by decide +kernel
theorem dX3_useHouse_55 : decode cX3_useHouse 55 = .ok (.iadd, 1) := by decide +kernel
theorem dX3_useHouse_56 : decode cX3_useHouse 56 = .ok (.iadd, 1) := by decide +kernel
theorem dX3_useHouse_57 : decode cX3_useHouse 57 = .ok (.iastore, 1) := by decide +kernel
theorem dX3_useHouse_58 : decode cX3_useHouse 58 = .ok (.aload_n 0, 1) := by decide +kernel
theorem dX3_useHouse_59 : decode cX3_useHouse 59 = .ok (.getfield 24, 3) := by decide +kernel
theorem dX3_useHouse_62 : decode cX3_useHouse 62 = .ok (.iload_n 2, 1) := by decide +kernel
theorem dX3_useHouse_63 : decode cX3_useHouse 63 = .ok (.dup2, 1) := by decide +kernel
theorem dX3_useHouse_64 : decode cX3_useHouse 64 = .ok (.iaload, 1) := by decide +kernel
theorem dX3_useHouse_65 : decode cX3_useHouse 65 = .ok (.iload 4, 2) := by decide +kernel
theorem dX3_useHouse_67 : decode cX3_useHouse 67 = .ok (.isub, 1) := by decide +kernel
theorem dX3_useHouse_68 : decode cX3_useHouse 68 = .ok (.iastore, 1) := by decide +kernel
theorem dX3_useHouse_69 : decode cX3_useHouse 69 = .ok (.iload_n 3, 1) := by decide +kernel
theorem dX3_useHouse_70 : decode cX3_useHouse 70 = .ok (.aload_n 1, 1) := by decide +kernel
theorem dX3_useHouse_71 : decode cX3_useHouse 71 = .ok (.getfield 50, 3) := by decide +kernel
theorem dX3_useHouse_74 : decode cX3_useHouse 74 = .ok (.iload_n 2, 1) := by decide +kernel
theorem dX3_useHouse_75 : decode cX3_useHouse 75 = .ok (.iaload, 1) := by decide +kernel
theorem dX3_useHouse_76 : decode cX3_useHouse 76 = .ok (.if_icmp .ne 30, 3) := by decide +kernel
theorem dX3_useHouse_79 : decode cX3_useHouse 79 = .ok (.aload_n 0, 1) := by decide +kernel
theorem dX3_useHouse_80 : decode cX3_useHouse 80 = .ok (.getfield 27, 3) := by decide +kernel
theorem dX3_useHouse_83 : decode cX3_useHouse 83 = .ok (.iload_n 2, 1) := by decide +kernel
theorem dX3_useHouse_84 : decode cX3_useHouse 84 = .ok (.bipush 100, 2) := by decide +kernel
theorem dX3_useHouse_86 : decode cX3_useHouse 86 = .ok (.aload_n 0, 1) := by decide +kernel
theorem dX3_useHouse_87 : decode cX3_useHouse 87 = .ok (.getfield 27, 3) := by decide +kernel
theorem dX3_useHouse_90 : decode cX3_useHouse 90 = .ok (.iload_n 2, 1) := by decide +kernel
theorem dX3_useHouse_91 : decode cX3_useHouse 91 = .ok (.iaload, 1) := by decide +kernel
theorem dX3_useHouse_92 : decode cX3_useHouse 92 = .ok (.aload_n 1, 1) := by decide +kernel
theorem dX3_useHouse_93 : decode cX3_useHouse 93 = .ok (.getfield 53, 3) := by decide +kernel
theorem dX3_useHouse_96 : decode cX3_useHouse 96 = .ok (.iconst 3, 1) := by decide +kernel
theorem dX3_useHouse_97 : decode cX3_useHouse 97 = .ok (.iaload, 1) := by decide +kernel
theorem dX3_useHouse_98 : decode cX3_useHouse 98 = .ok (.iadd, 1) := by decide +kernel
theorem dX3_useHouse_99 : decode cX3_useHouse 99 = .ok (.invokestatic 88, 3) := by decide +kernel
theorem dX3_useHouse_102 : decode cX3_useHouse 102 = .ok (.iastore, 1) := by decide +kernel
theorem dX3_useHouse_103 : decode cX3_useHouse 103 = .ok (.goto 26, 3) := by decide +kernel
theorem dX3_useHouse_106 : decode cX3_useHouse 106 = .ok (.aload_n 0, 1) := by decide +kernel
theorem dX3_useHouse_107 : decode cX3_useHouse 107 = .ok (.getfield 27, 3) := by decide +kernel
theorem dX3_useHouse_110 : decode cX3_useHouse 110 = .ok (.iload_n 2, 1) := by decide +kernel
theorem dX3_useHouse_111 : decode cX3_useHouse 111 = .ok (.iconst 0, 1) := by decide +kernel
theorem dX3_useHouse_112 : decode cX3_useHouse 112 = .ok (.aload_n 0, 1) := by decide +kernel
theorem dX3_useHouse_113 : decode cX3_useHouse 113 = .ok (.getfield 27, 3) := by decide +kernel
theorem dX3_useHouse_116 : decode cX3_useHouse 116 = .ok (.iload_n 2, 1) := by decide +kernel
theorem dX3_useHouse_117 : decode cX3_useHouse 117 = .ok (.iaload, 1) := by decide +kernel
theorem dX3_useHouse_118 : decode cX3_useHouse 118 = .ok (.aload_n 1, 1) := by decide +kernel
theorem dX3_useHouse_119 : decode cX3_useHouse 119 = .ok (.getfield 53, 3) := by decide +kernel
theorem dX3_useHouse_122 : decode cX3_useHouse 122 = .ok (.iconst 2, 1) := by decide +kernel
theorem dX3_useHouse_123 : decode cX3_useHouse 123 = .ok (.iaload, 1) := by decide +kernel
theorem dX3_useHouse_124 : decode cX3_useHouse 124 = .ok (.isub, 1) := by decide +kernel
theorem dX3_useHouse_125 : decode cX3_useHouse 125 = .ok (.invokestatic 97, 3) := by decide +kernel
theorem dX3_useHouse_128 : decode cX3_useHouse 128 = .ok (.iastore, 1) := by decide +kernel
theorem dX3_useHouse_129 : decode cX3_useHouse 129 = .ok (.return_, 1) := by decide +kernel
theorem dX4_init_0 : decode cX4_init 0 = .ok (.aload_n 0, 1) := by decide +kernel
theorem dX4_init_1 : decode cX4_init 1 = .ok (.invokespecial 3, 3) := by decide +kernel
theorem dX4_init_4 : decode cX4_init 4 = .ok (.aload_n 0, 1) := by decide +kernel
theorem dX4_init_5 : decode cX4_init 5 = .ok (.sipush 900, 3) := by decide +kernel
theorem dX4_init_8 : decode cX4_init 8 = .ok (.newarray .int, 2) := by decide +kernel
theorem dX4_init_10 : decode cX4_init 10 = .ok (.putfield 11, 3) := by decide +kernel
theorem dX4_init_13 : decode cX4_init 13 = .ok (.return_, 1) := by decide +kernel
theorem dX4_addFour_0 : decode cX4_addFour 0 = .ok (.bipush 24, 2) := by decide +kernel
theorem dX4_addFour_2 : decode cX4_addFour 2 = .ok (.istore_n 2, 1) := by decide +kernel
theorem dX4_addFour_3 : decode cX4_addFour 3 = .ok (.iload_n 2, 1) := by decide +kernel
theorem dX4_addFour_4 : decode cX4_addFour 4 = .ok (.ifCond .lt 52, 3) := by decide +kernel
theorem dX4_addFour_7 : decode cX4_addFour 7 = .ok (.aload_n 0, 1) := by decide +kernel
theorem dX4_addFour_8 : decode cX4_addFour 8 = .ok (.getfield 15, 3) := by decide +kernel
theorem dX4_addFour_11 : decode cX4_addFour 11 = .ok (.ifCond .lt 39, 3) := by decide +kernel
theorem dX4_addFour_14 : decode cX4_addFour 14 = .ok (.aload_n 0, 1) := by decide +kernel
theorem dX4_addFour_15 : decode cX4_addFour 15 = .ok (.getfield 15, 3) := by decide +kernel
theorem dX4_addFour_18 : decode cX4_addFour 18 = .ok (.sipush 900, 3) := by decide +kernel
theorem dX4_addFour_21 : decode cX4_addFour 21 = .ok (.if_icmp .ge 29, 3) := by decide +kernel
theorem dX4_addFour_24 : decode cX4_addFour 24 = .ok (.aload_n 0, 1) := by decide +kernel
theorem dX4_addFour_25 : decode cX4_addFour 25 = .ok (.getfield 11, 3) := by decide +kernel
theorem dX4_addFour_28 : decode cX4_addFour 28 = .ok (.aload_n 0, 1) := by decide +kernel
theorem dX4_addFour_29 : decode cX4_addFour 29 = .ok (.getfield 15, 3) := by decide +kernel
theorem dX4_addFour_32 : decode cX4_addFour 32 = .ok (.iload_n 1, 1) := by decide +kernel
theorem dX4_addFour_33 : decode cX4_addFour 33 = .ok (.iload_n 2, 1) := by decide +kernel
theorem dX4_addFour_34 : decode cX4_addFour 34 = .ok (.iushr, 1) := by decide +kernel
theorem dX4_addFour_35 : decode cX4_addFour 35 = .ok (.sipush 255, 3) := by decide +kernel
theorem dX4_addFour_38 : decode cX4_addFour 38 = .ok (.iand, 1) := by decide +kernel
theorem dX4_addFour_39 : decode cX4_addFour 39 = .ok (.iastore, 1) := by decide +kernel
theorem dX4_addFour_40 : decode cX4_addFour 40 = .ok (.aload_n 0, 1) := by decide +kernel
theorem dX4_addFour_41 : decode cX4_addFour 41 = .ok (.dup, 1) := by decide +kernel
theorem dX4_addFour_42 : decode cX4_addFour 42 = .ok (.getfield 15, 3) := by decide +kernel
theorem dX4_addFour_45 : decode cX4_addFour 45 = .ok (.iconst 1, 1) := by decide +kernel
theorem dX4_addFour_46 : decode cX4_addFour 46 = .ok (.iadd, 1) := by decide +kernel
theorem dX4_addFour_47 : decode cX4_addFour 47 = .ok (.putfield 15, 3) := by decide +kernel
theorem dX4_addFour_50 : decode cX4_addFour 50 = .ok (.iinc 2 (-8), 3) := by decide +kernel
theorem dX4_addFour_53 : decode cX4_addFour 53 = .ok (.goto (-50), 3) := by decide +kernel
theorem dX4_addFour_56 : decode cX4_addFour 56 = .ok (.return_, 1) := by decide +kernel
theorem dX4_byteAt_0 : decode cX4_byteAt 0 = .ok (.iload_n 1, 1) := by decide +kernel
theorem dX4_byteAt_1 : decode cX4_byteAt 1 = .ok (.ifCond .lt 27, 3) := by decide +kernel
theorem dX4_byteAt_4 : decode cX4_byteAt 4 = .ok (.iload_n 1, 1) := by decide +kernel
theorem dX4_byteAt_5 : decode cX4_byteAt 5 = .ok (.aload_n 0, 1) := by decide +kernel
theorem dX4_byteAt_6 : decode cX4_byteAt 6 = .ok (.getfield 15, 3) := by decide +kernel
theorem dX4_byteAt_9 : decode cX4_byteAt 9 = .ok (.if_icmp .ge 19, 3) := by decide +kernel
theorem dX4_byteAt_12 : decode cX4_byteAt 12 = .ok (.iload_n 1, 1) := by decide +kernel
theorem dX4_byteAt_13 : decode cX4_byteAt 13 = .ok (.sipush 900, 3) := by decide +kernel
theorem dX4_byteAt_16 : decode cX4_byteAt 16 = .ok (.if_icmp .ge 12, 3) := by decide +kernel
theorem dX4_byteAt_19 : decode cX4_byteAt 19 = .ok (.aload_n 0, 1) := by decide +kernel
theorem dX4_byteAt_20 : decode cX4_byteAt 20 = .ok (.getfield 11, 3) := by decide +kernel
theorem dX4_byteAt_23 : decode cX4_byteAt 23 = .ok (.iload_n 1, 1) := by decide +kernel
theorem dX4_byteAt_24 : decode cX4_byteAt 24 = .ok (.iaload, 1) := by decide +kernel
theorem dX4_byteAt_25 : decode cX4_byteAt 25 = .ok (.goto 4, 3) := by decide +kernel
theorem dX4_byteAt_28 : decode cX4_byteAt 28 = .ok (.iconst (-1), 1) := by decide +kernel
theorem dX4_byteAt_29 : decode cX4_byteAt 29 = .ok (.ireturn, 1) := by decide +kernel
set_option maxRecDepth 20000 in
theorem dX4_readFirst_0 : decode cX4_readFirst 0 = .ok (.aload_n 0, 1) := by decide +kernel
theorem dX4_readFirst_1 : decode cX4_readFirst 1 = .ok (.iconst 0, 1) := by decide +kernel
theorem dX4_readFirst_2 : decode cX4_readFirst 2 = .ok (.putfield 19, 3) := by decide +kernel
theorem dX4_readFirst_5 : decode cX4_readFirst 5 = .ok (.aload_n 0, 1) := by decide +kernel
theorem dX4_readFirst_6 : decode cX4_readFirst 6 = .ok (.invokevirtual 22, 3) := by decide +kernel
theorem dX4_readFirst_9 : decode cX4_readFirst 9 = .ok (.return_, 1) := by decide +kernel
set_option maxRecDepth 20000 in
theorem dX4_readToken_0 : decode cX4_readToken 0 = .ok (.aload_n 0, 1) := by decide +kernel
theorem dX4_readToken_1 : decode cX4_readToken 1 = .ok (.getfield 19, 3) := by decide +kernel
theorem dX4_readToken_4 : decode cX4_readToken 4 = .ok (.aload_n 0, 1) := by decide +kernel
theorem dX4_readToken_5 : decode cX4_readToken 5 = .ok (.getfield 15, 3) := by decide +kernel
theorem dX4_readToken_8 : decode cX4_readToken 8 = .ok (.if_icmp .ge 28, 3) := by decide +kernel
theorem dX4_readToken_11 : decode cX4_readToken 11 = .ok (.aload_n 0, 1) := by decide +kernel
theorem dX4_readToken_12 : decode cX4_readToken 12 = .ok (.aload_n 0, 1) := by decide +kernel
theorem dX4_readToken_13 : decode cX4_readToken 13 = .ok (.getfield 19, 3) := by decide +kernel
theorem dX4_readToken_16 : decode cX4_readToken 16 = .ok (.invokevirtual 25, 3) := by decide +kernel
theorem dX4_readToken_19 : decode cX4_readToken 19 = .ok (.iconst 4, 1) := by decide +kernel
theorem dX4_readToken_20 : decode cX4_readToken 20 = .ok (.if_icmp .ne 16, 3) := by decide +kernel
theorem dX4_readToken_23 : decode cX4_readToken 23 = .ok (.aload_n 0, 1) := by decide +kernel
theorem dX4_readToken_24 : decode cX4_readToken 24 = .ok (.dup, 1) := by decide +kernel
theorem dX4_readToken_25 : decode cX4_readToken 25 = .ok (.getfield 19, 3) := by decide +kernel
theorem dX4_readToken_28 : decode cX4_readToken 28 = .ok (.iconst 1, 1) := by decide +kernel
theorem dX4_readToken_29 : decode cX4_readToken 29 = .ok (.iadd, 1) := by decide +kernel
theorem dX4_readToken_30 : decode cX4_readToken 30 = .ok (.putfield 19, 3) := by decide +kernel
theorem dX4_readToken_33 : decode cX4_readToken 33 = .ok (.goto (-33), 3) := by decide +kernel
theorem dX4_readToken_36 : decode cX4_readToken 36 = .ok (.aload_n 0, 1) := by decide +kernel
theorem dX4_readToken_37 : decode cX4_readToken 37 = .ok (.aload_n 0, 1) := by decide +kernel
theorem dX4_readToken_38 : decode cX4_readToken 38 = .ok (.getfield 19, 3) := by decide +kernel
theorem dX4_readToken_41 : decode cX4_readToken 41 = .ok (.putfield 29, 3) := by decide +kernel
theorem dX4_readToken_44 : decode cX4_readToken 44 = .ok (.aload_n 0, 1) := by decide +kernel
theorem dX4_readToken_45 : decode cX4_readToken 45 = .ok (.aload_n 0, 1) := by decide +kernel
theorem dX4_readToken_46 : decode cX4_readToken 46 = .ok (.aload_n 0, 1) := by decide +kernel
theorem dX4_readToken_47 : decode cX4_readToken 47 = .ok (.getfield 29, 3) := by decide +kernel
theorem dX4_readToken_50 : decode cX4_readToken 50 = .ok (.invokevirtual 25, 3) := by decide +kernel
theorem dX4_readToken_53 : decode cX4_readToken 53 = .ok (.putfield 32, 3) := by decide +kernel
theorem dX4_readToken_56 : decode cX4_readToken 56 = .ok (.aload_n 0, 1) := by decide +kernel
theorem dX4_readToken_57 : decode cX4_readToken 57 = .ok (.lconst 0, 1) := by decide +kernel
theorem dX4_readToken_58 : decode cX4_readToken 58 = .ok (.putfield 35, 3) := by decide +kernel
theorem dX4_readToken_61 : decode cX4_readToken 61 = .ok (.aload_n 0, 1) := by decide +kernel
theorem dX4_readToken_62 : decode cX4_readToken 62 = .ok (.iconst 0, 1) := by decide +kernel
theorem dX4_readToken_63 : decode cX4_readToken 63 = .ok (.putfield 39, 3) := by decide +kernel
theorem dX4_readToken_66 : decode cX4_readToken 66 = .ok (.aload_n 0, 1) := by decide +kernel
theorem dX4_readToken_67 : decode cX4_readToken 67 = .ok (.getfield 32, 3) := by decide +kernel
theorem dX4_readToken_70 : decode cX4_readToken 70 = .ok (.iconst 1, 1) := by decide +kernel
theorem dX4_readToken_71 : decode cX4_readToken 71 = .ok (.if_icmp .eq 11, 3) := by decide +kernel
theorem dX4_readToken_74 : decode cX4_readToken 74 = .ok (.aload_n 0, 1) := by decide +kernel
theorem dX4_readToken_75 : decode cX4_readToken 75 = .ok (.getfield 32, 3) := by decide +kernel
theorem dX4_readToken_78 : decode cX4_readToken 78 = .ok (.iconst 2, 1) := by decide +kernel
theorem dX4_readToken_79 : decode cX4_readToken 79 = .ok (.if_icmp .ne 10, 3) := by decide +kernel
theorem dX4_readToken_82 : decode cX4_readToken 82 = .ok (.aload_n 0, 1) := by decide +kernel
theorem dX4_readToken_83 : decode cX4_readToken 83 = .ok (.invokevirtual 42, 3) := by decide +kernel
theorem dX4_readToken_86 : decode cX4_readToken 86 = .ok (.goto 20, 3) := by decide +kernel
theorem dX4_readToken_89 : decode cX4_readToken 89 = .ok (.aload_n 0, 1) := by decide +kernel
theorem dX4_readToken_90 : decode cX4_readToken 90 = .ok (.getfield 32, 3) := by decide +kernel
theorem dX4_readToken_93 : decode cX4_readToken 93 = .ok (.ifCond .eq 13, 3) := by decide +kernel
theorem dX4_readToken_96 : decode cX4_readToken 96 = .ok (.aload_n 0, 1) := by decide +kernel
theorem dX4_readToken_97 : decode cX4_readToken 97 = .ok (.dup, 1) := by decide +kernel
theorem dX4_readToken_98 : decode cX4_readToken 98 = .ok (.getfield 19, 3) := by decide +kernel
theorem dX4_readToken_101 : decode cX4_readToken 101 = .ok (.iconst 1, 1) := by decide +kernel
theorem dX4_readToken_102 : decode cX4_readToken 102 = .ok (.iadd, 1) := by decide +kernel
theorem dX4_readToken_103 : decode cX4_readToken 103 = .ok (.putfield 19, 3) := by decide +kernel
theorem dX4_readToken_106 : decode cX4_readToken 106 = .ok (.return_, 1) := by decide +kernel
set_option maxRecDepth 20000 in
theorem dX4_readRun_0 : decode cX4_readRun 0 = .ok (.aload_n 0, 1) := by decide +kernel
theorem dX4_readRun_1 : decode cX4_readRun 1 = .ok (.getfield 19, 3) := by decide +kernel
theorem dX4_readRun_4 : decode cX4_readRun 4 = .ok (.aload_n 0, 1) := by decide +kernel
theorem dX4_readRun_5 : decode cX4_readRun 5 = .ok (.getfield 15, 3) := by decide +kernel
theorem dX4_readRun_8 : decode cX4_readRun 8 = .ok (.if_icmp .ge 87, 3) := by decide +kernel
theorem dX4_readRun_11 : decode cX4_readRun 11 = .ok (.aload_n 0, 1) := by decide +kernel
theorem dX4_readRun_12 : decode cX4_readRun 12 = .ok (.aload_n 0, 1) := by decide +kernel
theorem dX4_readRun_13 : decode cX4_readRun 13 = .ok (.getfield 19, 3) := by decide +kernel
theorem dX4_readRun_16 : decode cX4_readRun 16 = .ok (.invokevirtual 25, 3) := by decide +kernel
theorem dX4_readRun_19 : decode cX4_readRun 19 = .ok (.aload_n 0, 1) := by decide +kernel
theorem dX4_readRun_20 : decode cX4_readRun 20 = .ok (.getfield 32, 3) := by decide +kernel
theorem dX4_readRun_23 : decode cX4_readRun 23 = .ok (.if_icmp .ne 72, 3) := by decide +kernel
theorem dX4_readRun_26 : decode cX4_readRun 26 = .ok (.aload_n 0, 1) := by decide +kernel
theorem dX4_readRun_27 : decode cX4_readRun 27 = .ok (.aload_n 0, 1) := by decide +kernel
theorem dX4_readRun_28 : decode cX4_readRun 28 = .ok (.getfield 19, 3) := by decide +kernel
theorem dX4_readRun_31 : decode cX4_readRun 31 = .ok (.invokevirtual 45, 3) := by decide +kernel
theorem dX4_readRun_34 : decode cX4_readRun 34 = .ok (.istore_n 1, 1) := by decide +kernel
theorem dX4_readRun_35 : decode cX4_readRun 35 = .ok (.aload_n 0, 1) := by decide +kernel
theorem dX4_readRun_36 : decode cX4_readRun 36 = .ok (.getfield 32, 3) := by decide +kernel
theorem dX4_readRun_39 : decode cX4_readRun 39 = .ok (.iconst 1, 1) := by decide +kernel
theorem dX4_readRun_40 : decode cX4_readRun 40 = .ok (.if_icmp .ne 26, 3) := by decide +kernel
theorem dX4_readRun_43 : decode cX4_readRun 43 = .ok (.aload_n 0, 1) := by decide +kernel
theorem dX4_readRun_44 : decode cX4_readRun 44 = .ok (.aload_n 0, 1) := by decide +kernel
theorem dX4_readRun_45 : decode cX4_readRun 45 = .ok (.getfield 35, 3) := by decide +kernel
theorem dX4_readRun_48 : decode cX4_readRun 48 = .ok (.ldc2_w 48, 3) := by decide +kernel
theorem dX4_readRun_51 : decode cX4_readRun 51 = .ok (.lmul, 1) := by decide +kernel
theorem dX4_readRun_52 : decode cX4_readRun 52 = .ok (.iload_n 1, 1) := by decide +kernel
theorem dX4_readRun_53 : decode cX4_readRun 53 = .ok (.bipush 97, 2) := by decide +kernel
theorem dX4_readRun_55 : decode cX4_readRun 55 = .ok (.isub, 1) := by decide +kernel
theorem dX4_readRun_56 : decode cX4_readRun 56 = .ok (.iconst 1, 1) := by decide +kernel
theorem dX4_readRun_57 : decode cX4_readRun 57 = .ok (.iadd, 1) := by decide +kernel
theorem dX4_readRun_58 : decode cX4_readRun 58 = .ok (.i2l, 1) := by decide +kernel
theorem dX4_readRun_59 : decode cX4_readRun 59 = .ok (.ladd, 1) := by decide +kernel
theorem dX4_readRun_60 : decode cX4_readRun 60 = .ok (.putfield 35, 3) := by decide +kernel
theorem dX4_readRun_63 : decode cX4_readRun 63 = .ok (.goto 19, 3) := by decide +kernel
theorem dX4_readRun_66 : decode cX4_readRun 66 = .ok (.aload_n 0, 1) := by decide +kernel
theorem dX4_readRun_67 : decode cX4_readRun 67 = .ok (.aload_n 0, 1) := by decide +kernel
theorem dX4_readRun_68 : decode cX4_readRun 68 = .ok (.getfield 39, 3) := by decide +kernel
theorem dX4_readRun_71 : decode cX4_readRun 71 = .ok (.bipush 10, 2) := by decide +kernel
theorem dX4_readRun_73 : decode cX4_readRun 73 = .ok (.imul, 1) := by decide +kernel
theorem dX4_readRun_74 : decode cX4_readRun 74 = .ok (.iload_n 1, 1) := by decide +kernel
theorem dX4_readRun_75 : decode cX4_readRun 75 = .ok (.bipush 48, 2) := by decide +kernel
theorem dX4_readRun_77 : decode cX4_readRun 77 = .ok (.isub, 1) := by decide +kernel
theorem dX4_readRun_78 : decode cX4_readRun 78 = .ok (.iadd, 1) := by decide +kernel
theorem dX4_readRun_79 : decode cX4_readRun 79 = .ok (.putfield 39, 3) := by decide +kernel
theorem dX4_readRun_82 : decode cX4_readRun 82 = .ok (.aload_n 0, 1) := by decide +kernel
theorem dX4_readRun_83 : decode cX4_readRun 83 = .ok (.dup, 1) := by decide +kernel
theorem dX4_readRun_84 : decode cX4_readRun 84 = .ok (.getfield 19, 3) := by decide +kernel
theorem dX4_readRun_87 : decode cX4_readRun 87 = .ok (.iconst 1, 1) := by decide +kernel
theorem dX4_readRun_88 : decode cX4_readRun 88 = .ok (.iadd, 1) := by decide +kernel
theorem dX4_readRun_89 : decode cX4_readRun 89 = .ok (.putfield 19, 3) := by decide +kernel
theorem dX4_readRun_92 : decode cX4_readRun 92 = .ok (.goto (-92), 3) := by decide +kernel
theorem dX4_readRun_95 : decode cX4_readRun 95 = .ok (.aload_n 0, 1) := by decide +kernel
theorem dX4_readRun_96 : decode cX4_readRun 96 = .ok (.getfield 19, 3) := by decide +kernel
theorem dX4_readRun_99 : decode cX4_readRun 99 = .ok (.aload_n 0, 1) := by decide +kernel
theorem dX4_readRun_100 : decode cX4_readRun 100 = .ok (.getfield 29, 3) := by decide +kernel
theorem dX4_readRun_103 : decode cX4_readRun 103 = .ok (.isub, 1) := by decide +kernel
theorem dX4_readRun_104 : decode cX4_readRun 104 = .ok (.aload_n 0, 1) := by decide +kernel
theorem dX4_readRun_105 : decode cX4_readRun 105 = .ok (.getfield 32, 3) := by decide +kernel
theorem dX4_readRun_108 : decode cX4_readRun 108 = .ok (.iconst 1, 1) := by decide +kernel
theorem dX4_readRun_109 : decode cX4_readRun 109 = .ok (.if_icmp .ne 8, 3) := by decide +kernel
theorem dX4_readRun_112 : decode cX4_readRun 112 = .ok (.bipush 8, 2) := by decide +kernel
theorem dX4_readRun_114 : decode cX4_readRun 114 = .ok (.goto 4, 3) := by decide +kernel
theorem dX4_readRun_117 : decode cX4_readRun 117 = .ok (.iconst 3, 1) := by decide +kernel
theorem dX4_readRun_118 : decode cX4_readRun 118 = .ok (.if_icmp .le 8, 3) := by decide +kernel
theorem dX4_readRun_121 : decode cX4_readRun 121 = .ok (.aload_n 0, 1) := by decide +kernel
theorem dX4_readRun_122 : decode cX4_readRun 122 = .ok (.iconst 5, 1) := by decide +kernel
theorem dX4_readRun_123 : decode cX4_readRun 123 = .ok (.putfield 32, 3) := by decide +kernel
theorem dX4_readRun_126 : decode cX4_readRun 126 = .ok (.return_, 1) := by decide +kernel
theorem dX4_kindAt_0 : decode cX4_kindAt 0 = .ok (.iload_n 1, 1) := by decide +kernel
theorem dX4_kindAt_1 : decode cX4_kindAt 1 = .ok (.ifCond .lt 18, 3) := by decide +kernel
theorem dX4_kindAt_4 : decode cX4_kindAt 4 = .ok (.iload_n 1, 1) := by decide +kernel
theorem dX4_kindAt_5 : decode cX4_kindAt 5 = .ok (.aload_n 0, 1) := by decide +kernel
theorem dX4_kindAt_6 : decode cX4_kindAt 6 = .ok (.getfield 15, 3) := by decide +kernel
theorem dX4_kindAt_9 : decode cX4_kindAt 9 = .ok (.if_icmp .ge 10, 3) := by decide +kernel
theorem dX4_kindAt_12 : decode cX4_kindAt 12 = .ok (.iload_n 1, 1) := by decide +kernel
theorem dX4_kindAt_13 : decode cX4_kindAt 13 = .ok (.sipush 900, 3) := by decide +kernel
theorem dX4_kindAt_16 : decode cX4_kindAt 16 = .ok (.if_icmp .lt 5, 3) := by decide +kernel
theorem dX4_kindAt_19 : decode cX4_kindAt 19 = .ok (.iconst 0, 1) := by decide +kernel
theorem dX4_kindAt_20 : decode cX4_kindAt 20 = .ok (.ireturn, 1) := by decide +kernel
theorem dX4_kindAt_21 : decode cX4_kindAt 21 = .ok (.aload_n 0, 1) := by decide +kernel
theorem dX4_kindAt_22 : decode cX4_kindAt 22 = .ok (.getfield 11, 3) := by decide +kernel
theorem dX4_kindAt_25 : decode cX4_kindAt 25 = .ok (.iload_n 1, 1) := by decide +kernel
theorem dX4_kindAt_26 : decode cX4_kindAt 26 = .ok (.iaload, 1) := by decide +kernel
theorem dX4_kindAt_27 : decode cX4_kindAt 27 = .ok (.istore_n 2, 1) := by decide +kernel
theorem dX4_kindAt_28 : decode cX4_kindAt 28 = .ok (.iload_n 2, 1) := by decide +kernel
theorem dX4_kindAt_29 : decode cX4_kindAt 29 = .ok (.bipush 97, 2) := by decide +kernel
theorem dX4_kindAt_31 : decode cX4_kindAt 31 = .ok (.if_icmp .lt 11, 3) := by decide +kernel
theorem dX4_kindAt_34 : decode cX4_kindAt 34 = .ok (.iload_n 2, 1) := by decide +kernel
theorem dX4_kindAt_35 : decode cX4_kindAt 35 = .ok (.bipush 122, 2) := by decide +kernel
theorem dX4_kindAt_37 : decode cX4_kindAt 37 = .ok (.if_icmp .gt 5, 3) := by decide +kernel
theorem dX4_kindAt_40 : decode cX4_kindAt 40 = .ok (.iconst 1, 1) := by decide +kernel
theorem dX4_kindAt_41 : decode cX4_kindAt 41 = .ok (.ireturn, 1) := by decide +kernel
theorem dX4_kindAt_42 : decode cX4_kindAt 42 = .ok (.iload_n 2, 1) := by decide +kernel
theorem dX4_kindAt_43 : decode cX4_kindAt 43 = .ok (.bipush 48, 2) := by decide +kernel
theorem dX4_kindAt_45 : decode cX4_kindAt 45 = .ok (.if_icmp .lt 11, 3) := by decide +kernel
theorem dX4_kindAt_48 : decode cX4_kindAt 48 = .ok (.iload_n 2, 1) := by decide +kernel
theorem dX4_kindAt_49 : decode cX4_kindAt 49 = .ok (.bipush 57, 2) := by decide +kernel
theorem dX4_kindAt_51 : decode cX4_kindAt 51 = .ok (.if_icmp .gt 5, 3) := by decide +kernel
theorem dX4_kindAt_54 : decode cX4_kindAt 54 = .ok (.iconst 2, 1) := by decide +kernel
theorem dX4_kindAt_55 : decode cX4_kindAt 55 = .ok (.ireturn, 1) := by decide +kernel
theorem dX4_kindAt_56 : decode cX4_kindAt 56 = .ok (.iload_n 2, 1) := by decide +kernel
theorem dX4_kindAt_57 : decode cX4_kindAt 57 = .ok (.bipush 32, 2) := by decide +kernel
theorem dX4_kindAt_59 : decode cX4_kindAt 59 = .ok (.if_icmp .eq 9, 3) := by decide +kernel
theorem dX4_kindAt_62 : decode cX4_kindAt 62 = .ok (.iload_n 2, 1) := by decide +kernel
theorem dX4_kindAt_63 : decode cX4_kindAt 63 = .ok (.bipush 10, 2) := by decide +kernel
theorem dX4_kindAt_65 : decode cX4_kindAt 65 = .ok (.if_icmp .ne 5, 3) := by decide +kernel
theorem dX4_kindAt_68 : decode cX4_kindAt 68 = .ok (.iconst 4, 1) := by decide +kernel
theorem dX4_kindAt_69 : decode cX4_kindAt 69 = .ok (.ireturn, 1) := by decide +kernel
theorem dX4_kindAt_70 : decode cX4_kindAt 70 = .ok (.iload_n 2, 1) := by decide +kernel
theorem dX4_kindAt_71 : decode cX4_kindAt 71 = .ok (.bipush 59, 2) := by decide +kernel
theorem dX4_kindAt_73 : decode cX4_kindAt 73 = .ok (.if_icmp .ne 7, 3) := by decide +kernel
theorem dX4_kindAt_76 : decode cX4_kindAt 76 = .ok (.iconst 3, 1) := by decide +kernel
theorem dX4_kindAt_77 : decode cX4_kindAt 77 = .ok (.goto 4, 3) := by decide +kernel
theorem dX4_kindAt_80 : decode cX4_kindAt 80 = .ok (.iconst 5, 1) := by decide +kernel
theorem dX4_kindAt_81 : decode cX4_kindAt 81 = .ok (.ireturn, 1) := by decide +kernel
set_option maxRecDepth 20000 in
theorem dX4_reads_0 : decode cX4_reads 0 = .ok (.aload_n 0, 1) := by decide +kernel
theorem dX4_reads_1 : decode cX4_reads 1 = .ok (.getfield 32, 3) := by decide +kernel
theorem dX4_reads_4 : decode cX4_reads 4 = .ok (.iconst 1, 1) := by decide +kernel
theorem dX4_reads_5 : decode cX4_reads 5 = .ok (.if_icmp .ne 19, 3) := by decide +kernel
theorem dX4_reads_8 : decode cX4_reads 8 = .ok (.aload_n 0, 1) := by decide +kernel
theorem dX4_reads_9 : decode cX4_reads 9 = .ok (.getfield 19, 3) := by decide +kernel
theorem dX4_reads_12 : decode cX4_reads 12 = .ok (.aload_n 0, 1) := by decide +kernel
theorem dX4_reads_13 : decode cX4_reads 13 = .ok (.getfield 29, 3) := by decide +kernel
theorem dX4_reads_16 : decode cX4_reads 16 = .ok (.isub, 1) := by decide +kernel
theorem dX4_reads_17 : decode cX4_reads 17 = .ok (.aload_n 1, 1) := by decide +kernel
theorem dX4_reads_18 : decode cX4_reads 18 = .ok (.invokevirtual 50, 3) := by decide +kernel
theorem dX4_reads_21 : decode cX4_reads 21 = .ok (.if_icmp .eq 5, 3) := by decide +kernel
theorem dX4_reads_24 : decode cX4_reads 24 = .ok (.iconst 0, 1) := by decide +kernel
theorem dX4_reads_25 : decode cX4_reads 25 = .ok (.ireturn, 1) := by decide +kernel
theorem dX4_reads_26 : decode cX4_reads 26 = .ok (.iconst 0, 1) := by decide +kernel
theorem dX4_reads_27 : decode cX4_reads 27 = .ok (.istore_n 2, 1) := by decide +kernel
theorem dX4_reads_28 : decode cX4_reads 28 = .ok (.iload_n 2, 1) := by decide +kernel
theorem dX4_reads_29 : decode cX4_reads 29 = .ok (.aload_n 1, 1) := by decide +kernel
theorem dX4_reads_30 : decode cX4_reads 30 = .ok (.invokevirtual 50, 3) := by decide +kernel
theorem dX4_reads_33 : decode cX4_reads 33 = .ok (.if_icmp .ge 29, 3) := by decide +kernel
theorem dX4_reads_36 : decode cX4_reads 36 = .ok (.aload_n 0, 1) := by decide +kernel
theorem dX4_reads_37 : decode cX4_reads 37 = .ok (.aload_n 0, 1) := by decide +kernel
theorem dX4_reads_38 : decode cX4_reads 38 = .ok (.getfield 29, 3) := by decide +kernel
theorem dX4_reads_41 : decode cX4_reads 41 = .ok (.iload_n 2, 1) := by decide +kernel
theorem dX4_reads_42 : decode cX4_reads 42 = .ok (.iadd, 1) := by decide +kernel
theorem dX4_reads_43 : decode cX4_reads 43 = .ok (.invokevirtual 45, 3) := by decide +kernel
theorem dX4_reads_46 : decode cX4_reads 46 = .ok (.aload_n 1, 1) := by decide +kernel
theorem dX4_reads_47 : decode cX4_reads 47 = .ok (.iload_n 2, 1) := by decide +kernel
theorem dX4_reads_48 : decode cX4_reads 48 = .ok (.invokevirtual 55, 3) := by decide +kernel
theorem dX4_reads_51 : decode cX4_reads 51 = .ok (.if_icmp .eq 5, 3) := by decide +kernel
theorem dX4_reads_54 : decode cX4_reads 54 = .ok (.iconst 0, 1) := by decide +kernel
theorem dX4_reads_55 : decode cX4_reads 55 = .ok (.ireturn, 1) := by decide +kernel
theorem dX4_reads_56 : decode cX4_reads 56 = .ok (.iinc 2 1, 3) := by decide +kernel
theorem dX4_reads_59 : decode cX4_reads 59 = .ok (.goto (-31), 3) := by decide +kernel
theorem dX4_reads_62 : decode cX4_reads 62 = .ok (.iconst 1, 1) := by decide +kernel
theorem dX4_reads_63 : decode cX4_reads 63 = .ok (.ireturn, 1) := by decide +kernel
set_option maxRecDepth 20000 in
theorem dX5_init_0 : decode cX5_init 0 = .ok (.aload_n 0, 1) := by decide +kernel
theorem dX5_init_1 : decode cX5_init 1 = .ok (.invokespecial 3, 3) := by decide +kernel
theorem dX5_init_4 : decode cX5_init 4 = .ok (.aload_n 0, 1) := by decide +kernel
theorem dX5_init_5 : decode cX5_init 5 = .ok (.new 9, 3) := by decide +kernel
theorem dX5_init_8 : decode cX5_init 8 = .ok (.dup, 1) := by decide +kernel
theorem dX5_init_9 : decode cX5_init 9 = .ok (.invokespecial 11, 3) := by decide +kernel
theorem dX5_init_12 : decode cX5_init 12 = .ok (.putfield 12, 3) := by decide +kernel
theorem dX5_init_15 : decode cX5_init 15 = .ok (.aload_n 0, 1) := by decide +kernel
theorem dX5_init_16 : decode cX5_init 16 = .ok (.iconst (-1), 1) := by decide +kernel
theorem dX5_init_17 : decode cX5_init 17 = .ok (.putfield 18, 3) := by decide +kernel
theorem dX5_init_20 : decode cX5_init 20 = .ok (.aload_n 0, 1) := by decide +kernel
theorem dX5_init_21 : decode cX5_init 21 = .ok (.aload_n 1, 1) := by decide +kernel
theorem dX5_init_22 : decode cX5_init 22 = .ok (.putfield 22, 3) := by decide +kernel
theorem dX5_init_25 : decode cX5_init 25 = .ok (.return_, 1) := by decide +kernel
set_option maxRecDepth 20000 in
theorem dX5_tellAll_0 : decode cX5_tellAll 0 = .ok (.aload_n 0, 1) := by decide +kernel
theorem dX5_tellAll_1 : decode cX5_tellAll 1 = .ok (.iconst 0, 1) := by decide +kernel
theorem dX5_tellAll_2 : decode cX5_tellAll 2 = .ok (.putfield 26, 3) := by decide +kernel
theorem dX5_tellAll_5 : decode cX5_tellAll 5 = .ok (.aload_n 0, 1) := by decide +kernel
theorem dX5_tellAll_6 : decode cX5_tellAll 6 = .ok (.iconst (-1), 1) := by decide +kernel
theorem dX5_tellAll_7 : decode cX5_tellAll 7 = .ok (.putfield 18, 3) := by decide +kernel
theorem dX5_tellAll_10 : decode cX5_tellAll 10 = .ok (.aload_n 0, 1) := by decide +kernel
theorem dX5_tellAll_11 : decode cX5_tellAll 11 = .ok (.getfield 12, 3) := by decide +kernel
theorem dX5_tellAll_14 : decode cX5_tellAll 14 = .ok (.invokevirtual 29, 3) := by decide +kernel
theorem dX5_tellAll_17 : decode cX5_tellAll 17 = .ok (.aload_n 0, 1) := by decide +kernel
theorem dX5_tellAll_18 : decode cX5_tellAll 18 = .ok (.getfield 22, 3) := by decide +kernel
theorem dX5_tellAll_21 : decode cX5_tellAll 21 = .ok (.invokevirtual 32, 3) := by decide +kernel
theorem dX5_tellAll_24 : decode cX5_tellAll 24 = .ok (.iconst 0, 1) := by decide +kernel
theorem dX5_tellAll_25 : decode cX5_tellAll 25 = .ok (.istore_n 1, 1) := by decide +kernel
theorem dX5_tellAll_26 : decode cX5_tellAll 26 = .ok (.iload_n 1, 1) := by decide +kernel
theorem dX5_tellAll_27 : decode cX5_tellAll 27 = .ok (.sipush 900, 3) := by decide +kernel
theorem dX5_tellAll_30 : decode cX5_tellAll 30 = .ok (.if_icmp .ge 30, 3) := by decide +kernel
theorem dX5_tellAll_33 : decode cX5_tellAll 33 = .ok (.aload_n 0, 1) := by decide +kernel
theorem dX5_tellAll_34 : decode cX5_tellAll 34 = .ok (.getfield 26, 3) := by decide +kernel
theorem dX5_tellAll_37 : decode cX5_tellAll 37 = .ok (.ifCond .ne 23, 3) := by decide +kernel
theorem dX5_tellAll_40 : decode cX5_tellAll 40 = .ok (.aload_n 0, 1) := by decide +kernel
theorem dX5_tellAll_41 : decode cX5_tellAll 41 = .ok (.getfield 22, 3) := by decide +kernel
theorem dX5_tellAll_44 : decode cX5_tellAll 44 = .ok (.getfield 37, 3) := by decide +kernel
theorem dX5_tellAll_47 : decode cX5_tellAll 47 = .ok (.ifCond .eq 13, 3) := by decide +kernel
theorem dX5_tellAll_50 : decode cX5_tellAll 50 = .ok (.aload_n 0, 1) := by decide +kernel
theorem dX5_tellAll_51 : decode cX5_tellAll 51 = .ok (.invokevirtual 38, 3) := by decide +kernel
theorem dX5_tellAll_54 : decode cX5_tellAll 54 = .ok (.iinc 1 1, 3) := by decide +kernel
theorem dX5_tellAll_57 : decode cX5_tellAll 57 = .ok (.goto (-31), 3) := by decide +kernel
theorem dX5_tellAll_60 : decode cX5_tellAll 60 = .ok (.aload_n 0, 1) := by decide +kernel
theorem dX5_tellAll_61 : decode cX5_tellAll 61 = .ok (.getfield 26, 3) := by decide +kernel
theorem dX5_tellAll_64 : decode cX5_tellAll 64 = .ok (.ifCond .ne 7, 3) := by decide +kernel
theorem dX5_tellAll_67 : decode cX5_tellAll 67 = .ok (.iconst 1, 1) := by decide +kernel
theorem dX5_tellAll_68 : decode cX5_tellAll 68 = .ok (.goto 4, 3) := by decide +kernel
theorem dX5_tellAll_71 : decode cX5_tellAll 71 = .ok (.iconst 0, 1) := by decide +kernel
theorem dX5_tellAll_72 : decode cX5_tellAll 72 = .ok (.ireturn, 1) := by decide +kernel
set_option maxRecDepth 20000 in
theorem dX5_tellClause_0 : decode cX5_tellClause 0 = .ok (.aload_n 0, 1) := by decide +kernel
theorem dX5_tellClause_1 : decode cX5_tellClause 1 = .ok (.getfield 22, 3) := by decide +kernel
theorem dX5_tellClause_4 : decode cX5_tellClause 4 = .ok (.ldc 41, 2) := by decide +kernel
theorem dX5_tellClause_6 : decode cX5_tellClause 6 = .ok (.invokevirtual 43, 3) := by decide +kernel
theorem dX5_tellClause_9 : decode cX5_tellClause 9 = .ok (.ifCond .eq 10, 3) := by decide +kernel
theorem dX5_tellClause_12 : decode cX5_tellClause 12 = .ok (.aload_n 0, 1) := by decide +kernel
theorem dX5_tellClause_13 : decode cX5_tellClause 13 = .ok (.invokevirtual 47, 3) := by decide +kernel
theorem dX5_tellClause_16 : decode cX5_tellClause 16 = .ok (.goto 83, 3) := by decide +kernel
theorem dX5_tellClause_19 : decode cX5_tellClause 19 = .ok (.aload_n 0, 1) := by decide +kernel
theorem dX5_tellClause_20 : decode cX5_tellClause 20 = .ok (.getfield 22, 3) := by decide +kernel
theorem dX5_tellClause_23 : decode cX5_tellClause 23 = .ok (.ldc 50, 2) := by decide +kernel
theorem dX5_tellClause_25 : decode cX5_tellClause 25 = .ok (.invokevirtual 43, 3) := by decide +kernel
theorem dX5_tellClause_28 : decode cX5_tellClause 28 = .ok (.ifCond .eq 10, 3) := by decide +kernel
theorem dX5_tellClause_31 : decode cX5_tellClause 31 = .ok (.aload_n 0, 1) := by decide +kernel
theorem dX5_tellClause_32 : decode cX5_tellClause 32 = .ok (.invokevirtual 52, 3) := by decide +kernel
theorem dX5_tellClause_35 : decode cX5_tellClause 35 = .ok (.goto 64, 3) := by decide +kernel
theorem dX5_tellClause_38 : decode cX5_tellClause 38 = .ok (.aload_n 0, 1) := by decide +kernel
theorem dX5_tellClause_39 : decode cX5_tellClause 39 = .ok (.getfield 22, 3) := by decide +kernel
theorem dX5_tellClause_42 : decode cX5_tellClause 42 = .ok (.ldc 55, 2) := by decide +kernel
theorem dX5_tellClause_44 : decode cX5_tellClause 44 = .ok (.invokevirtual 43, 3) := by decide +kernel
theorem dX5_tellClause_47 : decode cX5_tellClause 47 = .ok (.ifCond .eq 10, 3) := by decide +kernel
theorem dX5_tellClause_50 : decode cX5_tellClause 50 = .ok (.aload_n 0, 1) := by decide +kernel
theorem dX5_tellClause_51 : decode cX5_tellClause 51 = .ok (.invokevirtual 57, 3) := by decide +kernel
theorem dX5_tellClause_54 : decode cX5_tellClause 54 = .ok (.goto 45, 3) := by decide +kernel
theorem dX5_tellClause_57 : decode cX5_tellClause 57 = .ok (.aload_n 0, 1) := by decide +kernel
theorem dX5_tellClause_58 : decode cX5_tellClause 58 = .ok (.getfield 22, 3) := by decide +kernel
theorem dX5_tellClause_61 : decode cX5_tellClause 61 = .ok (.ldc 60, 2) := by decide +kernel
theorem dX5_tellClause_63 : decode cX5_tellClause 63 = .ok (.invokevirtual 43, 3) := by decide +kernel
theorem dX5_tellClause_66 : decode cX5_tellClause 66 = .ok (.ifCond .eq 10, 3) := by decide +kernel
theorem dX5_tellClause_69 : decode cX5_tellClause 69 = .ok (.aload_n 0, 1) := by decide +kernel
theorem dX5_tellClause_70 : decode cX5_tellClause 70 = .ok (.invokevirtual 62, 3) := by decide +kernel
theorem dX5_tellClause_73 : decode cX5_tellClause 73 = .ok (.goto 26, 3) := by decide +kernel
theorem dX5_tellClause_76 : decode cX5_tellClause 76 = .ok (.aload_n 0, 1) := by decide +kernel
theorem dX5_tellClause_77 : decode cX5_tellClause 77 = .ok (.getfield 22, 3) := by decide +kernel
theorem dX5_tellClause_80 : decode cX5_tellClause 80 = .ok (.ldc 65, 2) := by decide +kernel
theorem dX5_tellClause_82 : decode cX5_tellClause 82 = .ok (.invokevirtual 43, 3) := by decide +kernel
theorem dX5_tellClause_85 : decode cX5_tellClause 85 = .ok (.ifCond .eq 10, 3) := by decide +kernel
theorem dX5_tellClause_88 : decode cX5_tellClause 88 = .ok (.aload_n 0, 1) := by decide +kernel
theorem dX5_tellClause_89 : decode cX5_tellClause 89 = .ok (.invokevirtual 67, 3) := by decide +kernel
theorem dX5_tellClause_92 : decode cX5_tellClause 92 = .ok (.goto 7, 3) := by decide +kernel
theorem dX5_tellClause_95 : decode cX5_tellClause 95 = .ok (.aload_n 0, 1) := by decide +kernel
theorem dX5_tellClause_96 : decode cX5_tellClause 96 = .ok (.invokevirtual 70, 3) := by decide +kernel
theorem dX5_tellClause_99 : decode cX5_tellClause 99 = .ok (.aload_n 0, 1) := by decide +kernel
theorem dX5_tellClause_100 : decode cX5_tellClause 100 = .ok (.getfield 26, 3) := by decide +kernel
theorem dX5_tellClause_103 : decode cX5_tellClause 103 = .ok (.ifCond .ne 19, 3) := by decide +kernel
theorem dX5_tellClause_106 : decode cX5_tellClause 106 = .ok (.aload_n 0, 1) := by decide +kernel
theorem dX5_tellClause_107 : decode cX5_tellClause 107 = .ok (.getfield 22, 3) := by decide +kernel
theorem dX5_tellClause_110 : decode cX5_tellClause 110 = .ok (.getfield 37, 3) := by decide +kernel
theorem dX5_tellClause_113 : decode cX5_tellClause 113 = .ok (.iconst 3, 1) := by decide +kernel
theorem dX5_tellClause_114 : decode cX5_tellClause 114 = .ok (.if_icmp .eq 8, 3) := by decide +kernel
theorem dX5_tellClause_117 : decode cX5_tellClause 117 = .ok (.aload_n 0, 1) := by decide +kernel
theorem dX5_tellClause_118 : decode cX5_tellClause 118 = .ok (.iconst 1, 1) := by decide +kernel
theorem dX5_tellClause_119 : decode cX5_tellClause 119 = .ok (.invokevirtual 73, 3) := by decide +kernel
theorem dX5_tellClause_122 : decode cX5_tellClause 122 = .ok (.aload_n 0, 1) := by decide +kernel
theorem dX5_tellClause_123 : decode cX5_tellClause 123 = .ok (.getfield 26, 3) := by decide +kernel
theorem dX5_tellClause_126 : decode cX5_tellClause 126 = .ok (.ifCond .ne 23, 3) := by decide +kernel
theorem dX5_tellClause_129 : decode cX5_tellClause 129 = .ok (.aload_n 0, 1) := by decide +kernel
theorem dX5_tellClause_130 : decode cX5_tellClause 130 = .ok (.getfield 12, 3) := by decide +kernel
theorem dX5_tellClause_133 : decode cX5_tellClause 133 = .ok (.dup, 1) := by decide +kernel
theorem dX5_tellClause_134 : decode cX5_tellClause 134 = .ok (.getfield 77, 3) := by decide +kernel
theorem dX5_tellClause_137 : decode cX5_tellClause 137 = .ok (.iconst 1, 1) := by decide +kernel
theorem dX5_tellClause_138 : decode cX5_tellClause 138 = .ok (.iadd, 1) := by decide +kernel
theorem dX5_tellClause_139 : decode cX5_tellClause 139 = .ok (.putfield 77, 3) := by decide +kernel
theorem dX5_tellClause_142 : decode cX5_tellClause 142 = .ok (.aload_n 0, 1) := by decide +kernel
theorem dX5_tellClause_143 : decode cX5_tellClause 143 = .ok (.getfield 22, 3) := by decide +kernel
theorem dX5_tellClause_146 : decode cX5_tellClause 146 = .ok (.invokevirtual 80, 3) := by decide +kernel
theorem dX5_tellClause_149 : decode cX5_tellClause 149 = .ok (.return_, 1) := by decide +kernel
set_option maxRecDepth 20000 in
theorem dX5_tellHouse_0 : decode cX5_tellHouse 0 = .ok (.aload_n 0, 1) := by decide +kernel
theorem dX5_tellHouse_1 : decode cX5_tellHouse 1 = .ok (.getfield 12, 3) := by decide +kernel
theorem dX5_tellHouse_4 : decode cX5_tellHouse 4 = .ok (.getfield 83, 3) := by decide +kernel
theorem dX5_tellHouse_7 : decode cX5_tellHouse 7 = .ok (.istore_n 1, 1) := by decide +kernel
theorem dX5_tellHouse_8 : decode cX5_tellHouse 8 = .ok (.iload_n 1, 1) := by decide +kernel
theorem dX5_tellHouse_9 : decode cX5_tellHouse 9 = .ok (.iconst 5, 1) := by decide +kernel
theorem dX5_tellHouse_10 : decode cX5_tellHouse 10 = .ok (.if_icmp .lt 9, 3) := by decide +kernel
theorem dX5_tellHouse_13 : decode cX5_tellHouse 13 = .ok (.aload_n 0, 1) := by decide +kernel
theorem dX5_tellHouse_14 : decode cX5_tellHouse 14 = .ok (.iconst 4, 1) := by decide +kernel
theorem dX5_tellHouse_15 : decode cX5_tellHouse 15 = .ok (.invokevirtual 73, 3) := by decide +kernel
theorem dX5_tellHouse_18 : decode cX5_tellHouse 18 = .ok (.return_, 1) := by decide +kernel
theorem dX5_tellHouse_19 : decode cX5_tellHouse 19 = .ok (.aload_n 0, 1) := by decide +kernel
theorem dX5_tellHouse_20 : decode cX5_tellHouse 20 = .ok (.getfield 22, 3) := by decide +kernel
theorem dX5_tellHouse_23 : decode cX5_tellHouse 23 = .ok (.invokevirtual 80, 3) := by decide +kernel
theorem dX5_tellHouse_26 : decode cX5_tellHouse 26 = .ok (.aload_n 0, 1) := by decide +kernel
theorem dX5_tellHouse_27 : decode cX5_tellHouse 27 = .ok (.getfield 12, 3) := by decide +kernel
theorem dX5_tellHouse_30 : decode cX5_tellHouse 30 = .ok (.getfield 86, 3) := by decide +kernel
theorem dX5_tellHouse_33 : decode cX5_tellHouse 33 = .ok (.iload_n 1, 1) := by decide +kernel
theorem dX5_tellHouse_34 : decode cX5_tellHouse 34 = .ok (.aload_n 0, 1) := by decide +kernel
theorem dX5_tellHouse_35 : decode cX5_tellHouse 35 = .ok (.iconst 1, 1) := by decide +kernel
theorem dX5_tellHouse_36 : decode cX5_tellHouse 36 = .ok (.invokevirtual 90, 3) := by decide +kernel
theorem dX5_tellHouse_39 : decode cX5_tellHouse 39 = .ok (.lastore, 1) := by decide +kernel
theorem dX5_tellHouse_40 : decode cX5_tellHouse 40 = .ok (.aload_n 0, 1) := by decide +kernel
theorem dX5_tellHouse_41 : decode cX5_tellHouse 41 = .ok (.getfield 12, 3) := by decide +kernel
theorem dX5_tellHouse_44 : decode cX5_tellHouse 44 = .ok (.getfield 94, 3) := by decide +kernel
theorem dX5_tellHouse_47 : decode cX5_tellHouse 47 = .ok (.iload_n 1, 1) := by decide +kernel
theorem dX5_tellHouse_48 : decode cX5_tellHouse 48 = .ok (.aload_n 0, 1) := by decide +kernel
theorem dX5_tellHouse_49 : decode cX5_tellHouse 49 = .ok (.iconst 0, 1) := by decide +kernel
theorem dX5_tellHouse_50 : decode cX5_tellHouse 50 = .ok (.bipush 99, 2) := by decide +kernel
theorem dX5_tellHouse_52 : decode cX5_tellHouse 52 = .ok (.invokevirtual 98, 3) := by decide +kernel
theorem dX5_tellHouse_55 : decode cX5_tellHouse 55 = .ok (.iastore, 1) := by decide +kernel
theorem dX5_tellHouse_56 : decode cX5_tellHouse 56 = .ok (.aload_n 0, 1) := by decide +kernel
theorem dX5_tellHouse_57 : decode cX5_tellHouse 57 = .ok (.getfield 12, 3) := by decide +kernel
theorem dX5_tellHouse_60 : decode cX5_tellHouse 60 = .ok (.getfield 102, 3) := by decide +kernel
theorem dX5_tellHouse_63 : decode cX5_tellHouse 63 = .ok (.iload_n 1, 1) := by decide +kernel
theorem dX5_tellHouse_64 : decode cX5_tellHouse 64 = .ok (.aload_n 0, 1) := by decide +kernel
theorem dX5_tellHouse_65 : decode cX5_tellHouse 65 = .ok (.iconst 0, 1) := by decide +kernel
theorem dX5_tellHouse_66 : decode cX5_tellHouse 66 = .ok (.bipush 20, 2) := by decide +kernel
theorem dX5_tellHouse_68 : decode cX5_tellHouse 68 = .ok (.invokevirtual 98, 3) := by decide +kernel
theorem dX5_tellHouse_71 : decode cX5_tellHouse 71 = .ok (.iastore, 1) := by decide +kernel
theorem dX5_tellHouse_72 : decode cX5_tellHouse 72 = .ok (.aload_n 0, 1) := by decide +kernel
theorem dX5_tellHouse_73 : decode cX5_tellHouse 73 = .ok (.getfield 12, 3) := by decide +kernel
theorem dX5_tellHouse_76 : decode cX5_tellHouse 76 = .ok (.getfield 105, 3) := by decide +kernel
theorem dX5_tellHouse_79 : decode cX5_tellHouse 79 = .ok (.iload_n 1, 1) := by decide +kernel
theorem dX5_tellHouse_80 : decode cX5_tellHouse 80 = .ok (.aload_n 0, 1) := by decide +kernel
theorem dX5_tellHouse_81 : decode cX5_tellHouse 81 = .ok (.iconst 0, 1) := by decide +kernel
theorem dX5_tellHouse_82 : decode cX5_tellHouse 82 = .ok (.bipush 100, 2) := by decide +kernel
theorem dX5_tellHouse_84 : decode cX5_tellHouse 84 = .ok (.invokevirtual 98, 3) := by decide +kernel
theorem dX5_tellHouse_87 : decode cX5_tellHouse 87 = .ok (.iastore, 1) := by decide +kernel
theorem dX5_tellHouse_88 : decode cX5_tellHouse 88 = .ok (.aload_n 0, 1) := by decide +kernel
theorem dX5_tellHouse_89 : decode cX5_tellHouse 89 = .ok (.getfield 12, 3) := by decide +kernel
theorem dX5_tellHouse_92 : decode cX5_tellHouse 92 = .ok (.dup, 1) := by decide +kernel
theorem dX5_tellHouse_93 : decode cX5_tellHouse 93 = .ok (.getfield 83, 3) := by decide +kernel
theorem dX5_tellHouse_96 : decode cX5_tellHouse 96 = .ok (.iconst 1, 1) := by decide +kernel
theorem dX5_tellHouse_97 : decode cX5_tellHouse 97 = .ok (.iadd, 1) := by decide +kernel
theorem dX5_tellHouse_98 : decode cX5_tellHouse 98 = .ok (.putfield 83, 3) := by decide +kernel
theorem dX5_tellHouse_101 : decode cX5_tellHouse 101 = .ok (.return_, 1) := by decide +kernel
set_option maxRecDepth 20000 in
theorem dX5_tellPerson_0 : decode cX5_tellPerson 0 = .ok (.aload_n 0, 1) := by decide +kernel
theorem dX5_tellPerson_1 : decode cX5_tellPerson 1 = .ok (.getfield 12, 3) := by decide +kernel
theorem dX5_tellPerson_4 : decode cX5_tellPerson 4 = .ok (.getfield 108, 3) := by decide +kernel
theorem dX5_tellPerson_7 : decode cX5_tellPerson 7 = .ok (.istore_n 1, 1) := by decide +kernel
theorem dX5_tellPerson_8 : decode cX5_tellPerson 8 = .ok (.iload_n 1, 1) := by decide +kernel
theorem dX5_tellPerson_9 : decode cX5_tellPerson 9 = .ok (.iconst 5, 1) := by decide +kernel
theorem dX5_tellPerson_10 : decode cX5_tellPerson 10 = .ok (.if_icmp .lt 9, 3) := by decide +kernel
theorem dX5_tellPerson_13 : decode cX5_tellPerson 13 = .ok (.aload_n 0, 1) := by decide +kernel
theorem dX5_tellPerson_14 : decode cX5_tellPerson 14 = .ok (.iconst 4, 1) := by decide +kernel
theorem dX5_tellPerson_15 : decode cX5_tellPerson 15 = .ok (.invokevirtual 73, 3) := by decide +kernel
theorem dX5_tellPerson_18 : decode cX5_tellPerson 18 = .ok (.return_, 1) := by decide +kernel
theorem dX5_tellPerson_19 : decode cX5_tellPerson 19 = .ok (.aload_n 0, 1) := by decide +kernel
theorem dX5_tellPerson_20 : decode cX5_tellPerson 20 = .ok (.getfield 22, 3) := by decide +kernel
theorem dX5_tellPerson_23 : decode cX5_tellPerson 23 = .ok (.invokevirtual 80, 3) := by decide +kernel
theorem dX5_tellPerson_26 : decode cX5_tellPerson 26 = .ok (.aload_n 0, 1) := by decide +kernel
theorem dX5_tellPerson_27 : decode cX5_tellPerson 27 = .ok (.getfield 12, 3) := by decide +kernel
theorem dX5_tellPerson_30 : decode cX5_tellPerson 30 = .ok (.getfield 111, 3) := by decide +kernel
theorem dX5_tellPerson_33 : decode cX5_tellPerson 33 = .ok (.iload_n 1, 1) := by decide +kernel
theorem dX5_tellPerson_34 : decode cX5_tellPerson 34 = .ok (.aload_n 0, 1) := by decide +kernel
theorem dX5_tellPerson_35 : decode cX5_tellPerson 35 = .ok (.iconst 0, 1) := by decide +kernel
theorem dX5_tellPerson_36 : decode cX5_tellPerson 36 = .ok (.invokevirtual 90, 3) := by decide +kernel
theorem dX5_tellPerson_39 : decode cX5_tellPerson 39 = .ok (.lastore, 1) := by decide +kernel
theorem dX5_tellPerson_40 : decode cX5_tellPerson 40 = .ok (.aload_n 0, 1) := by decide +kernel
theorem dX5_tellPerson_41 : decode cX5_tellPerson 41 = .ok (.getfield 26, 3) := by decide +kernel
theorem dX5_tellPerson_44 : decode cX5_tellPerson 44 = .ok (.ifCond .ne 27, 3) := by decide +kernel
theorem dX5_tellPerson_47 : decode cX5_tellPerson 47 = .ok (.aload_n 0, 1) := by decide +kernel
theorem dX5_tellPerson_48 : decode cX5_tellPerson 48 = .ok (.getfield 22, 3) := by decide +kernel
theorem dX5_tellPerson_51 : decode cX5_tellPerson 51 = .ok (.ldc 114, 2) := by decide +kernel
theorem dX5_tellPerson_53 : decode cX5_tellPerson 53 = .ok (.invokevirtual 43, 3) := by decide +kernel
theorem dX5_tellPerson_56 : decode cX5_tellPerson 56 = .ok (.ifCond .eq 15, 3) := by decide +kernel
theorem dX5_tellPerson_59 : decode cX5_tellPerson 59 = .ok (.aload_n 0, 1) := by decide +kernel
theorem dX5_tellPerson_60 : decode cX5_tellPerson 60 = .ok (.getfield 22, 3) := by decide +kernel
theorem dX5_tellPerson_63 : decode cX5_tellPerson 63 = .ok (.invokevirtual 80, 3) := by decide +kernel
theorem dX5_tellPerson_66 : decode cX5_tellPerson 66 = .ok (.aload_n 0, 1) := by decide +kernel
theorem dX5_tellPerson_67 : decode cX5_tellPerson 67 = .ok (.iload_n 1, 1) := by decide +kernel
theorem dX5_tellPerson_68 : decode cX5_tellPerson 68 = .ok (.invokevirtual 116, 3) := by decide +kernel
theorem dX5_tellPerson_71 : decode cX5_tellPerson 71 = .ok (.aload_n 0, 1) := by decide +kernel
theorem dX5_tellPerson_72 : decode cX5_tellPerson 72 = .ok (.getfield 12, 3) := by decide +kernel
theorem dX5_tellPerson_75 : decode cX5_tellPerson 75 = .ok (.dup, 1) := by decide +kernel
theorem dX5_tellPerson_76 : decode cX5_tellPerson 76 = .ok (.getfield 108, 3) := by decide +kernel
theorem dX5_tellPerson_79 : decode cX5_tellPerson 79 = .ok (.iconst 1, 1) := by decide +kernel
theorem dX5_tellPerson_80 : decode cX5_tellPerson 80 = .ok (.iadd, 1) := by decide +kernel
theorem dX5_tellPerson_81 : decode cX5_tellPerson 81 = .ok (.putfield 108, 3) := by decide +kernel
theorem dX5_tellPerson_84 : decode cX5_tellPerson 84 = .ok (.return_, 1) := by decide +kernel
set_option maxRecDepth 20000 in
theorem dX5_tellHome_0 : decode cX5_tellHome 0 = .ok (.aload_n 0, 1) := by decide +kernel
theorem dX5_tellHome_1 : decode cX5_tellHome 1 = .ok (.getfield 12, 3) := by decide +kernel
theorem dX5_tellHome_4 : decode cX5_tellHome 4 = .ok (.aload_n 0, 1) := by decide +kernel
theorem dX5_tellHome_5 : decode cX5_tellHome 5 = .ok (.getfield 22, 3) := by decide +kernel
theorem dX5_tellHome_8 : decode cX5_tellHome 8 = .ok (.getfield 119, 3) := by decide +kernel
theorem dX5_tellHome_11 : decode cX5_tellHome 11 = .ok (.invokevirtual 123, 3) := by decide +kernel
theorem dX5_tellHome_14 : decode cX5_tellHome 14 = .ok (.istore_n 2, 1) := by decide +kernel
theorem dX5_tellHome_15 : decode cX5_tellHome 15 = .ok (.aload_n 0, 1) := by decide +kernel
theorem dX5_tellHome_16 : decode cX5_tellHome 16 = .ok (.getfield 22, 3) := by decide +kernel
theorem dX5_tellHome_19 : decode cX5_tellHome 19 = .ok (.getfield 37, 3) := by decide +kernel
theorem dX5_tellHome_22 : decode cX5_tellHome 22 = .ok (.iconst 1, 1) := by decide +kernel
theorem dX5_tellHome_23 : decode cX5_tellHome 23 = .ok (.if_icmp .eq 11, 3) := by decide +kernel
theorem dX5_tellHome_26 : decode cX5_tellHome 26 = .ok (.aload_n 0, 1) := by decide +kernel
theorem dX5_tellHome_27 : decode cX5_tellHome 27 = .ok (.iconst 1, 1) := by decide +kernel
theorem dX5_tellHome_28 : decode cX5_tellHome 28 = .ok (.invokevirtual 73, 3) := by decide +kernel
theorem dX5_tellHome_31 : decode cX5_tellHome 31 = .ok (.goto 64, 3) := by decide +kernel
theorem dX5_tellHome_34 : decode cX5_tellHome 34 = .ok (.iload_n 2, 1) := by decide +kernel
theorem dX5_tellHome_35 : decode cX5_tellHome 35 = .ok (.iconst (-1), 1) := by decide +kernel
theorem dX5_tellHome_36 : decode cX5_tellHome 36 = .ok (.if_icmp .ne 11, 3) := by decide +kernel
theorem dX5_tellHome_39 : decode cX5_tellHome 39 = .ok (.aload_n 0, 1) := by decide +kernel
theorem dX5_tellHome_40 : decode cX5_tellHome 40 = .ok (.iconst 5, 1) := by decide +kernel
theorem dX5_tellHome_41 : decode cX5_tellHome 41 = .ok (.invokevirtual 73, 3) := by decide +kernel
theorem dX5_tellHome_44 : decode cX5_tellHome 44 = .ok (.goto 51, 3) := by decide +kernel
theorem dX5_tellHome_47 : decode cX5_tellHome 47 = .ok (.aload_n 0, 1) := by decide +kernel
theorem dX5_tellHome_48 : decode cX5_tellHome 48 = .ok (.getfield 12, 3) := by decide +kernel
theorem dX5_tellHome_51 : decode cX5_tellHome 51 = .ok (.getfield 127, 3) := by decide +kernel
theorem dX5_tellHome_54 : decode cX5_tellHome 54 = .ok (.iload_n 2, 1) := by decide +kernel
theorem dX5_tellHome_55 : decode cX5_tellHome 55 = .ok (.iaload, 1) := by decide +kernel
theorem dX5_tellHome_56 : decode cX5_tellHome 56 = .ok (.iconst (-1), 1) := by decide +kernel
theorem dX5_tellHome_57 : decode cX5_tellHome 57 = .ok (.if_icmp .eq 11, 3) := by decide +kernel
theorem dX5_tellHome_60 : decode cX5_tellHome 60 = .ok (.aload_n 0, 1) := by decide +kernel
theorem dX5_tellHome_61 : decode cX5_tellHome 61 = .ok (.iconst 3, 1) := by decide +kernel
theorem dX5_tellHome_62 : decode cX5_tellHome 62 = .ok (.invokevirtual 73, 3) := by decide +kernel
theorem dX5_tellHome_65 : decode cX5_tellHome 65 = .ok (.goto 30, 3) := by decide +kernel
theorem dX5_tellHome_68 : decode cX5_tellHome 68 = .ok (.aload_n 0, 1) := by decide +kernel
theorem dX5_tellHome_69 : decode cX5_tellHome 69 = .ok (.getfield 12, 3) := by decide +kernel
theorem dX5_tellHome_72 : decode cX5_tellHome 72 = .ok (.getfield 127, 3) := by decide +kernel
theorem dX5_tellHome_75 : decode cX5_tellHome 75 = .ok (.iload_n 2, 1) := by decide +kernel
theorem dX5_tellHome_76 : decode cX5_tellHome 76 = .ok (.iload_n 1, 1) := by decide +kernel
theorem dX5_tellHome_77 : decode cX5_tellHome 77 = .ok (.iastore, 1) := by decide +kernel
theorem dX5_tellHome_78 : decode cX5_tellHome 78 = .ok (.aload_n 0, 1) := by decide +kernel
theorem dX5_tellHome_79 : decode cX5_tellHome 79 = .ok (.getfield 12, 3) := by decide +kernel
theorem dX5_tellHome_82 : decode cX5_tellHome 82 = .ok (.getfield 130, 3) := by decide +kernel
theorem dX5_tellHome_85 : decode cX5_tellHome 85 = .ok (.iload_n 1, 1) := by decide +kernel
theorem dX5_tellHome_86 : decode cX5_tellHome 86 = .ok (.iload_n 2, 1) := by decide +kernel
theorem dX5_tellHome_87 : decode cX5_tellHome 87 = .ok (.iastore, 1) := by decide +kernel
theorem dX5_tellHome_88 : decode cX5_tellHome 88 = .ok (.aload_n 0, 1) := by decide +kernel
theorem dX5_tellHome_89 : decode cX5_tellHome 89 = .ok (.getfield 22, 3) := by decide +kernel
theorem dX5_tellHome_92 : decode cX5_tellHome 92 = .ok (.invokevirtual 80, 3) := by decide +kernel
theorem dX5_tellHome_95 : decode cX5_tellHome 95 = .ok (.return_, 1) := by decide +kernel
set_option maxRecDepth 20000 in
theorem dX5_tellTie_0 : decode cX5_tellTie 0 = .ok (.aload_n 0, 1) := by decide +kernel
theorem dX5_tellTie_1 : decode cX5_tellTie 1 = .ok (.getfield 22, 3) := by decide +kernel
theorem dX5_tellTie_4 : decode cX5_tellTie 4 = .ok (.invokevirtual 80, 3) := by decide +kernel
theorem dX5_tellTie_7 : decode cX5_tellTie 7 = .ok (.aload_n 0, 1) := by decide +kernel
theorem dX5_tellTie_8 : decode cX5_tellTie 8 = .ok (.invokevirtual 133, 3) := by decide +kernel
theorem dX5_tellTie_11 : decode cX5_tellTie 11 = .ok (.istore_n 1, 1) := by decide +kernel
theorem dX5_tellTie_12 : decode cX5_tellTie 12 = .ok (.aload_n 0, 1) := by decide +kernel
theorem dX5_tellTie_13 : decode cX5_tellTie 13 = .ok (.getfield 26, 3) := by decide +kernel
theorem dX5_tellTie_16 : decode cX5_tellTie 16 = .ok (.ifCond .ne 16, 3) := by decide +kernel
theorem dX5_tellTie_19 : decode cX5_tellTie 19 = .ok (.aload_n 0, 1) := by decide +kernel
theorem dX5_tellTie_20 : decode cX5_tellTie 20 = .ok (.iload_n 1, 1) := by decide +kernel
theorem dX5_tellTie_21 : decode cX5_tellTie 21 = .ok (.invokevirtual 137, 3) := by decide +kernel
theorem dX5_tellTie_24 : decode cX5_tellTie 24 = .ok (.ifCond .eq 8, 3) := by decide +kernel
theorem dX5_tellTie_27 : decode cX5_tellTie 27 = .ok (.aload_n 0, 1) := by decide +kernel
theorem dX5_tellTie_28 : decode cX5_tellTie 28 = .ok (.iconst 3, 1) := by decide +kernel
theorem dX5_tellTie_29 : decode cX5_tellTie 29 = .ok (.invokevirtual 73, 3) := by decide +kernel
theorem dX5_tellTie_32 : decode cX5_tellTie 32 = .ok (.aload_n 0, 1) := by decide +kernel
theorem dX5_tellTie_33 : decode cX5_tellTie 33 = .ok (.invokevirtual 133, 3) := by decide +kernel
theorem dX5_tellTie_36 : decode cX5_tellTie 36 = .ok (.istore_n 2, 1) := by decide +kernel
theorem dX5_tellTie_37 : decode cX5_tellTie 37 = .ok (.aload_n 0, 1) := by decide +kernel
theorem dX5_tellTie_38 : decode cX5_tellTie 38 = .ok (.iconst 0, 1) := by decide +kernel
theorem dX5_tellTie_39 : decode cX5_tellTie 39 = .ok (.bipush 20, 2) := by decide +kernel
theorem dX5_tellTie_41 : decode cX5_tellTie 41 = .ok (.invokevirtual 98, 3) := by decide +kernel
theorem dX5_tellTie_44 : decode cX5_tellTie 44 = .ok (.bipush 10, 2) := by decide +kernel
theorem dX5_tellTie_46 : decode cX5_tellTie 46 = .ok (.isub, 1) := by decide +kernel
theorem dX5_tellTie_47 : decode cX5_tellTie 47 = .ok (.istore_n 3, 1) := by decide +kernel
theorem dX5_tellTie_48 : decode cX5_tellTie 48 = .ok (.aload_n 0, 1) := by decide +kernel
theorem dX5_tellTie_49 : decode cX5_tellTie 49 = .ok (.getfield 26, 3) := by decide +kernel
theorem dX5_tellTie_52 : decode cX5_tellTie 52 = .ok (.ifCond .ne 36, 3) := by decide +kernel
theorem dX5_tellTie_55 : decode cX5_tellTie 55 = .ok (.aload_n 0, 1) := by decide +kernel
theorem dX5_tellTie_56 : decode cX5_tellTie 56 = .ok (.getfield 12, 3) := by decide +kernel
theorem dX5_tellTie_59 : decode cX5_tellTie 59 = .ok (.getfield 141, 3) := by decide +kernel
theorem dX5_tellTie_62 : decode cX5_tellTie 62 = .ok (.iload_n 1, 1) := by decide +kernel
theorem dX5_tellTie_63 : decode cX5_tellTie 63 = .ok (.iconst 5, 1) := by decide +kernel
theorem dX5_tellTie_64 : decode cX5_tellTie 64 = .ok (.imul, 1) := by decide +kernel
theorem dX5_tellTie_65 : decode cX5_tellTie 65 = .ok (.iload_n 2, 1) := by decide +kernel
theorem dX5_tellTie_66 : decode cX5_tellTie 66 = .ok (.iadd, 1) := by decide +kernel
theorem dX5_tellTie_67 : decode cX5_tellTie 67 = .ok (.iload_n 3, 1) := by decide +kernel
theorem dX5_tellTie_68 : decode cX5_tellTie 68 = .ok (.iastore, 1) := by decide +kernel
theorem dX5_tellTie_69 : decode cX5_tellTie 69 = .ok (.aload_n 0, 1) := by decide +kernel
theorem dX5_tellTie_70 : decode cX5_tellTie 70 = .ok (.getfield 12, 3) := by decide +kernel
theorem dX5_tellTie_73 : decode cX5_tellTie 73 = .ok (.dup, 1) := by decide +kernel
theorem dX5_tellTie_74 : decode cX5_tellTie 74 = .ok (.getfield 144, 3) := by decide +kernel
theorem dX5_tellTie_77 : decode cX5_tellTie 77 = .ok (.iconst 1, 1) := by decide +kernel
theorem dX5_tellTie_78 : decode cX5_tellTie 78 = .ok (.iload_n 1, 1) := by decide +kernel
theorem dX5_tellTie_79 : decode cX5_tellTie 79 = .ok (.iconst 5, 1) := by decide +kernel
theorem dX5_tellTie_80 : decode cX5_tellTie 80 = .ok (.imul, 1) := by decide +kernel
theorem dX5_tellTie_81 : decode cX5_tellTie 81 = .ok (.iload_n 2, 1) := by decide +kernel
theorem dX5_tellTie_82 : decode cX5_tellTie 82 = .ok (.iadd, 1) := by decide +kernel
theorem dX5_tellTie_83 : decode cX5_tellTie 83 = .ok (.ishl, 1) := by decide +kernel
theorem dX5_tellTie_84 : decode cX5_tellTie 84 = .ok (.ior, 1) := by decide +kernel
theorem dX5_tellTie_85 : decode cX5_tellTie 85 = .ok (.putfield 144, 3) := by decide +kernel
theorem dX5_tellTie_88 : decode cX5_tellTie 88 = .ok (.return_, 1) := by decide +kernel
set_option maxRecDepth 20000 in
theorem dX5_isTiedAgain_0 : decode cX5_isTiedAgain 0 = .ok (.aload_n 0, 1) := by decide +kernel
theorem dX5_isTiedAgain_1 : decode cX5_isTiedAgain 1 = .ok (.getfield 12, 3) := by decide +kernel
theorem dX5_isTiedAgain_4 : decode cX5_isTiedAgain 4 = .ok (.aload_n 0, 1) := by decide +kernel
theorem dX5_isTiedAgain_5 : decode cX5_isTiedAgain 5 = .ok (.getfield 22, 3) := by decide +kernel
theorem dX5_isTiedAgain_8 : decode cX5_isTiedAgain 8 = .ok (.getfield 119, 3) := by decide +kernel
theorem dX5_isTiedAgain_11 : decode cX5_isTiedAgain 11 = .ok (.invokevirtual 147, 3) := by decide +kernel
theorem dX5_isTiedAgain_14 : decode cX5_isTiedAgain 14 = .ok (.istore_n 2, 1) := by decide +kernel
theorem dX5_isTiedAgain_15 : decode cX5_isTiedAgain 15 = .ok (.aload_n 0, 1) := by decide +kernel
theorem dX5_isTiedAgain_16 : decode cX5_isTiedAgain 16 = .ok (.getfield 22, 3) := by decide +kernel
theorem dX5_isTiedAgain_19 : decode cX5_isTiedAgain 19 = .ok (.getfield 37, 3) := by decide +kernel
theorem dX5_isTiedAgain_22 : decode cX5_isTiedAgain 22 = .ok (.iconst 1, 1) := by decide +kernel
theorem dX5_isTiedAgain_23 : decode cX5_isTiedAgain 23 = .ok (.if_icmp .ne 8, 3) := by decide +kernel
theorem dX5_isTiedAgain_26 : decode cX5_isTiedAgain 26 = .ok (.iload_n 2, 1) := by decide +kernel
theorem dX5_isTiedAgain_27 : decode cX5_isTiedAgain 27 = .ok (.iconst (-1), 1) := by decide +kernel
theorem dX5_isTiedAgain_28 : decode cX5_isTiedAgain 28 = .ok (.if_icmp .ne 5, 3) := by decide +kernel
theorem dX5_isTiedAgain_31 : decode cX5_isTiedAgain 31 = .ok (.iconst 0, 1) := by decide +kernel
theorem dX5_isTiedAgain_32 : decode cX5_isTiedAgain 32 = .ok (.ireturn, 1) := by decide +kernel
theorem dX5_isTiedAgain_33 : decode cX5_isTiedAgain 33 = .ok (.iload_n 2, 1) := by decide +kernel
theorem dX5_isTiedAgain_34 : decode cX5_isTiedAgain 34 = .ok (.iload_n 1, 1) := by decide +kernel
theorem dX5_isTiedAgain_35 : decode cX5_isTiedAgain 35 = .ok (.if_icmp .eq 22, 3) := by decide +kernel
theorem dX5_isTiedAgain_38 : decode cX5_isTiedAgain 38 = .ok (.aload_n 0, 1) := by decide +kernel
theorem dX5_isTiedAgain_39 : decode cX5_isTiedAgain 39 = .ok (.getfield 12, 3) := by decide +kernel
theorem dX5_isTiedAgain_42 : decode cX5_isTiedAgain 42 = .ok (.getfield 144, 3) := by decide +kernel
theorem dX5_isTiedAgain_45 : decode cX5_isTiedAgain 45 = .ok (.iload_n 1, 1) := by decide +kernel
theorem dX5_isTiedAgain_46 : decode cX5_isTiedAgain 46 = .ok (.iconst 5, 1) := by decide +kernel
theorem dX5_isTiedAgain_47 : decode cX5_isTiedAgain 47 = .ok (.imul, 1) := by decide +kernel
theorem dX5_isTiedAgain_48 : decode cX5_isTiedAgain 48 = .ok (.iload_n 2, 1) := by decide +kernel
theorem dX5_isTiedAgain_49 : decode cX5_isTiedAgain 49 = .ok (.iadd, 1) := by decide +kernel
theorem dX5_isTiedAgain_50 : decode cX5_isTiedAgain 50 = .ok (.ishr, 1) := by decide +kernel
theorem dX5_isTiedAgain_51 : decode cX5_isTiedAgain 51 = .ok (.iconst 1, 1) := by decide +kernel
theorem dX5_isTiedAgain_52 : decode cX5_isTiedAgain 52 = .ok (.iand, 1) := by decide +kernel
theorem dX5_isTiedAgain_53 : decode cX5_isTiedAgain 53 = .ok (.iconst 1, 1) := by decide +kernel
theorem dX5_isTiedAgain_54 : decode cX5_isTiedAgain 54 = .ok (.if_icmp .ne 7, 3) := by decide +kernel
theorem dX5_isTiedAgain_57 : decode cX5_isTiedAgain 57 = .ok (.iconst 1, 1) := by decide +kernel
theorem dX5_isTiedAgain_58 : decode cX5_isTiedAgain 58 = .ok (.goto 4, 3) := by decide +kernel
theorem dX5_isTiedAgain_61 : decode cX5_isTiedAgain 61 = .ok (.iconst 0, 1) := by decide +kernel
theorem dX5_isTiedAgain_62 : decode cX5_isTiedAgain 62 = .ok (.ireturn, 1) := by decide +kernel
set_option maxRecDepth 20000 in
theorem dX5_tellWork_0 : decode cX5_tellWork 0 = .ok (.aload_n 0, 1) := by decide +kernel
theorem dX5_tellWork_1 : decode cX5_tellWork 1 = .ok (.getfield 22, 3) := by decide +kernel
theorem dX5_tellWork_4 : decode cX5_tellWork 4 = .ok (.invokevirtual 80, 3) := by decide +kernel
theorem dX5_tellWork_7 : decode cX5_tellWork 7 = .ok (.aload_n 0, 1) := by decide +kernel
theorem dX5_tellWork_8 : decode cX5_tellWork 8 = .ok (.getfield 12, 3) := by decide +kernel
theorem dX5_tellWork_11 : decode cX5_tellWork 11 = .ok (.aload_n 0, 1) := by decide +kernel
theorem dX5_tellWork_12 : decode cX5_tellWork 12 = .ok (.getfield 22, 3) := by decide +kernel
theorem dX5_tellWork_15 : decode cX5_tellWork 15 = .ok (.getfield 119, 3) := by decide +kernel
theorem dX5_tellWork_18 : decode cX5_tellWork 18 = .ok (.invokevirtual 147, 3) := by decide +kernel
theorem dX5_tellWork_21 : decode cX5_tellWork 21 = .ok (.istore_n 1, 1) := by decide +kernel
theorem dX5_tellWork_22 : decode cX5_tellWork 22 = .ok (.aload_n 0, 1) := by decide +kernel
theorem dX5_tellWork_23 : decode cX5_tellWork 23 = .ok (.getfield 22, 3) := by decide +kernel
theorem dX5_tellWork_26 : decode cX5_tellWork 26 = .ok (.getfield 37, 3) := by decide +kernel
theorem dX5_tellWork_29 : decode cX5_tellWork 29 = .ok (.iconst 1, 1) := by decide +kernel
theorem dX5_tellWork_30 : decode cX5_tellWork 30 = .ok (.if_icmp .ne 25, 3) := by decide +kernel
theorem dX5_tellWork_33 : decode cX5_tellWork 33 = .ok (.iload_n 1, 1) := by decide +kernel
theorem dX5_tellWork_34 : decode cX5_tellWork 34 = .ok (.iconst (-1), 1) := by decide +kernel
theorem dX5_tellWork_35 : decode cX5_tellWork 35 = .ok (.if_icmp .eq 20, 3) := by decide +kernel
theorem dX5_tellWork_38 : decode cX5_tellWork 38 = .ok (.aload_n 0, 1) := by decide +kernel
theorem dX5_tellWork_39 : decode cX5_tellWork 39 = .ok (.getfield 12, 3) := by decide +kernel
theorem dX5_tellWork_42 : decode cX5_tellWork 42 = .ok (.getfield 150, 3) := by decide +kernel
theorem dX5_tellWork_45 : decode cX5_tellWork 45 = .ok (.iload_n 1, 1) := by decide +kernel
theorem dX5_tellWork_46 : decode cX5_tellWork 46 = .ok (.iaload, 1) := by decide +kernel
theorem dX5_tellWork_47 : decode cX5_tellWork 47 = .ok (.ifCond .eq 8, 3) := by decide +kernel
theorem dX5_tellWork_50 : decode cX5_tellWork 50 = .ok (.aload_n 0, 1) := by decide +kernel
theorem dX5_tellWork_51 : decode cX5_tellWork 51 = .ok (.iconst 3, 1) := by decide +kernel
theorem dX5_tellWork_52 : decode cX5_tellWork 52 = .ok (.invokevirtual 73, 3) := by decide +kernel
theorem dX5_tellWork_55 : decode cX5_tellWork 55 = .ok (.aload_n 0, 1) := by decide +kernel
theorem dX5_tellWork_56 : decode cX5_tellWork 56 = .ok (.invokevirtual 133, 3) := by decide +kernel
theorem dX5_tellWork_59 : decode cX5_tellWork 59 = .ok (.istore_n 2, 1) := by decide +kernel
theorem dX5_tellWork_60 : decode cX5_tellWork 60 = .ok (.aload_n 0, 1) := by decide +kernel
theorem dX5_tellWork_61 : decode cX5_tellWork 61 = .ok (.iconst 1, 1) := by decide +kernel
theorem dX5_tellWork_62 : decode cX5_tellWork 62 = .ok (.bipush 15, 2) := by decide +kernel
theorem dX5_tellWork_64 : decode cX5_tellWork 64 = .ok (.invokevirtual 98, 3) := by decide +kernel
theorem dX5_tellWork_67 : decode cX5_tellWork 67 = .ok (.istore_n 3, 1) := by decide +kernel
theorem dX5_tellWork_68 : decode cX5_tellWork 68 = .ok (.aload_n 0, 1) := by decide +kernel
theorem dX5_tellWork_69 : decode cX5_tellWork 69 = .ok (.getfield 26, 3) := by decide +kernel
theorem dX5_tellWork_72 : decode cX5_tellWork 72 = .ok (.ifCond .ne 13, 3) := by decide +kernel
theorem dX5_tellWork_75 : decode cX5_tellWork 75 = .ok (.aload_n 0, 1) := by decide +kernel
theorem dX5_tellWork_76 : decode cX5_tellWork 76 = .ok (.getfield 12, 3) := by decide +kernel
theorem dX5_tellWork_79 : decode cX5_tellWork 79 = .ok (.getfield 150, 3) := by decide +kernel
theorem dX5_tellWork_82 : decode cX5_tellWork 82 = .ok (.iload_n 2, 1) := by decide +kernel
theorem dX5_tellWork_83 : decode cX5_tellWork 83 = .ok (.iload_n 3, 1) := by decide +kernel
theorem dX5_tellWork_84 : decode cX5_tellWork 84 = .ok (.iastore, 1) := by decide +kernel
theorem dX5_tellWork_85 : decode cX5_tellWork 85 = .ok (.return_, 1) := by decide +kernel
set_option maxRecDepth 20000 in
theorem dX5_tellLast_0 : decode cX5_tellLast 0 = .ok (.aload_n 0, 1) := by decide +kernel
theorem dX5_tellLast_1 : decode cX5_tellLast 1 = .ok (.getfield 12, 3) := by decide +kernel
theorem dX5_tellLast_4 : decode cX5_tellLast 4 = .ok (.getfield 152, 3) := by decide +kernel
theorem dX5_tellLast_7 : decode cX5_tellLast 7 = .ok (.ifCond .eq 9, 3) := by decide +kernel
theorem dX5_tellLast_10 : decode cX5_tellLast 10 = .ok (.aload_n 0, 1) := by decide +kernel
theorem dX5_tellLast_11 : decode cX5_tellLast 11 = .ok (.iconst 3, 1) := by decide +kernel
theorem dX5_tellLast_12 : decode cX5_tellLast 12 = .ok (.invokevirtual 73, 3) := by decide +kernel
theorem dX5_tellLast_15 : decode cX5_tellLast 15 = .ok (.return_, 1) := by decide +kernel
theorem dX5_tellLast_16 : decode cX5_tellLast 16 = .ok (.aload_n 0, 1) := by decide +kernel
theorem dX5_tellLast_17 : decode cX5_tellLast 17 = .ok (.getfield 12, 3) := by decide +kernel
theorem dX5_tellLast_20 : decode cX5_tellLast 20 = .ok (.iconst 1, 1) := by decide +kernel
theorem dX5_tellLast_21 : decode cX5_tellLast 21 = .ok (.putfield 152, 3) := by decide +kernel
theorem dX5_tellLast_24 : decode cX5_tellLast 24 = .ok (.aload_n 0, 1) := by decide +kernel
theorem dX5_tellLast_25 : decode cX5_tellLast 25 = .ok (.getfield 22, 3) := by decide +kernel
theorem dX5_tellLast_28 : decode cX5_tellLast 28 = .ok (.invokevirtual 80, 3) := by decide +kernel
theorem dX5_tellLast_31 : decode cX5_tellLast 31 = .ok (.return_, 1) := by decide +kernel
set_option maxRecDepth 20000 in
theorem dX5_tellRule_0 : decode cX5_tellRule 0 = .ok (.aload_n 0, 1) := by decide +kernel
theorem dX5_tellRule_1 : decode cX5_tellRule 1 = .ok (.invokevirtual 156, 3) := by decide +kernel
theorem dX5_tellRule_4 : decode cX5_tellRule 4 = .ok (.istore_n 1, 1) := by decide +kernel
theorem dX5_tellRule_5 : decode cX5_tellRule 5 = .ok (.iload_n 1, 1) := by decide +kernel
theorem dX5_tellRule_6 : decode cX5_tellRule 6 = .ok (.iconst (-1), 1) := by decide +kernel
theorem dX5_tellRule_7 : decode cX5_tellRule 7 = .ok (.if_icmp .ne 9, 3) := by decide +kernel
theorem dX5_tellRule_10 : decode cX5_tellRule 10 = .ok (.aload_n 0, 1) := by decide +kernel
theorem dX5_tellRule_11 : decode cX5_tellRule 11 = .ok (.iconst 1, 1) := by decide +kernel
theorem dX5_tellRule_12 : decode cX5_tellRule 12 = .ok (.invokevirtual 73, 3) := by decide +kernel
theorem dX5_tellRule_15 : decode cX5_tellRule 15 = .ok (.return_, 1) := by decide +kernel
theorem dX5_tellRule_16 : decode cX5_tellRule 16 = .ok (.aload_n 0, 1) := by decide +kernel
theorem dX5_tellRule_17 : decode cX5_tellRule 17 = .ok (.getfield 12, 3) := by decide +kernel
theorem dX5_tellRule_20 : decode cX5_tellRule 20 = .ok (.getfield 159, 3) := by decide +kernel
theorem dX5_tellRule_23 : decode cX5_tellRule 23 = .ok (.iload_n 1, 1) := by decide +kernel
theorem dX5_tellRule_24 : decode cX5_tellRule 24 = .ok (.ishr, 1) := by decide +kernel
theorem dX5_tellRule_25 : decode cX5_tellRule 25 = .ok (.iconst 1, 1) := by decide +kernel
theorem dX5_tellRule_26 : decode cX5_tellRule 26 = .ok (.iand, 1) := by decide +kernel
theorem dX5_tellRule_27 : decode cX5_tellRule 27 = .ok (.iconst 1, 1) := by decide +kernel
theorem dX5_tellRule_28 : decode cX5_tellRule 28 = .ok (.if_icmp .ne 9, 3) := by decide +kernel
theorem dX5_tellRule_31 : decode cX5_tellRule 31 = .ok (.aload_n 0, 1) := by decide +kernel
theorem dX5_tellRule_32 : decode cX5_tellRule 32 = .ok (.iconst 3, 1) := by decide +kernel
theorem dX5_tellRule_33 : decode cX5_tellRule 33 = .ok (.invokevirtual 73, 3) := by decide +kernel
theorem dX5_tellRule_36 : decode cX5_tellRule 36 = .ok (.return_, 1) := by decide +kernel
theorem dX5_tellRule_37 : decode cX5_tellRule 37 = .ok (.aload_n 0, 1) := by decide +kernel
theorem dX5_tellRule_38 : decode cX5_tellRule 38 = .ok (.getfield 12, 3) := by decide +kernel
theorem dX5_tellRule_41 : decode cX5_tellRule 41 = .ok (.dup, 1) := by decide +kernel
theorem dX5_tellRule_42 : decode cX5_tellRule 42 = .ok (.getfield 159, 3) := by decide +kernel
theorem dX5_tellRule_45 : decode cX5_tellRule 45 = .ok (.iconst 1, 1) := by decide +kernel
theorem dX5_tellRule_46 : decode cX5_tellRule 46 = .ok (.iload_n 1, 1) := by decide +kernel
theorem dX5_tellRule_47 : decode cX5_tellRule 47 = .ok (.ishl, 1) := by decide +kernel
theorem dX5_tellRule_48 : decode cX5_tellRule 48 = .ok (.ior, 1) := by decide +kernel
theorem dX5_tellRule_49 : decode cX5_tellRule 49 = .ok (.putfield 159, 3) := by decide +kernel
theorem dX5_tellRule_52 : decode cX5_tellRule 52 = .ok (.aload_n 0, 1) := by decide +kernel
theorem dX5_tellRule_53 : decode cX5_tellRule 53 = .ok (.getfield 22, 3) := by decide +kernel
theorem dX5_tellRule_56 : decode cX5_tellRule 56 = .ok (.invokevirtual 80, 3) := by decide +kernel
theorem dX5_tellRule_59 : decode cX5_tellRule 59 = .ok (.aload_n 0, 1) := by decide +kernel
theorem dX5_tellRule_60 : decode cX5_tellRule 60 = .ok (.getfield 12, 3) := by decide +kernel
theorem dX5_tellRule_63 : decode cX5_tellRule 63 = .ok (.getfield 162, 3) := by decide +kernel
theorem dX5_tellRule_66 : decode cX5_tellRule 66 = .ok (.iload_n 1, 1) := by decide +kernel
theorem dX5_tellRule_67 : decode cX5_tellRule 67 = .ok (.aload_n 0, 1) := by decide +kernel
theorem dX5_tellRule_68 : decode cX5_tellRule 68 = .ok (.getstatic 165, 3) := by decide +kernel
theorem dX5_tellRule_71 : decode cX5_tellRule 71 = .ok (.iload_n 1, 1) := by decide +kernel
theorem dX5_tellRule_72 : decode cX5_tellRule 72 = .ok (.iaload, 1) := by decide +kernel
theorem dX5_tellRule_73 : decode cX5_tellRule 73 = .ok (.getstatic 168, 3) := by decide +kernel
theorem dX5_tellRule_76 : decode cX5_tellRule 76 = .ok (.iload_n 1, 1) := by decide +kernel
theorem dX5_tellRule_77 : decode cX5_tellRule 77 = .ok (.iaload, 1) := by decide +kernel
theorem dX5_tellRule_78 : decode cX5_tellRule 78 = .ok (.invokevirtual 98, 3) := by decide +kernel
theorem dX5_tellRule_81 : decode cX5_tellRule 81 = .ok (.iastore, 1) := by decide +kernel
theorem dX5_tellRule_82 : decode cX5_tellRule 82 = .ok (.return_, 1) := by decide +kernel
set_option maxRecDepth 20000 in
theorem dX5_ruleRead_0 : decode cX5_ruleRead 0 = .ok (.aload_n 0, 1) := by decide +kernel
theorem dX5_ruleRead_1 : decode cX5_ruleRead 1 = .ok (.getfield 22, 3) := by decide +kernel
theorem dX5_ruleRead_4 : decode cX5_ruleRead 4 = .ok (.ldc 171, 2) := by decide +kernel
theorem dX5_ruleRead_6 : decode cX5_ruleRead 6 = .ok (.invokevirtual 43, 3) := by decide +kernel
theorem dX5_ruleRead_9 : decode cX5_ruleRead 9 = .ok (.ifCond .eq 5, 3) := by decide +kernel
theorem dX5_ruleRead_12 : decode cX5_ruleRead 12 = .ok (.iconst 0, 1) := by decide +kernel
theorem dX5_ruleRead_13 : decode cX5_ruleRead 13 = .ok (.ireturn, 1) := by decide +kernel
theorem dX5_ruleRead_14 : decode cX5_ruleRead 14 = .ok (.aload_n 0, 1) := by decide +kernel
theorem dX5_ruleRead_15 : decode cX5_ruleRead 15 = .ok (.getfield 22, 3) := by decide +kernel
theorem dX5_ruleRead_18 : decode cX5_ruleRead 18 = .ok (.ldc 173, 2) := by decide +kernel
theorem dX5_ruleRead_20 : decode cX5_ruleRead 20 = .ok (.invokevirtual 43, 3) := by decide +kernel
theorem dX5_ruleRead_23 : decode cX5_ruleRead 23 = .ok (.ifCond .eq 5, 3) := by decide +kernel
theorem dX5_ruleRead_26 : decode cX5_ruleRead 26 = .ok (.iconst 1, 1) := by decide +kernel
theorem dX5_ruleRead_27 : decode cX5_ruleRead 27 = .ok (.ireturn, 1) := by decide +kernel
theorem dX5_ruleRead_28 : decode cX5_ruleRead 28 = .ok (.aload_n 0, 1) := by decide +kernel
theorem dX5_ruleRead_29 : decode cX5_ruleRead 29 = .ok (.getfield 22, 3) := by decide +kernel
theorem dX5_ruleRead_32 : decode cX5_ruleRead 32 = .ok (.ldc 175, 2) := by decide +kernel
theorem dX5_ruleRead_34 : decode cX5_ruleRead 34 = .ok (.invokevirtual 43, 3) := by decide +kernel
theorem dX5_ruleRead_37 : decode cX5_ruleRead 37 = .ok (.ifCond .eq 5, 3) := by decide +kernel
theorem dX5_ruleRead_40 : decode cX5_ruleRead 40 = .ok (.iconst 2, 1) := by decide +kernel
theorem dX5_ruleRead_41 : decode cX5_ruleRead 41 = .ok (.ireturn, 1) := by decide +kernel
theorem dX5_ruleRead_42 : decode cX5_ruleRead 42 = .ok (.aload_n 0, 1) := by decide +kernel
theorem dX5_ruleRead_43 : decode cX5_ruleRead 43 = .ok (.getfield 22, 3) := by decide +kernel
theorem dX5_ruleRead_46 : decode cX5_ruleRead 46 = .ok (.ldc 177, 2) := by decide +kernel
theorem dX5_ruleRead_48 : decode cX5_ruleRead 48 = .ok (.invokevirtual 43, 3) := by decide +kernel
theorem dX5_ruleRead_51 : decode cX5_ruleRead 51 = .ok (.ifCond .eq 5, 3) := by decide +kernel
theorem dX5_ruleRead_54 : decode cX5_ruleRead 54 = .ok (.iconst 3, 1) := by decide +kernel
theorem dX5_ruleRead_55 : decode cX5_ruleRead 55 = .ok (.ireturn, 1) := by decide +kernel
theorem dX5_ruleRead_56 : decode cX5_ruleRead 56 = .ok (.aload_n 0, 1) := by decide +kernel
theorem dX5_ruleRead_57 : decode cX5_ruleRead 57 = .ok (.getfield 22, 3) := by decide +kernel
theorem dX5_ruleRead_60 : decode cX5_ruleRead 60 = .ok (.ldc 179, 2) := by decide +kernel
theorem dX5_ruleRead_62 : decode cX5_ruleRead 62 = .ok (.invokevirtual 43, 3) := by decide +kernel
theorem dX5_ruleRead_65 : decode cX5_ruleRead 65 = .ok (.ifCond .eq 5, 3) := by decide +kernel
theorem dX5_ruleRead_68 : decode cX5_ruleRead 68 = .ok (.iconst 4, 1) := by decide +kernel
theorem dX5_ruleRead_69 : decode cX5_ruleRead 69 = .ok (.ireturn, 1) := by decide +kernel
theorem dX5_ruleRead_70 : decode cX5_ruleRead 70 = .ok (.aload_n 0, 1) := by decide +kernel
theorem dX5_ruleRead_71 : decode cX5_ruleRead 71 = .ok (.getfield 22, 3) := by decide +kernel
theorem dX5_ruleRead_74 : decode cX5_ruleRead 74 = .ok (.ldc 181, 2) := by decide +kernel
theorem dX5_ruleRead_76 : decode cX5_ruleRead 76 = .ok (.invokevirtual 43, 3) := by decide +kernel
theorem dX5_ruleRead_79 : decode cX5_ruleRead 79 = .ok (.ifCond .eq 7, 3) := by decide +kernel
theorem dX5_ruleRead_82 : decode cX5_ruleRead 82 = .ok (.iconst 5, 1) := by decide +kernel
theorem dX5_ruleRead_83 : decode cX5_ruleRead 83 = .ok (.goto 4, 3) := by decide +kernel
theorem dX5_ruleRead_86 : decode cX5_ruleRead 86 = .ok (.iconst (-1), 1) := by decide +kernel
theorem dX5_ruleRead_87 : decode cX5_ruleRead 87 = .ok (.ireturn, 1) := by decide +kernel
set_option maxRecDepth 20000 in
theorem dX5_readNewName_0 : decode cX5_readNewName 0 = .ok (.aload_n 0, 1) := by decide +kernel
theorem dX5_readNewName_1 : decode cX5_readNewName 1 = .ok (.getfield 22, 3) := by decide +kernel
theorem dX5_readNewName_4 : decode cX5_readNewName 4 = .ok (.getfield 119, 3) := by decide +kernel
theorem dX5_readNewName_7 : decode cX5_readNewName 7 = .ok (.lstore_n 2, 1) := by decide +kernel
theorem dX5_readNewName_8 : decode cX5_readNewName 8 = .ok (.iload_n 1, 1) := by decide +kernel
theorem dX5_readNewName_9 : decode cX5_readNewName 9 = .ok (.ifCond .eq 14, 3) := by decide +kernel
theorem dX5_readNewName_12 : decode cX5_readNewName 12 = .ok (.aload_n 0, 1) := by decide +kernel
theorem dX5_readNewName_13 : decode cX5_readNewName 13 = .ok (.getfield 12, 3) := by decide +kernel
theorem dX5_readNewName_16 : decode cX5_readNewName 16 = .ok (.lload_n 2, 1) := by decide +kernel
theorem dX5_readNewName_17 : decode cX5_readNewName 17 = .ok (.invokevirtual 123, 3) := by decide +kernel
theorem dX5_readNewName_20 : decode cX5_readNewName 20 = .ok (.goto 11, 3) := by decide +kernel
theorem dX5_readNewName_23 : decode cX5_readNewName 23 = .ok (.aload_n 0, 1) := by decide +kernel
theorem dX5_readNewName_24 : decode cX5_readNewName 24 = .ok (.getfield 12, 3) := by decide +kernel
theorem dX5_readNewName_27 : decode cX5_readNewName 27 = .ok (.lload_n 2, 1) := by decide +kernel
theorem dX5_readNewName_28 : decode cX5_readNewName 28 = .ok (.invokevirtual 147, 3) := by decide +kernel
theorem dX5_readNewName_31 : decode cX5_readNewName 31 = .ok (.istore 4, 2) := by decide +kernel
theorem dX5_readNewName_33 : decode cX5_readNewName 33 = .ok (.aload_n 0, 1) := by decide +kernel
theorem dX5_readNewName_34 : decode cX5_readNewName 34 = .ok (.getfield 22, 3) := by decide +kernel
theorem dX5_readNewName_37 : decode cX5_readNewName 37 = .ok (.getfield 37, 3) := by decide +kernel
theorem dX5_readNewName_40 : decode cX5_readNewName 40 = .ok (.iconst 1, 1) := by decide +kernel
theorem dX5_readNewName_41 : decode cX5_readNewName 41 = .ok (.if_icmp .eq 11, 3) := by decide +kernel
theorem dX5_readNewName_44 : decode cX5_readNewName 44 = .ok (.aload_n 0, 1) := by decide +kernel
theorem dX5_readNewName_45 : decode cX5_readNewName 45 = .ok (.iconst 1, 1) := by decide +kernel
theorem dX5_readNewName_46 : decode cX5_readNewName 46 = .ok (.invokevirtual 73, 3) := by decide +kernel
theorem dX5_readNewName_49 : decode cX5_readNewName 49 = .ok (.goto 24, 3) := by decide +kernel
theorem dX5_readNewName_52 : decode cX5_readNewName 52 = .ok (.iload 4, 2) := by decide +kernel
theorem dX5_readNewName_54 : decode cX5_readNewName 54 = .ok (.iconst (-1), 1) := by decide +kernel
theorem dX5_readNewName_55 : decode cX5_readNewName 55 = .ok (.if_icmp .eq 11, 3) := by decide +kernel
theorem dX5_readNewName_58 : decode cX5_readNewName 58 = .ok (.aload_n 0, 1) := by decide +kernel
theorem dX5_readNewName_59 : decode cX5_readNewName 59 = .ok (.iconst 3, 1) := by decide +kernel
theorem dX5_readNewName_60 : decode cX5_readNewName 60 = .ok (.invokevirtual 73, 3) := by decide +kernel
theorem dX5_readNewName_63 : decode cX5_readNewName 63 = .ok (.goto 10, 3) := by decide +kernel
theorem dX5_readNewName_66 : decode cX5_readNewName 66 = .ok (.aload_n 0, 1) := by decide +kernel
theorem dX5_readNewName_67 : decode cX5_readNewName 67 = .ok (.getfield 22, 3) := by decide +kernel
theorem dX5_readNewName_70 : decode cX5_readNewName 70 = .ok (.invokevirtual 80, 3) := by decide +kernel
theorem dX5_readNewName_73 : decode cX5_readNewName 73 = .ok (.lload_n 2, 1) := by decide +kernel
theorem dX5_readNewName_74 : decode cX5_readNewName 74 = .ok (.lreturn, 1) := by decide +kernel
set_option maxRecDepth 20000 in
theorem dX5_readPerson_0 : decode cX5_readPerson 0 = .ok (.aload_n 0, 1) := by decide +kernel
theorem dX5_readPerson_1 : decode cX5_readPerson 1 = .ok (.getfield 26, 3) := by decide +kernel
theorem dX5_readPerson_4 : decode cX5_readPerson 4 = .ok (.ifCond .eq 5, 3) := by decide +kernel
theorem dX5_readPerson_7 : decode cX5_readPerson 7 = .ok (.iconst (-1), 1) := by decide +kernel
theorem dX5_readPerson_8 : decode cX5_readPerson 8 = .ok (.ireturn, 1) := by decide +kernel
theorem dX5_readPerson_9 : decode cX5_readPerson 9 = .ok (.aload_n 0, 1) := by decide +kernel
theorem dX5_readPerson_10 : decode cX5_readPerson 10 = .ok (.getfield 12, 3) := by decide +kernel
theorem dX5_readPerson_13 : decode cX5_readPerson 13 = .ok (.aload_n 0, 1) := by decide +kernel
theorem dX5_readPerson_14 : decode cX5_readPerson 14 = .ok (.getfield 22, 3) := by decide +kernel
theorem dX5_readPerson_17 : decode cX5_readPerson 17 = .ok (.getfield 119, 3) := by decide +kernel
theorem dX5_readPerson_20 : decode cX5_readPerson 20 = .ok (.invokevirtual 147, 3) := by decide +kernel
theorem dX5_readPerson_23 : decode cX5_readPerson 23 = .ok (.istore_n 1, 1) := by decide +kernel
theorem dX5_readPerson_24 : decode cX5_readPerson 24 = .ok (.aload_n 0, 1) := by decide +kernel
theorem dX5_readPerson_25 : decode cX5_readPerson 25 = .ok (.getfield 22, 3) := by decide +kernel
theorem dX5_readPerson_28 : decode cX5_readPerson 28 = .ok (.getfield 37, 3) := by decide +kernel
theorem dX5_readPerson_31 : decode cX5_readPerson 31 = .ok (.iconst 1, 1) := by decide +kernel
theorem dX5_readPerson_32 : decode cX5_readPerson 32 = .ok (.if_icmp .eq 11, 3) := by decide +kernel
theorem dX5_readPerson_35 : decode cX5_readPerson 35 = .ok (.aload_n 0, 1) := by decide +kernel
theorem dX5_readPerson_36 : decode cX5_readPerson 36 = .ok (.iconst 1, 1) := by decide +kernel
theorem dX5_readPerson_37 : decode cX5_readPerson 37 = .ok (.invokevirtual 73, 3) := by decide +kernel
theorem dX5_readPerson_40 : decode cX5_readPerson 40 = .ok (.goto 23, 3) := by decide +kernel
theorem dX5_readPerson_43 : decode cX5_readPerson 43 = .ok (.iload_n 1, 1) := by decide +kernel
theorem dX5_readPerson_44 : decode cX5_readPerson 44 = .ok (.iconst (-1), 1) := by decide +kernel
theorem dX5_readPerson_45 : decode cX5_readPerson 45 = .ok (.if_icmp .ne 11, 3) := by decide +kernel
theorem dX5_readPerson_48 : decode cX5_readPerson 48 = .ok (.aload_n 0, 1) := by decide +kernel
theorem dX5_readPerson_49 : decode cX5_readPerson 49 = .ok (.iconst 5, 1) := by decide +kernel
theorem dX5_readPerson_50 : decode cX5_readPerson 50 = .ok (.invokevirtual 73, 3) := by decide +kernel
theorem dX5_readPerson_53 : decode cX5_readPerson 53 = .ok (.goto 10, 3) := by decide +kernel
theorem dX5_readPerson_56 : decode cX5_readPerson 56 = .ok (.aload_n 0, 1) := by decide +kernel
theorem dX5_readPerson_57 : decode cX5_readPerson 57 = .ok (.getfield 22, 3) := by decide +kernel
theorem dX5_readPerson_60 : decode cX5_readPerson 60 = .ok (.invokevirtual 80, 3) := by decide +kernel
theorem dX5_readPerson_63 : decode cX5_readPerson 63 = .ok (.iload_n 1, 1) := by decide +kernel
theorem dX5_readPerson_64 : decode cX5_readPerson 64 = .ok (.ireturn, 1) := by decide +kernel
set_option maxRecDepth 20000 in
theorem dX5_readNumber_0 : decode cX5_readNumber 0 = .ok (.aload_n 0, 1) := by decide +kernel
theorem dX5_readNumber_1 : decode cX5_readNumber 1 = .ok (.getfield 26, 3) := by decide +kernel
theorem dX5_readNumber_4 : decode cX5_readNumber 4 = .ok (.ifCond .eq 5, 3) := by decide +kernel
theorem dX5_readNumber_7 : decode cX5_readNumber 7 = .ok (.iconst 0, 1) := by decide +kernel
theorem dX5_readNumber_8 : decode cX5_readNumber 8 = .ok (.ireturn, 1) := by decide +kernel
theorem dX5_readNumber_9 : decode cX5_readNumber 9 = .ok (.aload_n 0, 1) := by decide +kernel
theorem dX5_readNumber_10 : decode cX5_readNumber 10 = .ok (.getfield 22, 3) := by decide +kernel
theorem dX5_readNumber_13 : decode cX5_readNumber 13 = .ok (.getfield 183, 3) := by decide +kernel
theorem dX5_readNumber_16 : decode cX5_readNumber 16 = .ok (.istore_n 3, 1) := by decide +kernel
theorem dX5_readNumber_17 : decode cX5_readNumber 17 = .ok (.aload_n 0, 1) := by decide +kernel
theorem dX5_readNumber_18 : decode cX5_readNumber 18 = .ok (.getfield 22, 3) := by decide +kernel
theorem dX5_readNumber_21 : decode cX5_readNumber 21 = .ok (.getfield 37, 3) := by decide +kernel
theorem dX5_readNumber_24 : decode cX5_readNumber 24 = .ok (.iconst 2, 1) := by decide +kernel
theorem dX5_readNumber_25 : decode cX5_readNumber 25 = .ok (.if_icmp .eq 11, 3) := by decide +kernel
theorem dX5_readNumber_28 : decode cX5_readNumber 28 = .ok (.aload_n 0, 1) := by decide +kernel
theorem dX5_readNumber_29 : decode cX5_readNumber 29 = .ok (.iconst 1, 1) := by decide +kernel
theorem dX5_readNumber_30 : decode cX5_readNumber 30 = .ok (.invokevirtual 73, 3) := by decide +kernel
theorem dX5_readNumber_33 : decode cX5_readNumber 33 = .ok (.goto 28, 3) := by decide +kernel
theorem dX5_readNumber_36 : decode cX5_readNumber 36 = .ok (.iload_n 3, 1) := by decide +kernel
theorem dX5_readNumber_37 : decode cX5_readNumber 37 = .ok (.iload_n 1, 1) := by decide +kernel
theorem dX5_readNumber_38 : decode cX5_readNumber 38 = .ok (.if_icmp .lt 8, 3) := by decide +kernel
theorem dX5_readNumber_41 : decode cX5_readNumber 41 = .ok (.iload_n 3, 1) := by decide +kernel
theorem dX5_readNumber_42 : decode cX5_readNumber 42 = .ok (.iload_n 2, 1) := by decide +kernel
theorem dX5_readNumber_43 : decode cX5_readNumber 43 = .ok (.if_icmp .le 11, 3) := by decide +kernel
theorem dX5_readNumber_46 : decode cX5_readNumber 46 = .ok (.aload_n 0, 1) := by decide +kernel
theorem dX5_readNumber_47 : decode cX5_readNumber 47 = .ok (.iconst 2, 1) := by decide +kernel
theorem dX5_readNumber_48 : decode cX5_readNumber 48 = .ok (.invokevirtual 73, 3) := by decide +kernel
theorem dX5_readNumber_51 : decode cX5_readNumber 51 = .ok (.goto 10, 3) := by decide +kernel
theorem dX5_readNumber_54 : decode cX5_readNumber 54 = .ok (.aload_n 0, 1) := by decide +kernel
theorem dX5_readNumber_55 : decode cX5_readNumber 55 = .ok (.getfield 22, 3) := by decide +kernel
theorem dX5_readNumber_58 : decode cX5_readNumber 58 = .ok (.invokevirtual 80, 3) := by decide +kernel
theorem dX5_readNumber_61 : decode cX5_readNumber 61 = .ok (.iload_n 3, 1) := by decide +kernel
theorem dX5_readNumber_62 : decode cX5_readNumber 62 = .ok (.ireturn, 1) := by decide +kernel
theorem dX5_blame_0 : decode cX5_blame 0 = .ok (.aload_n 0, 1) := by decide +kernel
theorem dX5_blame_1 : decode cX5_blame 1 = .ok (.iload_n 1, 1) := by decide +kernel
theorem dX5_blame_2 : decode cX5_blame 2 = .ok (.putfield 26, 3) := by decide +kernel
theorem dX5_blame_5 : decode cX5_blame 5 = .ok (.aload_n 0, 1) := by decide +kernel
theorem dX5_blame_6 : decode cX5_blame 6 = .ok (.aload_n 0, 1) := by decide +kernel
theorem dX5_blame_7 : decode cX5_blame 7 = .ok (.getfield 22, 3) := by decide +kernel
theorem dX5_blame_10 : decode cX5_blame 10 = .ok (.getfield 186, 3) := by decide +kernel
theorem dX5_blame_13 : decode cX5_blame 13 = .ok (.putfield 18, 3) := by decide +kernel
theorem dX5_blame_16 : decode cX5_blame 16 = .ok (.return_, 1) := by decide +kernel
set_option maxRecDepth 20000 in
theorem dX6_init_0 : decode cX6_init 0 = .ok (.aload_n 0, 1) := by decide +kernel
theorem dX6_init_1 : decode cX6_init 1 = .ok (.invokespecial 3, 3) := by decide +kernel
theorem dX6_init_4 : decode cX6_init 4 = .ok (.aload_n 0, 1) := by decide +kernel
theorem dX6_init_5 : decode cX6_init 5 = .ok (.new 9, 3) := by decide +kernel
theorem dX6_init_8 : decode cX6_init 8 = .ok (.dup, 1) := by decide +kernel
theorem dX6_init_9 : decode cX6_init 9 = .ok (.invokespecial 11, 3) := by decide +kernel
theorem dX6_init_12 : decode cX6_init 12 = .ok (.putfield 12, 3) := by decide +kernel
theorem dX6_init_15 : decode cX6_init 15 = .ok (.aload_n 0, 1) := by decide +kernel
theorem dX6_init_16 : decode cX6_init 16 = .ok (.new 18, 3) := by decide +kernel
theorem dX6_init_19 : decode cX6_init 19 = .ok (.dup, 1) := by decide +kernel
theorem dX6_init_20 : decode cX6_init 20 = .ok (.invokespecial 20, 3) := by decide +kernel
theorem dX6_init_23 : decode cX6_init 23 = .ok (.putfield 21, 3) := by decide +kernel
theorem dX6_init_26 : decode cX6_init 26 = .ok (.aload_n 0, 1) := by decide +kernel
theorem dX6_init_27 : decode cX6_init 27 = .ok (.new 25, 3) := by decide +kernel
theorem dX6_init_30 : decode cX6_init 30 = .ok (.dup, 1) := by decide +kernel
theorem dX6_init_31 : decode cX6_init 31 = .ok (.invokespecial 27, 3) := by decide +kernel
theorem dX6_init_34 : decode cX6_init 34 = .ok (.putfield 28, 3) := by decide +kernel
theorem dX6_init_37 : decode cX6_init 37 = .ok (.aload_n 0, 1) := by decide +kernel
theorem dX6_init_38 : decode cX6_init 38 = .ok (.new 25, 3) := by decide +kernel
theorem dX6_init_41 : decode cX6_init 41 = .ok (.dup, 1) := by decide +kernel
theorem dX6_init_42 : decode cX6_init 42 = .ok (.invokespecial 27, 3) := by decide +kernel
theorem dX6_init_45 : decode cX6_init 45 = .ok (.putfield 32, 3) := by decide +kernel
theorem dX6_init_48 : decode cX6_init 48 = .ok (.aload_n 0, 1) := by decide +kernel
theorem dX6_init_49 : decode cX6_init 49 = .ok (.iconst 5, 1) := by decide +kernel
theorem dX6_init_50 : decode cX6_init 50 = .ok (.anewarray 25, 3) := by decide +kernel
theorem dX6_init_53 : decode cX6_init 53 = .ok (.putfield 35, 3) := by decide +kernel
theorem dX6_init_56 : decode cX6_init 56 = .ok (.aload_n 0, 1) := by decide +kernel
theorem dX6_init_57 : decode cX6_init 57 = .ok (.iconst 5, 1) := by decide +kernel
theorem dX6_init_58 : decode cX6_init 58 = .ok (.newarray .int, 2) := by decide +kernel
theorem dX6_init_60 : decode cX6_init 60 = .ok (.putfield 39, 3) := by decide +kernel
theorem dX6_init_63 : decode cX6_init 63 = .ok (.aload_n 0, 1) := by decide +kernel
theorem dX6_init_64 : decode cX6_init 64 = .ok (.new 43, 3) := by decide +kernel
theorem dX6_init_67 : decode cX6_init 67 = .ok (.dup, 1) := by decide +kernel
theorem dX6_init_68 : decode cX6_init 68 = .ok (.invokespecial 45, 3) := by decide +kernel
theorem dX6_init_71 : decode cX6_init 71 = .ok (.putfield 46, 3) := by decide +kernel
theorem dX6_init_74 : decode cX6_init 74 = .ok (.aload_n 0, 1) := by decide +kernel
theorem dX6_init_75 : decode cX6_init 75 = .ok (.sipush 7776, 3) := by decide +kernel
theorem dX6_init_78 : decode cX6_init 78 = .ok (.newarray .long, 2) := by decide +kernel
theorem dX6_init_80 : decode cX6_init 80 = .ok (.putfield 50, 3) := by decide +kernel
theorem dX6_init_83 : decode cX6_init 83 = .ok (.aload_n 0, 1) := by decide +kernel
theorem dX6_init_84 : decode cX6_init 84 = .ok (.iconst 5, 1) := by decide +kernel
theorem dX6_init_85 : decode cX6_init 85 = .ok (.newarray .int, 2) := by decide +kernel
theorem dX6_init_87 : decode cX6_init 87 = .ok (.putfield 54, 3) := by decide +kernel
theorem dX6_init_90 : decode cX6_init 90 = .ok (.iconst 0, 1) := by decide +kernel
theorem dX6_init_91 : decode cX6_init 91 = .ok (.istore_n 1, 1) := by decide +kernel
theorem dX6_init_92 : decode cX6_init 92 = .ok (.iload_n 1, 1) := by decide +kernel
theorem dX6_init_93 : decode cX6_init 93 = .ok (.iconst 4, 1) := by decide +kernel
theorem dX6_init_94 : decode cX6_init 94 = .ok (.if_icmp .gt 22, 3) := by decide +kernel
theorem dX6_init_97 : decode cX6_init 97 = .ok (.aload_n 0, 1) := by decide +kernel
theorem dX6_init_98 : decode cX6_init 98 = .ok (.getfield 35, 3) := by decide +kernel
theorem dX6_init_101 : decode cX6_init 101 = .ok (.iload_n 1, 1) := by decide +kernel
theorem dX6_init_102 : decode cX6_init 102 = .ok (.new 25, 3) := by decide +kernel
theorem dX6_init_105 : decode cX6_init 105 = .ok (.dup, 1) := by decide +kernel
theorem dX6_init_106 : decode cX6_init 106 = .ok (.invokespecial 27, 3) := by decide +kernel
theorem dX6_init_109 : decode cX6_init 109 = .ok (.aastore, 1) := by decide +kernel
theorem dX6_init_110 : decode cX6_init 110 = .ok (.iinc 1 1, 3) := by decide +kernel
theorem dX6_init_113 : decode cX6_init 113 = .ok (.goto (-21), 3) := by decide +kernel
theorem dX6_init_116 : decode cX6_init 116 = .ok (.return_, 1) := by decide +kernel
set_option maxRecDepth 20000 in
theorem dX6_setOut_0 : decode cX6_setOut 0 = .ok (.aload_n 0, 1) := by decide +kernel
theorem dX6_setOut_1 : decode cX6_setOut 1 = .ok (.getfield 12, 3) := by decide +kernel
theorem dX6_setOut_4 : decode cX6_setOut 4 = .ok (.aload_n 1, 1) := by decide +kernel
theorem dX6_setOut_5 : decode cX6_setOut 5 = .ok (.invokevirtual 57, 3) := by decide +kernel
theorem dX6_setOut_8 : decode cX6_setOut 8 = .ok (.aload_n 0, 1) := by decide +kernel
theorem dX6_setOut_9 : decode cX6_setOut 9 = .ok (.getfield 21, 3) := by decide +kernel
theorem dX6_setOut_12 : decode cX6_setOut 12 = .ok (.aload_n 2, 1) := by decide +kernel
theorem dX6_setOut_13 : decode cX6_setOut 13 = .ok (.getfield 61, 3) := by decide +kernel
theorem dX6_setOut_16 : decode cX6_setOut 16 = .ok (.invokevirtual 64, 3) := by decide +kernel
theorem dX6_setOut_19 : decode cX6_setOut 19 = .ok (.aload_n 0, 1) := by decide +kernel
theorem dX6_setOut_20 : decode cX6_setOut 20 = .ok (.getfield 28, 3) := by decide +kernel
theorem dX6_setOut_23 : decode cX6_setOut 23 = .ok (.aload_n 2, 1) := by decide +kernel
theorem dX6_setOut_24 : decode cX6_setOut 24 = .ok (.getfield 67, 3) := by decide +kernel
theorem dX6_setOut_27 : decode cX6_setOut 27 = .ok (.invokevirtual 68, 3) := by decide +kernel
theorem dX6_setOut_30 : decode cX6_setOut 30 = .ok (.return_, 1) := by decide +kernel
theorem dX6_placeOf_0 : decode cX6_placeOf 0 = .ok (.iload_n 1, 1) := by decide +kernel
theorem dX6_placeOf_1 : decode cX6_placeOf 1 = .ok (.aload_n 0, 1) := by decide +kernel
theorem dX6_placeOf_2 : decode cX6_placeOf 2 = .ok (.getfield 12, 3) := by decide +kernel
theorem dX6_placeOf_5 : decode cX6_placeOf 5 = .ok (.getfield 71, 3) := by decide +kernel
theorem dX6_placeOf_8 : decode cX6_placeOf 8 = .ok (.if_icmp .ge 7, 3) := by decide +kernel
theorem dX6_placeOf_11 : decode cX6_placeOf 11 = .ok (.iload_n 1, 1) := by decide +kernel
theorem dX6_placeOf_12 : decode cX6_placeOf 12 = .ok (.goto 4, 3) := by decide +kernel
theorem dX6_placeOf_15 : decode cX6_placeOf 15 = .ok (.iconst (-1), 1) := by decide +kernel
theorem dX6_placeOf_16 : decode cX6_placeOf 16 = .ok (.ireturn, 1) := by decide +kernel
set_option maxRecDepth 20000 in
theorem dX6_runQuarters_0 : decode cX6_runQuarters 0 = .ok (.aload_n 0, 1) := by decide +kernel
theorem dX6_runQuarters_1 : decode cX6_runQuarters 1 = .ok (.getfield 32, 3) := by decide +kernel
theorem dX6_runQuarters_4 : decode cX6_runQuarters 4 = .ok (.aload_n 0, 1) := by decide +kernel
theorem dX6_runQuarters_5 : decode cX6_runQuarters 5 = .ok (.getfield 28, 3) := by decide +kernel
theorem dX6_runQuarters_8 : decode cX6_runQuarters 8 = .ok (.invokevirtual 68, 3) := by decide +kernel
theorem dX6_runQuarters_11 : decode cX6_runQuarters 11 = .ok (.iconst 0, 1) := by decide +kernel
theorem dX6_runQuarters_12 : decode cX6_runQuarters 12 = .ok (.istore_n 2, 1) := by decide +kernel
theorem dX6_runQuarters_13 : decode cX6_runQuarters 13 = .ok (.iload_n 2, 1) := by decide +kernel
theorem dX6_runQuarters_14 : decode cX6_runQuarters 14 = .ok (.iload_n 1, 1) := by decide +kernel
theorem dX6_runQuarters_15 : decode cX6_runQuarters 15 = .ok (.if_icmp .ge 53, 3) := by decide +kernel
theorem dX6_runQuarters_18 : decode cX6_runQuarters 18 = .ok (.aload_n 0, 1) := by decide +kernel
theorem dX6_runQuarters_19 : decode cX6_runQuarters 19 = .ok (.getfield 21, 3) := by decide +kernel
theorem dX6_runQuarters_22 : decode cX6_runQuarters 22 = .ok (.aload_n 0, 1) := by decide +kernel
theorem dX6_runQuarters_23 : decode cX6_runQuarters 23 = .ok (.getfield 12, 3) := by decide +kernel
theorem dX6_runQuarters_26 : decode cX6_runQuarters 26 = .ok (.aload_n 0, 1) := by decide +kernel
theorem dX6_runQuarters_27 : decode cX6_runQuarters 27 = .ok (.getfield 32, 3) := by decide +kernel
theorem dX6_runQuarters_30 : decode cX6_runQuarters 30 = .ok (.getfield 75, 3) := by decide +kernel
theorem dX6_runQuarters_33 : decode cX6_runQuarters 33 = .ok (.aload_n 0, 1) := by decide +kernel
theorem dX6_runQuarters_34 : decode cX6_runQuarters 34 = .ok (.getfield 39, 3) := by decide +kernel
theorem dX6_runQuarters_37 : decode cX6_runQuarters 37 = .ok (.invokevirtual 78, 3) := by decide +kernel
theorem dX6_runQuarters_40 : decode cX6_runQuarters 40 = .ok (.aload_n 0, 1) := by decide +kernel
theorem dX6_runQuarters_41 : decode cX6_runQuarters 41 = .ok (.getfield 32, 3) := by decide +kernel
theorem dX6_runQuarters_44 : decode cX6_runQuarters 44 = .ok (.aload_n 0, 1) := by decide +kernel
theorem dX6_runQuarters_45 : decode cX6_runQuarters 45 = .ok (.getfield 12, 3) := by decide +kernel
theorem dX6_runQuarters_48 : decode cX6_runQuarters 48 = .ok (.aload_n 0, 1) := by decide +kernel
theorem dX6_runQuarters_49 : decode cX6_runQuarters 49 = .ok (.getfield 21, 3) := by decide +kernel
theorem dX6_runQuarters_52 : decode cX6_runQuarters 52 = .ok (.getfield 82, 3) := by decide +kernel
theorem dX6_runQuarters_55 : decode cX6_runQuarters 55 = .ok (.aload_n 0, 1) := by decide +kernel
theorem dX6_runQuarters_56 : decode cX6_runQuarters 56 = .ok (.getfield 39, 3) := by decide +kernel
theorem dX6_runQuarters_59 : decode cX6_runQuarters 59 = .ok (.invokevirtual 85, 3) := by decide +kernel
theorem dX6_runQuarters_62 : decode cX6_runQuarters 62 = .ok (.iinc 2 1, 3) := by decide +kernel
theorem dX6_runQuarters_65 : decode cX6_runQuarters 65 = .ok (.goto (-52), 3) := by decide +kernel
theorem dX6_runQuarters_68 : decode cX6_runQuarters 68 = .ok (.return_, 1) := by decide +kernel
set_option maxRecDepth 20000 in
theorem dX6_sumOf_0 : decode cX6_sumOf 0 = .ok (.aload_n 0, 1) := by decide +kernel
theorem dX6_sumOf_1 : decode cX6_sumOf 1 = .ok (.iconst 4, 1) := by decide +kernel
theorem dX6_sumOf_2 : decode cX6_sumOf 2 = .ok (.invokevirtual 89, 3) := by decide +kernel
theorem dX6_sumOf_5 : decode cX6_sumOf 5 = .ok (.aload_n 0, 1) := by decide +kernel
theorem dX6_sumOf_6 : decode cX6_sumOf 6 = .ok (.getfield 32, 3) := by decide +kernel
theorem dX6_sumOf_9 : decode cX6_sumOf 9 = .ok (.getfield 93, 3) := by decide +kernel
theorem dX6_sumOf_12 : decode cX6_sumOf 12 = .ok (.iload_n 1, 1) := by decide +kernel
theorem dX6_sumOf_13 : decode cX6_sumOf 13 = .ok (.iaload, 1) := by decide +kernel
theorem dX6_sumOf_14 : decode cX6_sumOf 14 = .ok (.aload_n 0, 1) := by decide +kernel
theorem dX6_sumOf_15 : decode cX6_sumOf 15 = .ok (.getfield 28, 3) := by decide +kernel
theorem dX6_sumOf_18 : decode cX6_sumOf 18 = .ok (.getfield 93, 3) := by decide +kernel
theorem dX6_sumOf_21 : decode cX6_sumOf 21 = .ok (.iload_n 1, 1) := by decide +kernel
theorem dX6_sumOf_22 : decode cX6_sumOf 22 = .ok (.iaload, 1) := by decide +kernel
theorem dX6_sumOf_23 : decode cX6_sumOf 23 = .ok (.isub, 1) := by decide +kernel
theorem dX6_sumOf_24 : decode cX6_sumOf 24 = .ok (.ireturn, 1) := by decide +kernel
set_option maxRecDepth 20000 in
theorem dX6_findBest_0 : decode cX6_findBest 0 = .ok (.aload_n 0, 1) := by decide +kernel
theorem dX6_findBest_1 : decode cX6_findBest 1 = .ok (.ldc 96, 2) := by decide +kernel
theorem dX6_findBest_3 : decode cX6_findBest 3 = .ok (.putfield 97, 3) := by decide +kernel
theorem dX6_findBest_6 : decode cX6_findBest 6 = .ok (.aload_n 0, 1) := by decide +kernel
theorem dX6_findBest_7 : decode cX6_findBest 7 = .ok (.iconst 0, 1) := by decide +kernel
theorem dX6_findBest_8 : decode cX6_findBest 8 = .ok (.putfield 100, 3) := by decide +kernel
theorem dX6_findBest_11 : decode cX6_findBest 11 = .ok (.aload_n 0, 1) := by decide +kernel
theorem dX6_findBest_12 : decode cX6_findBest 12 = .ok (.getfield 46, 3) := by decide +kernel
theorem dX6_findBest_15 : decode cX6_findBest 15 = .ok (.iconst 4, 1) := by decide +kernel
theorem dX6_findBest_16 : decode cX6_findBest 16 = .ok (.aload_n 0, 1) := by decide +kernel
theorem dX6_findBest_17 : decode cX6_findBest 17 = .ok (.getfield 12, 3) := by decide +kernel
theorem dX6_findBest_20 : decode cX6_findBest 20 = .ok (.getfield 71, 3) := by decide +kernel
theorem dX6_findBest_23 : decode cX6_findBest 23 = .ok (.iconst 1, 1) := by decide +kernel
theorem dX6_findBest_24 : decode cX6_findBest 24 = .ok (.iadd, 1) := by decide +kernel
theorem dX6_findBest_25 : decode cX6_findBest 25 = .ok (.invokevirtual 103, 3) := by decide +kernel
theorem dX6_findBest_28 : decode cX6_findBest 28 = .ok (.aload_n 0, 1) := by decide +kernel
theorem dX6_findBest_29 : decode cX6_findBest 29 = .ok (.getfield 35, 3) := by decide +kernel
theorem dX6_findBest_32 : decode cX6_findBest 32 = .ok (.iconst 0, 1) := by decide +kernel
theorem dX6_findBest_33 : decode cX6_findBest 33 = .ok (.aaload, 1) := by decide +kernel
theorem dX6_findBest_34 : decode cX6_findBest 34 = .ok (.aload_n 0, 1) := by decide +kernel
theorem dX6_findBest_35 : decode cX6_findBest 35 = .ok (.getfield 28, 3) := by decide +kernel
theorem dX6_findBest_38 : decode cX6_findBest 38 = .ok (.invokevirtual 68, 3) := by decide +kernel
theorem dX6_findBest_41 : decode cX6_findBest 41 = .ok (.iconst 0, 1) := by decide +kernel
theorem dX6_findBest_42 : decode cX6_findBest 42 = .ok (.istore_n 2, 1) := by decide +kernel
theorem dX6_findBest_43 : decode cX6_findBest 43 = .ok (.iconst 0, 1) := by decide +kernel
theorem dX6_findBest_44 : decode cX6_findBest 44 = .ok (.istore_n 3, 1) := by decide +kernel
theorem dX6_findBest_45 : decode cX6_findBest 45 = .ok (.iload_n 3, 1) := by decide +kernel
theorem dX6_findBest_46 : decode cX6_findBest 46 = .ok (.sipush 7776, 3) := by decide +kernel
theorem dX6_findBest_49 : decode cX6_findBest 49 = .ok (.if_icmp .ge 49, 3) := by decide +kernel
theorem dX6_findBest_52 : decode cX6_findBest 52 = .ok (.iload_n 2, 1) := by decide +kernel
theorem dX6_findBest_53 : decode cX6_findBest 53 = .ok (.iconst (-1), 1) := by decide +kernel
theorem dX6_findBest_54 : decode cX6_findBest 54 = .ok (.if_icmp .eq 44, 3) := by decide +kernel
theorem dX6_findBest_57 : decode cX6_findBest 57 = .ok (.iload_n 2, 1) := by decide +kernel
theorem dX6_findBest_58 : decode cX6_findBest 58 = .ok (.istore 4, 2) := by decide +kernel
theorem dX6_findBest_60 : decode cX6_findBest 60 = .ok (.iload 4, 2) := by decide +kernel
theorem dX6_findBest_62 : decode cX6_findBest 62 = .ok (.iconst 4, 1) := by decide +kernel
theorem dX6_findBest_63 : decode cX6_findBest 63 = .ok (.if_icmp .ge 16, 3) := by decide +kernel
theorem dX6_findBest_66 : decode cX6_findBest 66 = .ok (.aload_n 0, 1) := by decide +kernel
theorem dX6_findBest_67 : decode cX6_findBest 67 = .ok (.iload 4, 2) := by decide +kernel
theorem dX6_findBest_69 : decode cX6_findBest 69 = .ok (.iload_n 1, 1) := by decide +kernel
theorem dX6_findBest_70 : decode cX6_findBest 70 = .ok (.invokevirtual 107, 3) := by decide +kernel
theorem dX6_findBest_73 : decode cX6_findBest 73 = .ok (.iinc 4 1, 3) := by decide +kernel
theorem dX6_findBest_76 : decode cX6_findBest 76 = .ok (.goto (-16), 3) := by decide +kernel
theorem dX6_findBest_79 : decode cX6_findBest 79 = .ok (.aload_n 0, 1) := by decide +kernel
theorem dX6_findBest_80 : decode cX6_findBest 80 = .ok (.iload_n 1, 1) := by decide +kernel
theorem dX6_findBest_81 : decode cX6_findBest 81 = .ok (.invokevirtual 110, 3) := by decide +kernel
theorem dX6_findBest_84 : decode cX6_findBest 84 = .ok (.aload_n 0, 1) := by decide +kernel
theorem dX6_findBest_85 : decode cX6_findBest 85 = .ok (.getfield 46, 3) := by decide +kernel
theorem dX6_findBest_88 : decode cX6_findBest 88 = .ok (.invokevirtual 113, 3) := by decide +kernel
theorem dX6_findBest_91 : decode cX6_findBest 91 = .ok (.istore_n 2, 1) := by decide +kernel
theorem dX6_findBest_92 : decode cX6_findBest 92 = .ok (.iinc 3 1, 3) := by decide +kernel
theorem dX6_findBest_95 : decode cX6_findBest 95 = .ok (.goto (-50), 3) := by decide +kernel
theorem dX6_findBest_98 : decode cX6_findBest 98 = .ok (.return_, 1) := by decide +kernel
set_option maxRecDepth 20000 in
theorem dX6_passOfDay_0 : decode cX6_passOfDay 0 = .ok (.aload_n 0, 1) := by decide +kernel
theorem dX6_passOfDay_1 : decode cX6_passOfDay 1 = .ok (.getfield 35, 3) := by decide +kernel
theorem dX6_passOfDay_4 : decode cX6_passOfDay 4 = .ok (.iload_n 1, 1) := by decide +kernel
theorem dX6_passOfDay_5 : decode cX6_passOfDay 5 = .ok (.aaload, 1) := by decide +kernel
theorem dX6_passOfDay_6 : decode cX6_passOfDay 6 = .ok (.astore_n 3, 1) := by decide +kernel
theorem dX6_passOfDay_7 : decode cX6_passOfDay 7 = .ok (.aload_n 0, 1) := by decide +kernel
theorem dX6_passOfDay_8 : decode cX6_passOfDay 8 = .ok (.getfield 21, 3) := by decide +kernel
theorem dX6_passOfDay_11 : decode cX6_passOfDay 11 = .ok (.aload_n 0, 1) := by decide +kernel
theorem dX6_passOfDay_12 : decode cX6_passOfDay 12 = .ok (.getfield 12, 3) := by decide +kernel
theorem dX6_passOfDay_15 : decode cX6_passOfDay 15 = .ok (.aload_n 3, 1) := by decide +kernel
theorem dX6_passOfDay_16 : decode cX6_passOfDay 16 = .ok (.getfield 75, 3) := by decide +kernel
theorem dX6_passOfDay_19 : decode cX6_passOfDay 19 = .ok (.aload_n 0, 1) := by decide +kernel
theorem dX6_passOfDay_20 : decode cX6_passOfDay 20 = .ok (.getfield 39, 3) := by decide +kernel
theorem dX6_passOfDay_23 : decode cX6_passOfDay 23 = .ok (.invokevirtual 78, 3) := by decide +kernel
theorem dX6_passOfDay_26 : decode cX6_passOfDay 26 = .ok (.aload_n 0, 1) := by decide +kernel
theorem dX6_passOfDay_27 : decode cX6_passOfDay 27 = .ok (.getfield 12, 3) := by decide +kernel
theorem dX6_passOfDay_30 : decode cX6_passOfDay 30 = .ok (.iload_n 2, 1) := by decide +kernel
theorem dX6_passOfDay_31 : decode cX6_passOfDay 31 = .ok (.aload_n 3, 1) := by decide +kernel
theorem dX6_passOfDay_32 : decode cX6_passOfDay 32 = .ok (.getfield 75, 3) := by decide +kernel
theorem dX6_passOfDay_35 : decode cX6_passOfDay 35 = .ok (.invokevirtual 116, 3) := by decide +kernel
theorem dX6_passOfDay_38 : decode cX6_passOfDay 38 = .ok (.ifCond .ne 22, 3) := by decide +kernel
theorem dX6_passOfDay_41 : decode cX6_passOfDay 41 = .ok (.aload_n 0, 1) := by decide +kernel
theorem dX6_passOfDay_42 : decode cX6_passOfDay 42 = .ok (.getfield 39, 3) := by decide +kernel
theorem dX6_passOfDay_45 : decode cX6_passOfDay 45 = .ok (.iload_n 2, 1) := by decide +kernel
theorem dX6_passOfDay_46 : decode cX6_passOfDay 46 = .ok (.aload_n 0, 1) := by decide +kernel
theorem dX6_passOfDay_47 : decode cX6_passOfDay 47 = .ok (.aload_n 0, 1) := by decide +kernel
theorem dX6_passOfDay_48 : decode cX6_passOfDay 48 = .ok (.getfield 46, 3) := by decide +kernel
theorem dX6_passOfDay_51 : decode cX6_passOfDay 51 = .ok (.getfield 120, 3) := by decide +kernel
theorem dX6_passOfDay_54 : decode cX6_passOfDay 54 = .ok (.iload_n 1, 1) := by decide +kernel
theorem dX6_passOfDay_55 : decode cX6_passOfDay 55 = .ok (.iaload, 1) := by decide +kernel
theorem dX6_passOfDay_56 : decode cX6_passOfDay 56 = .ok (.invokevirtual 123, 3) := by decide +kernel
theorem dX6_passOfDay_59 : decode cX6_passOfDay 59 = .ok (.iastore, 1) := by decide +kernel
theorem dX6_passOfDay_60 : decode cX6_passOfDay 60 = .ok (.aload_n 0, 1) := by decide +kernel
theorem dX6_passOfDay_61 : decode cX6_passOfDay 61 = .ok (.getfield 35, 3) := by decide +kernel
theorem dX6_passOfDay_64 : decode cX6_passOfDay 64 = .ok (.iload_n 1, 1) := by decide +kernel
theorem dX6_passOfDay_65 : decode cX6_passOfDay 65 = .ok (.iconst 1, 1) := by decide +kernel
theorem dX6_passOfDay_66 : decode cX6_passOfDay 66 = .ok (.iadd, 1) := by decide +kernel
theorem dX6_passOfDay_67 : decode cX6_passOfDay 67 = .ok (.aaload, 1) := by decide +kernel
theorem dX6_passOfDay_68 : decode cX6_passOfDay 68 = .ok (.astore 4, 2) := by decide +kernel
theorem dX6_passOfDay_70 : decode cX6_passOfDay 70 = .ok (.aload 4, 2) := by decide +kernel
theorem dX6_passOfDay_72 : decode cX6_passOfDay 72 = .ok (.aload_n 3, 1) := by decide +kernel
theorem dX6_passOfDay_73 : decode cX6_passOfDay 73 = .ok (.invokevirtual 68, 3) := by decide +kernel
theorem dX6_passOfDay_76 : decode cX6_passOfDay 76 = .ok (.aload 4, 2) := by decide +kernel
theorem dX6_passOfDay_78 : decode cX6_passOfDay 78 = .ok (.aload_n 0, 1) := by decide +kernel
theorem dX6_passOfDay_79 : decode cX6_passOfDay 79 = .ok (.getfield 12, 3) := by decide +kernel
theorem dX6_passOfDay_82 : decode cX6_passOfDay 82 = .ok (.aload_n 0, 1) := by decide +kernel
theorem dX6_passOfDay_83 : decode cX6_passOfDay 83 = .ok (.getfield 21, 3) := by decide +kernel
theorem dX6_passOfDay_86 : decode cX6_passOfDay 86 = .ok (.getfield 82, 3) := by decide +kernel
theorem dX6_passOfDay_89 : decode cX6_passOfDay 89 = .ok (.aload_n 0, 1) := by decide +kernel
theorem dX6_passOfDay_90 : decode cX6_passOfDay 90 = .ok (.getfield 39, 3) := by decide +kernel
theorem dX6_passOfDay_93 : decode cX6_passOfDay 93 = .ok (.invokevirtual 85, 3) := by decide +kernel
theorem dX6_passOfDay_96 : decode cX6_passOfDay 96 = .ok (.return_, 1) := by decide +kernel
theorem dX6_judgeDay_0 : decode cX6_judgeDay 0 = .ok (.aload_n 0, 1) := by decide +kernel
theorem dX6_judgeDay_1 : decode cX6_judgeDay 1 = .ok (.getfield 35, 3) := by decide +kernel
theorem dX6_judgeDay_4 : decode cX6_judgeDay 4 = .ok (.iconst 4, 1) := by decide +kernel
theorem dX6_judgeDay_5 : decode cX6_judgeDay 5 = .ok (.aaload, 1) := by decide +kernel
theorem dX6_judgeDay_6 : decode cX6_judgeDay 6 = .ok (.getfield 93, 3) := by decide +kernel
theorem dX6_judgeDay_9 : decode cX6_judgeDay 9 = .ok (.iload_n 1, 1) := by decide +kernel
theorem dX6_judgeDay_10 : decode cX6_judgeDay 10 = .ok (.iaload, 1) := by decide +kernel
theorem dX6_judgeDay_11 : decode cX6_judgeDay 11 = .ok (.aload_n 0, 1) := by decide +kernel
theorem dX6_judgeDay_12 : decode cX6_judgeDay 12 = .ok (.getfield 28, 3) := by decide +kernel
theorem dX6_judgeDay_15 : decode cX6_judgeDay 15 = .ok (.getfield 93, 3) := by decide +kernel
theorem dX6_judgeDay_18 : decode cX6_judgeDay 18 = .ok (.iload_n 1, 1) := by decide +kernel
theorem dX6_judgeDay_19 : decode cX6_judgeDay 19 = .ok (.iaload, 1) := by decide +kernel
theorem dX6_judgeDay_20 : decode cX6_judgeDay 20 = .ok (.isub, 1) := by decide +kernel
theorem dX6_judgeDay_21 : decode cX6_judgeDay 21 = .ok (.istore_n 2, 1) := by decide +kernel
theorem dX6_judgeDay_22 : decode cX6_judgeDay 22 = .ok (.iconst 0, 1) := by decide +kernel
theorem dX6_judgeDay_23 : decode cX6_judgeDay 23 = .ok (.istore_n 3, 1) := by decide +kernel
theorem dX6_judgeDay_24 : decode cX6_judgeDay 24 = .ok (.iconst 0, 1) := by decide +kernel
theorem dX6_judgeDay_25 : decode cX6_judgeDay 25 = .ok (.istore 4, 2) := by decide +kernel
theorem dX6_judgeDay_27 : decode cX6_judgeDay 27 = .ok (.iload 4, 2) := by decide +kernel
theorem dX6_judgeDay_29 : decode cX6_judgeDay 29 = .ok (.iconst 4, 1) := by decide +kernel
theorem dX6_judgeDay_30 : decode cX6_judgeDay 30 = .ok (.if_icmp .ge 43, 3) := by decide +kernel
theorem dX6_judgeDay_33 : decode cX6_judgeDay 33 = .ok (.aload_n 0, 1) := by decide +kernel
theorem dX6_judgeDay_34 : decode cX6_judgeDay 34 = .ok (.getfield 28, 3) := by decide +kernel
theorem dX6_judgeDay_37 : decode cX6_judgeDay 37 = .ok (.getfield 75, 3) := by decide +kernel
theorem dX6_judgeDay_40 : decode cX6_judgeDay 40 = .ok (.iload 4, 2) := by decide +kernel
theorem dX6_judgeDay_42 : decode cX6_judgeDay 42 = .ok (.iadd, 1) := by decide +kernel
theorem dX6_judgeDay_43 : decode cX6_judgeDay 43 = .ok (.iconst 3, 1) := by decide +kernel
theorem dX6_judgeDay_44 : decode cX6_judgeDay 44 = .ok (.iand, 1) := by decide +kernel
theorem dX6_judgeDay_45 : decode cX6_judgeDay 45 = .ok (.istore 5, 2) := by decide +kernel
theorem dX6_judgeDay_47 : decode cX6_judgeDay 47 = .ok (.iload_n 3, 1) := by decide +kernel
theorem dX6_judgeDay_48 : decode cX6_judgeDay 48 = .ok (.aload_n 0, 1) := by decide +kernel
theorem dX6_judgeDay_49 : decode cX6_judgeDay 49 = .ok (.getfield 46, 3) := by decide +kernel
theorem dX6_judgeDay_52 : decode cX6_judgeDay 52 = .ok (.getfield 120, 3) := by decide +kernel
theorem dX6_judgeDay_55 : decode cX6_judgeDay 55 = .ok (.iload 4, 2) := by decide +kernel
theorem dX6_judgeDay_57 : decode cX6_judgeDay 57 = .ok (.iaload, 1) := by decide +kernel
theorem dX6_judgeDay_58 : decode cX6_judgeDay 58 = .ok (.iconst 3, 1) := by decide +kernel
theorem dX6_judgeDay_59 : decode cX6_judgeDay 59 = .ok (.iconst 3, 1) := by decide +kernel
theorem dX6_judgeDay_60 : decode cX6_judgeDay 60 = .ok (.iload 5, 2) := by decide +kernel
theorem dX6_judgeDay_62 : decode cX6_judgeDay 62 = .ok (.isub, 1) := by decide +kernel
theorem dX6_judgeDay_63 : decode cX6_judgeDay 63 = .ok (.imul, 1) := by decide +kernel
theorem dX6_judgeDay_64 : decode cX6_judgeDay 64 = .ok (.ishl, 1) := by decide +kernel
theorem dX6_judgeDay_65 : decode cX6_judgeDay 65 = .ok (.ior, 1) := by decide +kernel
theorem dX6_judgeDay_66 : decode cX6_judgeDay 66 = .ok (.istore_n 3, 1) := by decide +kernel
theorem dX6_judgeDay_67 : decode cX6_judgeDay 67 = .ok (.iinc 4 1, 3) := by decide +kernel
theorem dX6_judgeDay_70 : decode cX6_judgeDay 70 = .ok (.goto (-43), 3) := by decide +kernel
theorem dX6_judgeDay_73 : decode cX6_judgeDay 73 = .ok (.iload_n 2, 1) := by decide +kernel
theorem dX6_judgeDay_74 : decode cX6_judgeDay 74 = .ok (.aload_n 0, 1) := by decide +kernel
theorem dX6_judgeDay_75 : decode cX6_judgeDay 75 = .ok (.getfield 97, 3) := by decide +kernel
theorem dX6_judgeDay_78 : decode cX6_judgeDay 78 = .ok (.if_icmp .gt 19, 3) := by decide +kernel
theorem dX6_judgeDay_81 : decode cX6_judgeDay 81 = .ok (.iload_n 2, 1) := by decide +kernel
theorem dX6_judgeDay_82 : decode cX6_judgeDay 82 = .ok (.aload_n 0, 1) := by decide +kernel
theorem dX6_judgeDay_83 : decode cX6_judgeDay 83 = .ok (.getfield 97, 3) := by decide +kernel
theorem dX6_judgeDay_86 : decode cX6_judgeDay 86 = .ok (.if_icmp .ne 21, 3) := by decide +kernel
theorem dX6_judgeDay_89 : decode cX6_judgeDay 89 = .ok (.iload_n 3, 1) := by decide +kernel
theorem dX6_judgeDay_90 : decode cX6_judgeDay 90 = .ok (.aload_n 0, 1) := by decide +kernel
theorem dX6_judgeDay_91 : decode cX6_judgeDay 91 = .ok (.getfield 100, 3) := by decide +kernel
theorem dX6_judgeDay_94 : decode cX6_judgeDay 94 = .ok (.if_icmp .ge 13, 3) := by decide +kernel
theorem dX6_judgeDay_97 : decode cX6_judgeDay 97 = .ok (.aload_n 0, 1) := by decide +kernel
theorem dX6_judgeDay_98 : decode cX6_judgeDay 98 = .ok (.iload_n 2, 1) := by decide +kernel
theorem dX6_judgeDay_99 : decode cX6_judgeDay 99 = .ok (.putfield 97, 3) := by decide +kernel
theorem dX6_judgeDay_102 : decode cX6_judgeDay 102 = .ok (.aload_n 0, 1) := by decide +kernel
theorem dX6_judgeDay_103 : decode cX6_judgeDay 103 = .ok (.iload_n 3, 1) := by decide +kernel
theorem dX6_judgeDay_104 : decode cX6_judgeDay 104 = .ok (.putfield 100, 3) := by decide +kernel
theorem dX6_judgeDay_107 : decode cX6_judgeDay 107 = .ok (.return_, 1) := by decide +kernel
set_option maxRecDepth 20000 in
theorem dX6_bestPlace_0 : decode cX6_bestPlace 0 = .ok (.aload_n 0, 1) := by decide +kernel
theorem dX6_bestPlace_1 : decode cX6_bestPlace 1 = .ok (.aload_n 0, 1) := by decide +kernel
theorem dX6_bestPlace_2 : decode cX6_bestPlace 2 = .ok (.getfield 100, 3) := by decide +kernel
theorem dX6_bestPlace_5 : decode cX6_bestPlace 5 = .ok (.iconst 3, 1) := by decide +kernel
theorem dX6_bestPlace_6 : decode cX6_bestPlace 6 = .ok (.iconst 3, 1) := by decide +kernel
theorem dX6_bestPlace_7 : decode cX6_bestPlace 7 = .ok (.iload_n 1, 1) := by decide +kernel
theorem dX6_bestPlace_8 : decode cX6_bestPlace 8 = .ok (.isub, 1) := by decide +kernel
theorem dX6_bestPlace_9 : decode cX6_bestPlace 9 = .ok (.imul, 1) := by decide +kernel
theorem dX6_bestPlace_10 : decode cX6_bestPlace 10 = .ok (.ishr, 1) := by decide +kernel
theorem dX6_bestPlace_11 : decode cX6_bestPlace 11 = .ok (.bipush 7, 2) := by decide +kernel
theorem dX6_bestPlace_13 : decode cX6_bestPlace 13 = .ok (.iand, 1) := by decide +kernel
theorem dX6_bestPlace_14 : decode cX6_bestPlace 14 = .ok (.invokevirtual 123, 3) := by decide +kernel
theorem dX6_bestPlace_17 : decode cX6_bestPlace 17 = .ok (.ireturn, 1) := by decide +kernel
set_option maxRecDepth 20000 in
theorem dX6_settleAll_0 : decode cX6_settleAll 0 = .ok (.iconst 1, 1) := by decide +kernel
theorem dX6_settleAll_1 : decode cX6_settleAll 1 = .ok (.istore_n 1, 1) := by decide +kernel
theorem dX6_settleAll_2 : decode cX6_settleAll 2 = .ok (.iload_n 1, 1) := by decide +kernel
theorem dX6_settleAll_3 : decode cX6_settleAll 3 = .ok (.bipush 9, 2) := by decide +kernel
theorem dX6_settleAll_5 : decode cX6_settleAll 5 = .ok (.if_icmp .gt 64, 3) := by decide +kernel
theorem dX6_settleAll_8 : decode cX6_settleAll 8 = .ok (.iconst 1, 1) := by decide +kernel
theorem dX6_settleAll_9 : decode cX6_settleAll 9 = .ok (.istore_n 2, 1) := by decide +kernel
theorem dX6_settleAll_10 : decode cX6_settleAll 10 = .ok (.iconst 0, 1) := by decide +kernel
theorem dX6_settleAll_11 : decode cX6_settleAll 11 = .ok (.istore_n 3, 1) := by decide +kernel
theorem dX6_settleAll_12 : decode cX6_settleAll 12 = .ok (.iload_n 3, 1) := by decide +kernel
theorem dX6_settleAll_13 : decode cX6_settleAll 13 = .ok (.aload_n 0, 1) := by decide +kernel
theorem dX6_settleAll_14 : decode cX6_settleAll 14 = .ok (.getfield 12, 3) := by decide +kernel
theorem dX6_settleAll_17 : decode cX6_settleAll 17 = .ok (.getfield 127, 3) := by decide +kernel
theorem dX6_settleAll_20 : decode cX6_settleAll 20 = .ok (.if_icmp .ge 37, 3) := by decide +kernel
theorem dX6_settleAll_23 : decode cX6_settleAll 23 = .ok (.aload_n 0, 1) := by decide +kernel
theorem dX6_settleAll_24 : decode cX6_settleAll 24 = .ok (.iload_n 3, 1) := by decide +kernel
theorem dX6_settleAll_25 : decode cX6_settleAll 25 = .ok (.invokevirtual 130, 3) := by decide +kernel
theorem dX6_settleAll_28 : decode cX6_settleAll 28 = .ok (.istore 4, 2) := by decide +kernel
theorem dX6_settleAll_30 : decode cX6_settleAll 30 = .ok (.aload_n 0, 1) := by decide +kernel
theorem dX6_settleAll_31 : decode cX6_settleAll 31 = .ok (.iload_n 3, 1) := by decide +kernel
theorem dX6_settleAll_32 : decode cX6_settleAll 32 = .ok (.invokevirtual 133, 3) := by decide +kernel
theorem dX6_settleAll_35 : decode cX6_settleAll 35 = .ok (.aload_n 0, 1) := by decide +kernel
theorem dX6_settleAll_36 : decode cX6_settleAll 36 = .ok (.getfield 97, 3) := by decide +kernel
theorem dX6_settleAll_39 : decode cX6_settleAll 39 = .ok (.iload 4, 2) := by decide +kernel
theorem dX6_settleAll_41 : decode cX6_settleAll 41 = .ok (.if_icmp .le 10, 3) := by decide +kernel
theorem dX6_settleAll_44 : decode cX6_settleAll 44 = .ok (.iconst 0, 1) := by decide +kernel
theorem dX6_settleAll_45 : decode cX6_settleAll 45 = .ok (.istore_n 2, 1) := by decide +kernel
theorem dX6_settleAll_46 : decode cX6_settleAll 46 = .ok (.aload_n 0, 1) := by decide +kernel
theorem dX6_settleAll_47 : decode cX6_settleAll 47 = .ok (.iload_n 3, 1) := by decide +kernel
theorem dX6_settleAll_48 : decode cX6_settleAll 48 = .ok (.invokevirtual 136, 3) := by decide +kernel
theorem dX6_settleAll_51 : decode cX6_settleAll 51 = .ok (.iinc 3 1, 3) := by decide +kernel
theorem dX6_settleAll_54 : decode cX6_settleAll 54 = .ok (.goto (-42), 3) := by decide +kernel
theorem dX6_settleAll_57 : decode cX6_settleAll 57 = .ok (.iload_n 2, 1) := by decide +kernel
theorem dX6_settleAll_58 : decode cX6_settleAll 58 = .ok (.ifCond .eq 5, 3) := by decide +kernel
theorem dX6_settleAll_61 : decode cX6_settleAll 61 = .ok (.iload_n 1, 1) := by decide +kernel
theorem dX6_settleAll_62 : decode cX6_settleAll 62 = .ok (.ireturn, 1) := by decide +kernel
theorem dX6_settleAll_63 : decode cX6_settleAll 63 = .ok (.iinc 1 1, 3) := by decide +kernel
theorem dX6_settleAll_66 : decode cX6_settleAll 66 = .ok (.goto (-64), 3) := by decide +kernel
theorem dX6_settleAll_69 : decode cX6_settleAll 69 = .ok (.iconst (-1), 1) := by decide +kernel
theorem dX6_settleAll_70 : decode cX6_settleAll 70 = .ok (.ireturn, 1) := by decide +kernel
set_option maxRecDepth 20000 in
theorem dX6_planBest_0 : decode cX6_planBest 0 = .ok (.iconst 0, 1) := by decide +kernel
theorem dX6_planBest_1 : decode cX6_planBest 1 = .ok (.istore_n 2, 1) := by decide +kernel
theorem dX6_planBest_2 : decode cX6_planBest 2 = .ok (.iload_n 2, 1) := by decide +kernel
theorem dX6_planBest_3 : decode cX6_planBest 3 = .ok (.iconst 4, 1) := by decide +kernel
theorem dX6_planBest_4 : decode cX6_planBest 4 = .ok (.if_icmp .ge 27, 3) := by decide +kernel
theorem dX6_planBest_7 : decode cX6_planBest 7 = .ok (.aload_n 0, 1) := by decide +kernel
theorem dX6_planBest_8 : decode cX6_planBest 8 = .ok (.getfield 21, 3) := by decide +kernel
theorem dX6_planBest_11 : decode cX6_planBest 11 = .ok (.getfield 139, 3) := by decide +kernel
theorem dX6_planBest_14 : decode cX6_planBest 14 = .ok (.iload_n 1, 1) := by decide +kernel
theorem dX6_planBest_15 : decode cX6_planBest 15 = .ok (.iconst 4, 1) := by decide +kernel
theorem dX6_planBest_16 : decode cX6_planBest 16 = .ok (.imul, 1) := by decide +kernel
theorem dX6_planBest_17 : decode cX6_planBest 17 = .ok (.iload_n 2, 1) := by decide +kernel
theorem dX6_planBest_18 : decode cX6_planBest 18 = .ok (.iadd, 1) := by decide +kernel
theorem dX6_planBest_19 : decode cX6_planBest 19 = .ok (.aload_n 0, 1) := by decide +kernel
theorem dX6_planBest_20 : decode cX6_planBest 20 = .ok (.iload_n 2, 1) := by decide +kernel
theorem dX6_planBest_21 : decode cX6_planBest 21 = .ok (.invokevirtual 142, 3) := by decide +kernel
theorem dX6_planBest_24 : decode cX6_planBest 24 = .ok (.iastore, 1) := by decide +kernel
theorem dX6_planBest_25 : decode cX6_planBest 25 = .ok (.iinc 2 1, 3) := by decide +kernel
theorem dX6_planBest_28 : decode cX6_planBest 28 = .ok (.goto (-26), 3) := by decide +kernel
theorem dX6_planBest_31 : decode cX6_planBest 31 = .ok (.return_, 1) := by decide +kernel
set_option maxRecDepth 20000 in
theorem dX6_findRest_0 : decode cX6_findRest 0 = .ok (.aload_n 0, 1) := by decide +kernel
theorem dX6_findRest_1 : decode cX6_findRest 1 = .ok (.invokevirtual 145, 3) := by decide +kernel
theorem dX6_findRest_4 : decode cX6_findRest 4 = .ok (.aload_n 0, 1) := by decide +kernel
theorem dX6_findRest_5 : decode cX6_findRest 5 = .ok (.invokevirtual 148, 3) := by decide +kernel
theorem dX6_findRest_8 : decode cX6_findRest 8 = .ok (.iconst 0, 1) := by decide +kernel
theorem dX6_findRest_9 : decode cX6_findRest 9 = .ok (.istore_n 2, 1) := by decide +kernel
theorem dX6_findRest_10 : decode cX6_findRest 10 = .ok (.iconst 0, 1) := by decide +kernel
theorem dX6_findRest_11 : decode cX6_findRest 11 = .ok (.istore_n 3, 1) := by decide +kernel
theorem dX6_findRest_12 : decode cX6_findRest 12 = .ok (.iconst 0, 1) := by decide +kernel
theorem dX6_findRest_13 : decode cX6_findRest 13 = .ok (.istore 4, 2) := by decide +kernel
theorem dX6_findRest_15 : decode cX6_findRest 15 = .ok (.iload 4, 2) := by decide +kernel
theorem dX6_findRest_17 : decode cX6_findRest 17 = .ok (.sipush 7776, 3) := by decide +kernel
theorem dX6_findRest_20 : decode cX6_findRest 20 = .ok (.if_icmp .ge 47, 3) := by decide +kernel
theorem dX6_findRest_23 : decode cX6_findRest 23 = .ok (.iload_n 3, 1) := by decide +kernel
theorem dX6_findRest_24 : decode cX6_findRest 24 = .ok (.iconst (-1), 1) := by decide +kernel
theorem dX6_findRest_25 : decode cX6_findRest 25 = .ok (.if_icmp .eq 42, 3) := by decide +kernel
theorem dX6_findRest_28 : decode cX6_findRest 28 = .ok (.aload_n 0, 1) := by decide +kernel
theorem dX6_findRest_29 : decode cX6_findRest 29 = .ok (.iload 4, 2) := by decide +kernel
theorem dX6_findRest_31 : decode cX6_findRest 31 = .ok (.invokevirtual 151, 3) := by decide +kernel
theorem dX6_findRest_34 : decode cX6_findRest 34 = .ok (.ifCond .eq 19, 3) := by decide +kernel
theorem dX6_findRest_37 : decode cX6_findRest 37 = .ok (.iinc 2 1, 3) := by decide +kernel
theorem dX6_findRest_40 : decode cX6_findRest 40 = .ok (.iload_n 2, 1) := by decide +kernel
theorem dX6_findRest_41 : decode cX6_findRest 41 = .ok (.iload_n 1, 1) := by decide +kernel
theorem dX6_findRest_42 : decode cX6_findRest 42 = .ok (.iconst 1, 1) := by decide +kernel
theorem dX6_findRest_43 : decode cX6_findRest 43 = .ok (.iadd, 1) := by decide +kernel
theorem dX6_findRest_44 : decode cX6_findRest 44 = .ok (.if_icmp .ne 9, 3) := by decide +kernel
theorem dX6_findRest_47 : decode cX6_findRest 47 = .ok (.aload_n 0, 1) := by decide +kernel
theorem dX6_findRest_48 : decode cX6_findRest 48 = .ok (.invokevirtual 155, 3) := by decide +kernel
theorem dX6_findRest_51 : decode cX6_findRest 51 = .ok (.iload_n 2, 1) := by decide +kernel
theorem dX6_findRest_52 : decode cX6_findRest 52 = .ok (.ireturn, 1) := by decide +kernel
theorem dX6_findRest_53 : decode cX6_findRest 53 = .ok (.aload_n 0, 1) := by decide +kernel
theorem dX6_findRest_54 : decode cX6_findRest 54 = .ok (.getfield 46, 3) := by decide +kernel
theorem dX6_findRest_57 : decode cX6_findRest 57 = .ok (.invokevirtual 113, 3) := by decide +kernel
theorem dX6_findRest_60 : decode cX6_findRest 60 = .ok (.istore_n 3, 1) := by decide +kernel
theorem dX6_findRest_61 : decode cX6_findRest 61 = .ok (.iinc 4 1, 3) := by decide +kernel
theorem dX6_findRest_64 : decode cX6_findRest 64 = .ok (.goto (-49), 3) := by decide +kernel
theorem dX6_findRest_67 : decode cX6_findRest 67 = .ok (.iload_n 2, 1) := by decide +kernel
theorem dX6_findRest_68 : decode cX6_findRest 68 = .ok (.ireturn, 1) := by decide +kernel
set_option maxRecDepth 20000 in
theorem dX6_beginRows_0 : decode cX6_beginRows 0 = .ok (.aload_n 0, 1) := by decide +kernel
theorem dX6_beginRows_1 : decode cX6_beginRows 1 = .ok (.getfield 46, 3) := by decide +kernel
theorem dX6_beginRows_4 : decode cX6_beginRows 4 = .ok (.aload_n 0, 1) := by decide +kernel
theorem dX6_beginRows_5 : decode cX6_beginRows 5 = .ok (.getfield 12, 3) := by decide +kernel
theorem dX6_beginRows_8 : decode cX6_beginRows 8 = .ok (.getfield 127, 3) := by decide +kernel
theorem dX6_beginRows_11 : decode cX6_beginRows 11 = .ok (.aload_n 0, 1) := by decide +kernel
theorem dX6_beginRows_12 : decode cX6_beginRows 12 = .ok (.getfield 12, 3) := by decide +kernel
theorem dX6_beginRows_15 : decode cX6_beginRows 15 = .ok (.getfield 71, 3) := by decide +kernel
theorem dX6_beginRows_18 : decode cX6_beginRows 18 = .ok (.iconst 1, 1) := by decide +kernel
theorem dX6_beginRows_19 : decode cX6_beginRows 19 = .ok (.iadd, 1) := by decide +kernel
theorem dX6_beginRows_20 : decode cX6_beginRows 20 = .ok (.invokevirtual 103, 3) := by decide +kernel
theorem dX6_beginRows_23 : decode cX6_beginRows 23 = .ok (.iconst 1, 1) := by decide +kernel
theorem dX6_beginRows_24 : decode cX6_beginRows 24 = .ok (.istore_n 1, 1) := by decide +kernel
theorem dX6_beginRows_25 : decode cX6_beginRows 25 = .ok (.aload_n 0, 1) := by decide +kernel
theorem dX6_beginRows_26 : decode cX6_beginRows 26 = .ok (.getfield 12, 3) := by decide +kernel
theorem dX6_beginRows_29 : decode cX6_beginRows 29 = .ok (.getfield 127, 3) := by decide +kernel
theorem dX6_beginRows_32 : decode cX6_beginRows 32 = .ok (.iconst 1, 1) := by decide +kernel
theorem dX6_beginRows_33 : decode cX6_beginRows 33 = .ok (.isub, 1) := by decide +kernel
theorem dX6_beginRows_34 : decode cX6_beginRows 34 = .ok (.istore_n 2, 1) := by decide +kernel
theorem dX6_beginRows_35 : decode cX6_beginRows 35 = .ok (.iload_n 2, 1) := by decide +kernel
theorem dX6_beginRows_36 : decode cX6_beginRows 36 = .ok (.ifCond .lt 56, 3) := by decide +kernel
theorem dX6_beginRows_39 : decode cX6_beginRows 39 = .ok (.aload_n 0, 1) := by decide +kernel
theorem dX6_beginRows_40 : decode cX6_beginRows 40 = .ok (.getfield 12, 3) := by decide +kernel
theorem dX6_beginRows_43 : decode cX6_beginRows 43 = .ok (.iload_n 2, 1) := by decide +kernel
theorem dX6_beginRows_44 : decode cX6_beginRows 44 = .ok (.aload_n 0, 1) := by decide +kernel
theorem dX6_beginRows_45 : decode cX6_beginRows 45 = .ok (.getfield 28, 3) := by decide +kernel
theorem dX6_beginRows_48 : decode cX6_beginRows 48 = .ok (.getfield 75, 3) := by decide +kernel
theorem dX6_beginRows_51 : decode cX6_beginRows 51 = .ok (.invokevirtual 116, 3) := by decide +kernel
theorem dX6_beginRows_54 : decode cX6_beginRows 54 = .ok (.ifCond .eq 13, 3) := by decide +kernel
theorem dX6_beginRows_57 : decode cX6_beginRows 57 = .ok (.aload_n 0, 1) := by decide +kernel
theorem dX6_beginRows_58 : decode cX6_beginRows 58 = .ok (.getfield 46, 3) := by decide +kernel
theorem dX6_beginRows_61 : decode cX6_beginRows 61 = .ok (.getfield 158, 3) := by decide +kernel
theorem dX6_beginRows_64 : decode cX6_beginRows 64 = .ok (.iload_n 2, 1) := by decide +kernel
theorem dX6_beginRows_65 : decode cX6_beginRows 65 = .ok (.iconst 1, 1) := by decide +kernel
theorem dX6_beginRows_66 : decode cX6_beginRows 66 = .ok (.iastore, 1) := by decide +kernel
theorem dX6_beginRows_67 : decode cX6_beginRows 67 = .ok (.aload_n 0, 1) := by decide +kernel
theorem dX6_beginRows_68 : decode cX6_beginRows 68 = .ok (.getfield 54, 3) := by decide +kernel
theorem dX6_beginRows_71 : decode cX6_beginRows 71 = .ok (.iload_n 2, 1) := by decide +kernel
theorem dX6_beginRows_72 : decode cX6_beginRows 72 = .ok (.iload_n 1, 1) := by decide +kernel
theorem dX6_beginRows_73 : decode cX6_beginRows 73 = .ok (.iastore, 1) := by decide +kernel
theorem dX6_beginRows_74 : decode cX6_beginRows 74 = .ok (.iload_n 1, 1) := by decide +kernel
theorem dX6_beginRows_75 : decode cX6_beginRows 75 = .ok (.aload_n 0, 1) := by decide +kernel
theorem dX6_beginRows_76 : decode cX6_beginRows 76 = .ok (.getfield 46, 3) := by decide +kernel
theorem dX6_beginRows_79 : decode cX6_beginRows 79 = .ok (.getfield 158, 3) := by decide +kernel
theorem dX6_beginRows_82 : decode cX6_beginRows 82 = .ok (.iload_n 2, 1) := by decide +kernel
theorem dX6_beginRows_83 : decode cX6_beginRows 83 = .ok (.iaload, 1) := by decide +kernel
theorem dX6_beginRows_84 : decode cX6_beginRows 84 = .ok (.imul, 1) := by decide +kernel
theorem dX6_beginRows_85 : decode cX6_beginRows 85 = .ok (.istore_n 1, 1) := by decide +kernel
theorem dX6_beginRows_86 : decode cX6_beginRows 86 = .ok (.iinc 2 (-1), 3) := by decide +kernel
theorem dX6_beginRows_89 : decode cX6_beginRows 89 = .ok (.goto (-54), 3) := by decide +kernel
theorem dX6_beginRows_92 : decode cX6_beginRows 92 = .ok (.return_, 1) := by decide +kernel
set_option maxRecDepth 20000 in
theorem dX6_wishRow_0 : decode cX6_wishRow 0 = .ok (.iconst 0, 1) := by decide +kernel
theorem dX6_wishRow_1 : decode cX6_wishRow 1 = .ok (.istore_n 1, 1) := by decide +kernel
theorem dX6_wishRow_2 : decode cX6_wishRow 2 = .ok (.iload_n 1, 1) := by decide +kernel
theorem dX6_wishRow_3 : decode cX6_wishRow 3 = .ok (.aload_n 0, 1) := by decide +kernel
theorem dX6_wishRow_4 : decode cX6_wishRow 4 = .ok (.getfield 12, 3) := by decide +kernel
theorem dX6_wishRow_7 : decode cX6_wishRow 7 = .ok (.getfield 127, 3) := by decide +kernel
theorem dX6_wishRow_10 : decode cX6_wishRow 10 = .ok (.if_icmp .ge 50, 3) := by decide +kernel
theorem dX6_wishRow_13 : decode cX6_wishRow 13 = .ok (.aload_n 0, 1) := by decide +kernel
theorem dX6_wishRow_14 : decode cX6_wishRow 14 = .ok (.getfield 39, 3) := by decide +kernel
theorem dX6_wishRow_17 : decode cX6_wishRow 17 = .ok (.iload_n 1, 1) := by decide +kernel
theorem dX6_wishRow_18 : decode cX6_wishRow 18 = .ok (.aload_n 0, 1) := by decide +kernel
theorem dX6_wishRow_19 : decode cX6_wishRow 19 = .ok (.getfield 12, 3) := by decide +kernel
theorem dX6_wishRow_22 : decode cX6_wishRow 22 = .ok (.iload_n 1, 1) := by decide +kernel
theorem dX6_wishRow_23 : decode cX6_wishRow 23 = .ok (.aload_n 0, 1) := by decide +kernel
theorem dX6_wishRow_24 : decode cX6_wishRow 24 = .ok (.getfield 28, 3) := by decide +kernel
theorem dX6_wishRow_27 : decode cX6_wishRow 27 = .ok (.getfield 75, 3) := by decide +kernel
theorem dX6_wishRow_30 : decode cX6_wishRow 30 = .ok (.invokevirtual 116, 3) := by decide +kernel
theorem dX6_wishRow_33 : decode cX6_wishRow 33 = .ok (.ifCond .eq 7, 3) := by decide +kernel
theorem dX6_wishRow_36 : decode cX6_wishRow 36 = .ok (.iconst (-1), 1) := by decide +kernel
theorem dX6_wishRow_37 : decode cX6_wishRow 37 = .ok (.goto 16, 3) := by decide +kernel
theorem dX6_wishRow_40 : decode cX6_wishRow 40 = .ok (.aload_n 0, 1) := by decide +kernel
theorem dX6_wishRow_41 : decode cX6_wishRow 41 = .ok (.aload_n 0, 1) := by decide +kernel
theorem dX6_wishRow_42 : decode cX6_wishRow 42 = .ok (.getfield 46, 3) := by decide +kernel
theorem dX6_wishRow_45 : decode cX6_wishRow 45 = .ok (.getfield 120, 3) := by decide +kernel
theorem dX6_wishRow_48 : decode cX6_wishRow 48 = .ok (.iload_n 1, 1) := by decide +kernel
theorem dX6_wishRow_49 : decode cX6_wishRow 49 = .ok (.iaload, 1) := by decide +kernel
theorem dX6_wishRow_50 : decode cX6_wishRow 50 = .ok (.invokevirtual 123, 3) := by decide +kernel
theorem dX6_wishRow_53 : decode cX6_wishRow 53 = .ok (.iastore, 1) := by decide +kernel
theorem dX6_wishRow_54 : decode cX6_wishRow 54 = .ok (.iinc 1 1, 3) := by decide +kernel
theorem dX6_wishRow_57 : decode cX6_wishRow 57 = .ok (.goto (-55), 3) := by decide +kernel
theorem dX6_wishRow_60 : decode cX6_wishRow 60 = .ok (.return_, 1) := by decide +kernel
set_option maxRecDepth 20000 in
theorem dX6_gainByWishes_0 : decode cX6_gainByWishes 0 = .ok (.aload_n 0, 1) := by decide +kernel
theorem dX6_gainByWishes_1 : decode cX6_gainByWishes 1 = .ok (.getfield 32, 3) := by decide +kernel
theorem dX6_gainByWishes_4 : decode cX6_gainByWishes 4 = .ok (.aload_n 0, 1) := by decide +kernel
theorem dX6_gainByWishes_5 : decode cX6_gainByWishes 5 = .ok (.getfield 28, 3) := by decide +kernel
theorem dX6_gainByWishes_8 : decode cX6_gainByWishes 8 = .ok (.invokevirtual 68, 3) := by decide +kernel
theorem dX6_gainByWishes_11 : decode cX6_gainByWishes 11 = .ok (.aload_n 0, 1) := by decide +kernel
theorem dX6_gainByWishes_12 : decode cX6_gainByWishes 12 = .ok (.getfield 32, 3) := by decide +kernel
theorem dX6_gainByWishes_15 : decode cX6_gainByWishes 15 = .ok (.aload_n 0, 1) := by decide +kernel
theorem dX6_gainByWishes_16 : decode cX6_gainByWishes 16 = .ok (.getfield 12, 3) := by decide +kernel
theorem dX6_gainByWishes_19 : decode cX6_gainByWishes 19 = .ok (.aload_n 0, 1) := by decide +kernel
theorem dX6_gainByWishes_20 : decode cX6_gainByWishes 20 = .ok (.getfield 21, 3) := by decide +kernel
theorem dX6_gainByWishes_23 : decode cX6_gainByWishes 23 = .ok (.getfield 82, 3) := by decide +kernel
theorem dX6_gainByWishes_26 : decode cX6_gainByWishes 26 = .ok (.aload_n 0, 1) := by decide +kernel
theorem dX6_gainByWishes_27 : decode cX6_gainByWishes 27 = .ok (.getfield 39, 3) := by decide +kernel
theorem dX6_gainByWishes_30 : decode cX6_gainByWishes 30 = .ok (.invokevirtual 85, 3) := by decide +kernel
theorem dX6_gainByWishes_33 : decode cX6_gainByWishes 33 = .ok (.aload_n 0, 1) := by decide +kernel
theorem dX6_gainByWishes_34 : decode cX6_gainByWishes 34 = .ok (.getfield 32, 3) := by decide +kernel
theorem dX6_gainByWishes_37 : decode cX6_gainByWishes 37 = .ok (.getfield 161, 3) := by decide +kernel
theorem dX6_gainByWishes_40 : decode cX6_gainByWishes 40 = .ok (.iload_n 1, 1) := by decide +kernel
theorem dX6_gainByWishes_41 : decode cX6_gainByWishes 41 = .ok (.iaload, 1) := by decide +kernel
theorem dX6_gainByWishes_42 : decode cX6_gainByWishes 42 = .ok (.ireturn, 1) := by decide +kernel
set_option maxRecDepth 20000 in
theorem dX6_fillGains_0 : decode cX6_fillGains 0 = .ok (.aload_n 0, 1) := by decide +kernel
theorem dX6_fillGains_1 : decode cX6_fillGains 1 = .ok (.invokevirtual 148, 3) := by decide +kernel
theorem dX6_fillGains_4 : decode cX6_fillGains 4 = .ok (.iconst 0, 1) := by decide +kernel
theorem dX6_fillGains_5 : decode cX6_fillGains 5 = .ok (.istore_n 1, 1) := by decide +kernel
theorem dX6_fillGains_6 : decode cX6_fillGains 6 = .ok (.iconst 0, 1) := by decide +kernel
theorem dX6_fillGains_7 : decode cX6_fillGains 7 = .ok (.istore_n 2, 1) := by decide +kernel
theorem dX6_fillGains_8 : decode cX6_fillGains 8 = .ok (.iload_n 2, 1) := by decide +kernel
theorem dX6_fillGains_9 : decode cX6_fillGains 9 = .ok (.sipush 7776, 3) := by decide +kernel
theorem dX6_fillGains_12 : decode cX6_fillGains 12 = .ok (.if_icmp .ge 69, 3) := by decide +kernel
theorem dX6_fillGains_15 : decode cX6_fillGains 15 = .ok (.iload_n 1, 1) := by decide +kernel
theorem dX6_fillGains_16 : decode cX6_fillGains 16 = .ok (.iconst (-1), 1) := by decide +kernel
theorem dX6_fillGains_17 : decode cX6_fillGains 17 = .ok (.if_icmp .eq 64, 3) := by decide +kernel
theorem dX6_fillGains_20 : decode cX6_fillGains 20 = .ok (.aload_n 0, 1) := by decide +kernel
theorem dX6_fillGains_21 : decode cX6_fillGains 21 = .ok (.invokevirtual 155, 3) := by decide +kernel
theorem dX6_fillGains_24 : decode cX6_fillGains 24 = .ok (.aload_n 0, 1) := by decide +kernel
theorem dX6_fillGains_25 : decode cX6_fillGains 25 = .ok (.getfield 32, 3) := by decide +kernel
theorem dX6_fillGains_28 : decode cX6_fillGains 28 = .ok (.aload_n 0, 1) := by decide +kernel
theorem dX6_fillGains_29 : decode cX6_fillGains 29 = .ok (.getfield 28, 3) := by decide +kernel
theorem dX6_fillGains_32 : decode cX6_fillGains 32 = .ok (.invokevirtual 68, 3) := by decide +kernel
theorem dX6_fillGains_35 : decode cX6_fillGains 35 = .ok (.aload_n 0, 1) := by decide +kernel
theorem dX6_fillGains_36 : decode cX6_fillGains 36 = .ok (.getfield 32, 3) := by decide +kernel
theorem dX6_fillGains_39 : decode cX6_fillGains 39 = .ok (.aload_n 0, 1) := by decide +kernel
theorem dX6_fillGains_40 : decode cX6_fillGains 40 = .ok (.getfield 12, 3) := by decide +kernel
theorem dX6_fillGains_43 : decode cX6_fillGains 43 = .ok (.aload_n 0, 1) := by decide +kernel
theorem dX6_fillGains_44 : decode cX6_fillGains 44 = .ok (.getfield 21, 3) := by decide +kernel
theorem dX6_fillGains_47 : decode cX6_fillGains 47 = .ok (.getfield 82, 3) := by decide +kernel
theorem dX6_fillGains_50 : decode cX6_fillGains 50 = .ok (.aload_n 0, 1) := by decide +kernel
theorem dX6_fillGains_51 : decode cX6_fillGains 51 = .ok (.getfield 39, 3) := by decide +kernel
theorem dX6_fillGains_54 : decode cX6_fillGains 54 = .ok (.invokevirtual 85, 3) := by decide +kernel
theorem dX6_fillGains_57 : decode cX6_fillGains 57 = .ok (.aload_n 0, 1) := by decide +kernel
theorem dX6_fillGains_58 : decode cX6_fillGains 58 = .ok (.getfield 50, 3) := by decide +kernel
theorem dX6_fillGains_61 : decode cX6_fillGains 61 = .ok (.iload_n 2, 1) := by decide +kernel
theorem dX6_fillGains_62 : decode cX6_fillGains 62 = .ok (.aload_n 0, 1) := by decide +kernel
theorem dX6_fillGains_63 : decode cX6_fillGains 63 = .ok (.invokevirtual 164, 3) := by decide +kernel
theorem dX6_fillGains_66 : decode cX6_fillGains 66 = .ok (.lastore, 1) := by decide +kernel
theorem dX6_fillGains_67 : decode cX6_fillGains 67 = .ok (.aload_n 0, 1) := by decide +kernel
theorem dX6_fillGains_68 : decode cX6_fillGains 68 = .ok (.getfield 46, 3) := by decide +kernel
theorem dX6_fillGains_71 : decode cX6_fillGains 71 = .ok (.invokevirtual 113, 3) := by decide +kernel
theorem dX6_fillGains_74 : decode cX6_fillGains 74 = .ok (.istore_n 1, 1) := by decide +kernel
theorem dX6_fillGains_75 : decode cX6_fillGains 75 = .ok (.iinc 2 1, 3) := by decide +kernel
theorem dX6_fillGains_78 : decode cX6_fillGains 78 = .ok (.goto (-70), 3) := by decide +kernel
theorem dX6_fillGains_81 : decode cX6_fillGains 81 = .ok (.return_, 1) := by decide +kernel
theorem dX6_packedGains_0 : decode cX6_packedGains 0 = .ok (.lconst 0, 1) := by decide +kernel
theorem dX6_packedGains_1 : decode cX6_packedGains 1 = .ok (.lstore_n 1, 1) := by decide +kernel
theorem dX6_packedGains_2 : decode cX6_packedGains 2 = .ok (.aload_n 0, 1) := by decide +kernel
theorem dX6_packedGains_3 : decode cX6_packedGains 3 = .ok (.getfield 12, 3) := by decide +kernel
theorem dX6_packedGains_6 : decode cX6_packedGains 6 = .ok (.getfield 127, 3) := by decide +kernel
theorem dX6_packedGains_9 : decode cX6_packedGains 9 = .ok (.iconst 1, 1) := by decide +kernel
theorem dX6_packedGains_10 : decode cX6_packedGains 10 = .ok (.isub, 1) := by decide +kernel
theorem dX6_packedGains_11 : decode cX6_packedGains 11 = .ok (.istore_n 3, 1) := by decide +kernel
theorem dX6_packedGains_12 : decode cX6_packedGains 12 = .ok (.iload_n 3, 1) := by decide +kernel
theorem dX6_packedGains_13 : decode cX6_packedGains 13 = .ok (.ifCond .lt 33, 3) := by decide +kernel
theorem dX6_packedGains_16 : decode cX6_packedGains 16 = .ok (.lload_n 1, 1) := by decide +kernel
theorem dX6_packedGains_17 : decode cX6_packedGains 17 = .ok (.bipush 8, 2) := by decide +kernel
theorem dX6_packedGains_19 : decode cX6_packedGains 19 = .ok (.lshl, 1) := by decide +kernel
theorem dX6_packedGains_20 : decode cX6_packedGains 20 = .ok (.aload_n 0, 1) := by decide +kernel
theorem dX6_packedGains_21 : decode cX6_packedGains 21 = .ok (.getfield 32, 3) := by decide +kernel
theorem dX6_packedGains_24 : decode cX6_packedGains 24 = .ok (.getfield 161, 3) := by decide +kernel
theorem dX6_packedGains_27 : decode cX6_packedGains 27 = .ok (.iload_n 3, 1) := by decide +kernel
theorem dX6_packedGains_28 : decode cX6_packedGains 28 = .ok (.iaload, 1) := by decide +kernel
theorem dX6_packedGains_29 : decode cX6_packedGains 29 = .ok (.sipush 128, 3) := by decide +kernel
theorem dX6_packedGains_32 : decode cX6_packedGains 32 = .ok (.iadd, 1) := by decide +kernel
theorem dX6_packedGains_33 : decode cX6_packedGains 33 = .ok (.sipush 255, 3) := by decide +kernel
theorem dX6_packedGains_36 : decode cX6_packedGains 36 = .ok (.iand, 1) := by decide +kernel
theorem dX6_packedGains_37 : decode cX6_packedGains 37 = .ok (.i2l, 1) := by decide +kernel
theorem dX6_packedGains_38 : decode cX6_packedGains 38 = .ok (.lor, 1) := by decide +kernel
theorem dX6_packedGains_39 : decode cX6_packedGains 39 = .ok (.lstore_n 1, 1) := by decide +kernel
theorem dX6_packedGains_40 : decode cX6_packedGains 40 = .ok (.iinc 3 (-1), 3) := by decide +kernel
theorem dX6_packedGains_43 : decode cX6_packedGains 43 = .ok (.goto (-31), 3) := by decide +kernel
theorem dX6_packedGains_46 : decode cX6_packedGains 46 = .ok (.lload_n 1, 1) := by decide +kernel
theorem dX6_packedGains_47 : decode cX6_packedGains 47 = .ok (.lreturn, 1) := by decide +kernel
set_option maxRecDepth 20000 in
theorem dX6_isRest_0 : decode cX6_isRest 0 = .ok (.iconst 0, 1) := by decide +kernel
theorem dX6_isRest_1 : decode cX6_isRest 1 = .ok (.istore_n 2, 1) := by decide +kernel
theorem dX6_isRest_2 : decode cX6_isRest 2 = .ok (.iload_n 2, 1) := by decide +kernel
theorem dX6_isRest_3 : decode cX6_isRest 3 = .ok (.aload_n 0, 1) := by decide +kernel
theorem dX6_isRest_4 : decode cX6_isRest 4 = .ok (.getfield 12, 3) := by decide +kernel
theorem dX6_isRest_7 : decode cX6_isRest 7 = .ok (.getfield 127, 3) := by decide +kernel
theorem dX6_isRest_10 : decode cX6_isRest 10 = .ok (.if_icmp .ge 78, 3) := by decide +kernel
theorem dX6_isRest_13 : decode cX6_isRest 13 = .ok (.iload_n 1, 1) := by decide +kernel
theorem dX6_isRest_14 : decode cX6_isRest 14 = .ok (.aload_n 0, 1) := by decide +kernel
theorem dX6_isRest_15 : decode cX6_isRest 15 = .ok (.getfield 46, 3) := by decide +kernel
theorem dX6_isRest_18 : decode cX6_isRest 18 = .ok (.getfield 120, 3) := by decide +kernel
theorem dX6_isRest_21 : decode cX6_isRest 21 = .ok (.iload_n 2, 1) := by decide +kernel
theorem dX6_isRest_22 : decode cX6_isRest 22 = .ok (.iaload, 1) := by decide +kernel
theorem dX6_isRest_23 : decode cX6_isRest 23 = .ok (.aload_n 0, 1) := by decide +kernel
theorem dX6_isRest_24 : decode cX6_isRest 24 = .ok (.getfield 54, 3) := by decide +kernel
theorem dX6_isRest_27 : decode cX6_isRest 27 = .ok (.iload_n 2, 1) := by decide +kernel
theorem dX6_isRest_28 : decode cX6_isRest 28 = .ok (.iaload, 1) := by decide +kernel
theorem dX6_isRest_29 : decode cX6_isRest 29 = .ok (.imul, 1) := by decide +kernel
theorem dX6_isRest_30 : decode cX6_isRest 30 = .ok (.isub, 1) := by decide +kernel
theorem dX6_isRest_31 : decode cX6_isRest 31 = .ok (.istore_n 3, 1) := by decide +kernel
theorem dX6_isRest_32 : decode cX6_isRest 32 = .ok (.iconst 0, 1) := by decide +kernel
theorem dX6_isRest_33 : decode cX6_isRest 33 = .ok (.istore 4, 2) := by decide +kernel
theorem dX6_isRest_35 : decode cX6_isRest 35 = .ok (.iload 4, 2) := by decide +kernel
theorem dX6_isRest_37 : decode cX6_isRest 37 = .ok (.aload_n 0, 1) := by decide +kernel
theorem dX6_isRest_38 : decode cX6_isRest 38 = .ok (.getfield 46, 3) := by decide +kernel
theorem dX6_isRest_41 : decode cX6_isRest 41 = .ok (.getfield 158, 3) := by decide +kernel
theorem dX6_isRest_44 : decode cX6_isRest 44 = .ok (.iload_n 2, 1) := by decide +kernel
theorem dX6_isRest_45 : decode cX6_isRest 45 = .ok (.iaload, 1) := by decide +kernel
theorem dX6_isRest_46 : decode cX6_isRest 46 = .ok (.if_icmp .ge 36, 3) := by decide +kernel
theorem dX6_isRest_49 : decode cX6_isRest 49 = .ok (.aload_n 0, 1) := by decide +kernel
theorem dX6_isRest_50 : decode cX6_isRest 50 = .ok (.iload_n 3, 1) := by decide +kernel
theorem dX6_isRest_51 : decode cX6_isRest 51 = .ok (.iload 4, 2) := by decide +kernel
theorem dX6_isRest_53 : decode cX6_isRest 53 = .ok (.aload_n 0, 1) := by decide +kernel
theorem dX6_isRest_54 : decode cX6_isRest 54 = .ok (.getfield 54, 3) := by decide +kernel
theorem dX6_isRest_57 : decode cX6_isRest 57 = .ok (.iload_n 2, 1) := by decide +kernel
theorem dX6_isRest_58 : decode cX6_isRest 58 = .ok (.iaload, 1) := by decide +kernel
theorem dX6_isRest_59 : decode cX6_isRest 59 = .ok (.imul, 1) := by decide +kernel
theorem dX6_isRest_60 : decode cX6_isRest 60 = .ok (.iadd, 1) := by decide +kernel
theorem dX6_isRest_61 : decode cX6_isRest 61 = .ok (.iload_n 2, 1) := by decide +kernel
theorem dX6_isRest_62 : decode cX6_isRest 62 = .ok (.invokevirtual 168, 3) := by decide +kernel
theorem dX6_isRest_65 : decode cX6_isRest 65 = .ok (.aload_n 0, 1) := by decide +kernel
theorem dX6_isRest_66 : decode cX6_isRest 66 = .ok (.iload_n 1, 1) := by decide +kernel
theorem dX6_isRest_67 : decode cX6_isRest 67 = .ok (.iload_n 2, 1) := by decide +kernel
theorem dX6_isRest_68 : decode cX6_isRest 68 = .ok (.invokevirtual 168, 3) := by decide +kernel
theorem dX6_isRest_71 : decode cX6_isRest 71 = .ok (.if_icmp .le 5, 3) := by decide +kernel
theorem dX6_isRest_74 : decode cX6_isRest 74 = .ok (.iconst 0, 1) := by decide +kernel
theorem dX6_isRest_75 : decode cX6_isRest 75 = .ok (.ireturn, 1) := by decide +kernel
theorem dX6_isRest_76 : decode cX6_isRest 76 = .ok (.iinc 4 1, 3) := by decide +kernel
theorem dX6_isRest_79 : decode cX6_isRest 79 = .ok (.goto (-44), 3) := by decide +kernel
theorem dX6_isRest_82 : decode cX6_isRest 82 = .ok (.iinc 2 1, 3) := by decide +kernel
theorem dX6_isRest_85 : decode cX6_isRest 85 = .ok (.goto (-83), 3) := by decide +kernel
theorem dX6_isRest_88 : decode cX6_isRest 88 = .ok (.iconst 1, 1) := by decide +kernel
theorem dX6_isRest_89 : decode cX6_isRest 89 = .ok (.ireturn, 1) := by decide +kernel
theorem dX6_gainAt_0 : decode cX6_gainAt 0 = .ok (.iload_n 1, 1) := by decide +kernel
theorem dX6_gainAt_1 : decode cX6_gainAt 1 = .ok (.ifCond .lt 10, 3) := by decide +kernel
theorem dX6_gainAt_4 : decode cX6_gainAt 4 = .ok (.iload_n 1, 1) := by decide +kernel
theorem dX6_gainAt_5 : decode cX6_gainAt 5 = .ok (.sipush 7776, 3) := by decide +kernel
theorem dX6_gainAt_8 : decode cX6_gainAt 8 = .ok (.if_icmp .lt 6, 3) := by decide +kernel
theorem dX6_gainAt_11 : decode cX6_gainAt 11 = .ok (.ldc 96, 2) := by decide +kernel
theorem dX6_gainAt_13 : decode cX6_gainAt 13 = .ok (.ireturn, 1) := by decide +kernel
theorem dX6_gainAt_14 : decode cX6_gainAt 14 = .ok (.aload_n 0, 1) := by decide +kernel
theorem dX6_gainAt_15 : decode cX6_gainAt 15 = .ok (.getfield 50, 3) := by decide +kernel
theorem dX6_gainAt_18 : decode cX6_gainAt 18 = .ok (.iload_n 1, 1) := by decide +kernel
theorem dX6_gainAt_19 : decode cX6_gainAt 19 = .ok (.laload, 1) := by decide +kernel
theorem dX6_gainAt_20 : decode cX6_gainAt 20 = .ok (.bipush 8, 2) := by decide +kernel
theorem dX6_gainAt_22 : decode cX6_gainAt 22 = .ok (.iload_n 2, 1) := by decide +kernel
theorem dX6_gainAt_23 : decode cX6_gainAt 23 = .ok (.imul, 1) := by decide +kernel
theorem dX6_gainAt_24 : decode cX6_gainAt 24 = .ok (.lshr, 1) := by decide +kernel
theorem dX6_gainAt_25 : decode cX6_gainAt 25 = .ok (.ldc2_w 172, 3) := by decide +kernel
theorem dX6_gainAt_28 : decode cX6_gainAt 28 = .ok (.land, 1) := by decide +kernel
theorem dX6_gainAt_29 : decode cX6_gainAt 29 = .ok (.l2i, 1) := by decide +kernel
theorem dX6_gainAt_30 : decode cX6_gainAt 30 = .ok (.sipush 128, 3) := by decide +kernel
theorem dX6_gainAt_33 : decode cX6_gainAt 33 = .ok (.isub, 1) := by decide +kernel
theorem dX6_gainAt_34 : decode cX6_gainAt 34 = .ok (.ireturn, 1) := by decide +kernel
set_option maxRecDepth 20000 in
theorem dX6_holds_0 : decode cX6_holds 0 = .ok (.aload_n 0, 1) := by decide +kernel
theorem dX6_holds_1 : decode cX6_holds 1 = .ok (.iload_n 2, 1) := by decide +kernel
theorem dX6_holds_2 : decode cX6_holds 2 = .ok (.invokevirtual 130, 3) := by decide +kernel
theorem dX6_holds_5 : decode cX6_holds 5 = .ok (.istore_n 3, 1) := by decide +kernel
theorem dX6_holds_6 : decode cX6_holds 6 = .ok (.aload_n 0, 1) := by decide +kernel
theorem dX6_holds_7 : decode cX6_holds 7 = .ok (.getfield 21, 3) := by decide +kernel
theorem dX6_holds_10 : decode cX6_holds 10 = .ok (.iload_n 2, 1) := by decide +kernel
theorem dX6_holds_11 : decode cX6_holds 11 = .ok (.iload_n 1, 1) := by decide +kernel
theorem dX6_holds_12 : decode cX6_holds 12 = .ok (.invokevirtual 174, 3) := by decide +kernel
theorem dX6_holds_15 : decode cX6_holds 15 = .ok (.aload_n 0, 1) := by decide +kernel
theorem dX6_holds_16 : decode cX6_holds 16 = .ok (.iload_n 2, 1) := by decide +kernel
theorem dX6_holds_17 : decode cX6_holds 17 = .ok (.invokevirtual 130, 3) := by decide +kernel
theorem dX6_holds_20 : decode cX6_holds 20 = .ok (.iload_n 3, 1) := by decide +kernel
theorem dX6_holds_21 : decode cX6_holds 21 = .ok (.if_icmp .lt 7, 3) := by decide +kernel
theorem dX6_holds_24 : decode cX6_holds 24 = .ok (.iconst 1, 1) := by decide +kernel
theorem dX6_holds_25 : decode cX6_holds 25 = .ok (.goto 4, 3) := by decide +kernel
theorem dX6_holds_28 : decode cX6_holds 28 = .ok (.iconst 0, 1) := by decide +kernel
theorem dX6_holds_29 : decode cX6_holds 29 = .ok (.ireturn, 1) := by decide +kernel
set_option maxRecDepth 20000 in
theorem dX6_findRings_0 : decode cX6_findRings 0 = .ok (.aload_n 0, 1) := by decide +kernel
theorem dX6_findRings_1 : decode cX6_findRings 1 = .ok (.iconst 0, 1) := by decide +kernel
theorem dX6_findRings_2 : decode cX6_findRings 2 = .ok (.putfield 177, 3) := by decide +kernel
theorem dX6_findRings_5 : decode cX6_findRings 5 = .ok (.aload_n 0, 1) := by decide +kernel
theorem dX6_findRings_6 : decode cX6_findRings 6 = .ok (.iconst (-1), 1) := by decide +kernel
theorem dX6_findRings_7 : decode cX6_findRings 7 = .ok (.putfield 180, 3) := by decide +kernel
theorem dX6_findRings_10 : decode cX6_findRings 10 = .ok (.aload_n 0, 1) := by decide +kernel
theorem dX6_findRings_11 : decode cX6_findRings 11 = .ok (.invokevirtual 183, 3) := by decide +kernel
theorem dX6_findRings_14 : decode cX6_findRings 14 = .ok (.ifCond .ne 4, 3) := by decide +kernel
theorem dX6_findRings_17 : decode cX6_findRings 17 = .ok (.return_, 1) := by decide +kernel
theorem dX6_findRings_18 : decode cX6_findRings 18 = .ok (.aload_n 0, 1) := by decide +kernel
theorem dX6_findRings_19 : decode cX6_findRings 19 = .ok (.getfield 46, 3) := by decide +kernel
theorem dX6_findRings_22 : decode cX6_findRings 22 = .ok (.aload_n 0, 1) := by decide +kernel
theorem dX6_findRings_23 : decode cX6_findRings 23 = .ok (.getfield 12, 3) := by decide +kernel
theorem dX6_findRings_26 : decode cX6_findRings 26 = .ok (.getfield 127, 3) := by decide +kernel
theorem dX6_findRings_29 : decode cX6_findRings 29 = .ok (.aload_n 0, 1) := by decide +kernel
theorem dX6_findRings_30 : decode cX6_findRings 30 = .ok (.getfield 12, 3) := by decide +kernel
theorem dX6_findRings_33 : decode cX6_findRings 33 = .ok (.getfield 71, 3) := by decide +kernel
theorem dX6_findRings_36 : decode cX6_findRings 36 = .ok (.invokevirtual 103, 3) := by decide +kernel
theorem dX6_findRings_39 : decode cX6_findRings 39 = .ok (.iconst 0, 1) := by decide +kernel
theorem dX6_findRings_40 : decode cX6_findRings 40 = .ok (.istore_n 1, 1) := by decide +kernel
theorem dX6_findRings_41 : decode cX6_findRings 41 = .ok (.iload_n 1, 1) := by decide +kernel
theorem dX6_findRings_42 : decode cX6_findRings 42 = .ok (.aload_n 0, 1) := by decide +kernel
theorem dX6_findRings_43 : decode cX6_findRings 43 = .ok (.getfield 12, 3) := by decide +kernel
theorem dX6_findRings_46 : decode cX6_findRings 46 = .ok (.getfield 127, 3) := by decide +kernel
theorem dX6_findRings_49 : decode cX6_findRings 49 = .ok (.if_icmp .ge 32, 3) := by decide +kernel
theorem dX6_findRings_52 : decode cX6_findRings 52 = .ok (.aload_n 0, 1) := by decide +kernel
theorem dX6_findRings_53 : decode cX6_findRings 53 = .ok (.getfield 12, 3) := by decide +kernel
theorem dX6_findRings_56 : decode cX6_findRings 56 = .ok (.getfield 187, 3) := by decide +kernel
theorem dX6_findRings_59 : decode cX6_findRings 59 = .ok (.iload_n 1, 1) := by decide +kernel
theorem dX6_findRings_60 : decode cX6_findRings 60 = .ok (.iaload, 1) := by decide +kernel
theorem dX6_findRings_61 : decode cX6_findRings 61 = .ok (.iconst (-1), 1) := by decide +kernel
theorem dX6_findRings_62 : decode cX6_findRings 62 = .ok (.if_icmp .ne 13, 3) := by decide +kernel
theorem dX6_findRings_65 : decode cX6_findRings 65 = .ok (.aload_n 0, 1) := by decide +kernel
theorem dX6_findRings_66 : decode cX6_findRings 66 = .ok (.getfield 46, 3) := by decide +kernel
theorem dX6_findRings_69 : decode cX6_findRings 69 = .ok (.getfield 158, 3) := by decide +kernel
theorem dX6_findRings_72 : decode cX6_findRings 72 = .ok (.iload_n 1, 1) := by decide +kernel
theorem dX6_findRings_73 : decode cX6_findRings 73 = .ok (.iconst 1, 1) := by decide +kernel
theorem dX6_findRings_74 : decode cX6_findRings 74 = .ok (.iastore, 1) := by decide +kernel
theorem dX6_findRings_75 : decode cX6_findRings 75 = .ok (.iinc 1 1, 3) := by decide +kernel
theorem dX6_findRings_78 : decode cX6_findRings 78 = .ok (.goto (-37), 3) := by decide +kernel
theorem dX6_findRings_81 : decode cX6_findRings 81 = .ok (.iconst 0, 1) := by decide +kernel
theorem dX6_findRings_82 : decode cX6_findRings 82 = .ok (.istore_n 1, 1) := by decide +kernel
theorem dX6_findRings_83 : decode cX6_findRings 83 = .ok (.iconst 0, 1) := by decide +kernel
theorem dX6_findRings_84 : decode cX6_findRings 84 = .ok (.istore_n 2, 1) := by decide +kernel
theorem dX6_findRings_85 : decode cX6_findRings 85 = .ok (.iload_n 2, 1) := by decide +kernel
theorem dX6_findRings_86 : decode cX6_findRings 86 = .ok (.sipush 7776, 3) := by decide +kernel
theorem dX6_findRings_89 : decode cX6_findRings 89 = .ok (.if_icmp .ge 62, 3) := by decide +kernel
theorem dX6_findRings_92 : decode cX6_findRings 92 = .ok (.iload_n 1, 1) := by decide +kernel
theorem dX6_findRings_93 : decode cX6_findRings 93 = .ok (.iconst (-1), 1) := by decide +kernel
theorem dX6_findRings_94 : decode cX6_findRings 94 = .ok (.if_icmp .eq 57, 3) := by decide +kernel
theorem dX6_findRings_97 : decode cX6_findRings 97 = .ok (.aload_n 0, 1) := by decide +kernel
theorem dX6_findRings_98 : decode cX6_findRings 98 = .ok (.invokevirtual 190, 3) := by decide +kernel
theorem dX6_findRings_101 : decode cX6_findRings 101 = .ok (.ifCond .eq 36, 3) := by decide +kernel
theorem dX6_findRings_104 : decode cX6_findRings 104 = .ok (.aload_n 0, 1) := by decide +kernel
theorem dX6_findRings_105 : decode cX6_findRings 105 = .ok (.invokevirtual 193, 3) := by decide +kernel
theorem dX6_findRings_108 : decode cX6_findRings 108 = .ok (.ifCond .eq 29, 3) := by decide +kernel
theorem dX6_findRings_111 : decode cX6_findRings 111 = .ok (.aload_n 0, 1) := by decide +kernel
theorem dX6_findRings_112 : decode cX6_findRings 112 = .ok (.dup, 1) := by decide +kernel
theorem dX6_findRings_113 : decode cX6_findRings 113 = .ok (.getfield 177, 3) := by decide +kernel
theorem dX6_findRings_116 : decode cX6_findRings 116 = .ok (.iconst 1, 1) := by decide +kernel
theorem dX6_findRings_117 : decode cX6_findRings 117 = .ok (.iadd, 1) := by decide +kernel
theorem dX6_findRings_118 : decode cX6_findRings 118 = .ok (.putfield 177, 3) := by decide +kernel
theorem dX6_findRings_121 : decode cX6_findRings 121 = .ok (.aload_n 0, 1) := by decide +kernel
theorem dX6_findRings_122 : decode cX6_findRings 122 = .ok (.getfield 177, 3) := by decide +kernel
theorem dX6_findRings_125 : decode cX6_findRings 125 = .ok (.iconst 1, 1) := by decide +kernel
theorem dX6_findRings_126 : decode cX6_findRings 126 = .ok (.if_icmp .ne 11, 3) := by decide +kernel
theorem dX6_findRings_129 : decode cX6_findRings 129 = .ok (.aload_n 0, 1) := by decide +kernel
theorem dX6_findRings_130 : decode cX6_findRings 130 = .ok (.aload_n 0, 1) := by decide +kernel
theorem dX6_findRings_131 : decode cX6_findRings 131 = .ok (.invokevirtual 196, 3) := by decide +kernel
theorem dX6_findRings_134 : decode cX6_findRings 134 = .ok (.putfield 180, 3) := by decide +kernel
theorem dX6_findRings_137 : decode cX6_findRings 137 = .ok (.aload_n 0, 1) := by decide +kernel
theorem dX6_findRings_138 : decode cX6_findRings 138 = .ok (.getfield 46, 3) := by decide +kernel
theorem dX6_findRings_141 : decode cX6_findRings 141 = .ok (.invokevirtual 113, 3) := by decide +kernel
theorem dX6_findRings_144 : decode cX6_findRings 144 = .ok (.istore_n 1, 1) := by decide +kernel
theorem dX6_findRings_145 : decode cX6_findRings 145 = .ok (.iinc 2 1, 3) := by decide +kernel
theorem dX6_findRings_148 : decode cX6_findRings 148 = .ok (.goto (-63), 3) := by decide +kernel
theorem dX6_findRings_151 : decode cX6_findRings 151 = .ok (.return_, 1) := by decide +kernel
set_option maxRecDepth 20000 in
theorem dX6_canRing_0 : decode cX6_canRing 0 = .ok (.iconst 0, 1) := by decide +kernel
theorem dX6_canRing_1 : decode cX6_canRing 1 = .ok (.istore_n 1, 1) := by decide +kernel
theorem dX6_canRing_2 : decode cX6_canRing 2 = .ok (.iconst 0, 1) := by decide +kernel
theorem dX6_canRing_3 : decode cX6_canRing 3 = .ok (.istore_n 2, 1) := by decide +kernel
theorem dX6_canRing_4 : decode cX6_canRing 4 = .ok (.iload_n 2, 1) := by decide +kernel
theorem dX6_canRing_5 : decode cX6_canRing 5 = .ok (.aload_n 0, 1) := by decide +kernel
theorem dX6_canRing_6 : decode cX6_canRing 6 = .ok (.getfield 12, 3) := by decide +kernel
theorem dX6_canRing_9 : decode cX6_canRing 9 = .ok (.getfield 127, 3) := by decide +kernel
theorem dX6_canRing_12 : decode cX6_canRing 12 = .ok (.if_icmp .ge 45, 3) := by decide +kernel
theorem dX6_canRing_15 : decode cX6_canRing 15 = .ok (.aload_n 0, 1) := by decide +kernel
theorem dX6_canRing_16 : decode cX6_canRing 16 = .ok (.getfield 12, 3) := by decide +kernel
theorem dX6_canRing_19 : decode cX6_canRing 19 = .ok (.getfield 187, 3) := by decide +kernel
theorem dX6_canRing_22 : decode cX6_canRing 22 = .ok (.iload_n 2, 1) := by decide +kernel
theorem dX6_canRing_23 : decode cX6_canRing 23 = .ok (.iaload, 1) := by decide +kernel
theorem dX6_canRing_24 : decode cX6_canRing 24 = .ok (.iconst (-1), 1) := by decide +kernel
theorem dX6_canRing_25 : decode cX6_canRing 25 = .ok (.if_icmp .eq 26, 3) := by decide +kernel
theorem dX6_canRing_28 : decode cX6_canRing 28 = .ok (.iinc 1 1, 3) := by decide +kernel
theorem dX6_canRing_31 : decode cX6_canRing 31 = .ok (.aload_n 0, 1) := by decide +kernel
theorem dX6_canRing_32 : decode cX6_canRing 32 = .ok (.getfield 12, 3) := by decide +kernel
theorem dX6_canRing_35 : decode cX6_canRing 35 = .ok (.iload_n 2, 1) := by decide +kernel
theorem dX6_canRing_36 : decode cX6_canRing 36 = .ok (.aload_n 0, 1) := by decide +kernel
theorem dX6_canRing_37 : decode cX6_canRing 37 = .ok (.getfield 28, 3) := by decide +kernel
theorem dX6_canRing_40 : decode cX6_canRing 40 = .ok (.getfield 75, 3) := by decide +kernel
theorem dX6_canRing_43 : decode cX6_canRing 43 = .ok (.invokevirtual 116, 3) := by decide +kernel
theorem dX6_canRing_46 : decode cX6_canRing 46 = .ok (.ifCond .eq 5, 3) := by decide +kernel
theorem dX6_canRing_49 : decode cX6_canRing 49 = .ok (.iconst 0, 1) := by decide +kernel
theorem dX6_canRing_50 : decode cX6_canRing 50 = .ok (.ireturn, 1) := by decide +kernel
theorem dX6_canRing_51 : decode cX6_canRing 51 = .ok (.iinc 2 1, 3) := by decide +kernel
theorem dX6_canRing_54 : decode cX6_canRing 54 = .ok (.goto (-50), 3) := by decide +kernel
theorem dX6_canRing_57 : decode cX6_canRing 57 = .ok (.iload_n 1, 1) := by decide +kernel
theorem dX6_canRing_58 : decode cX6_canRing 58 = .ok (.iconst 2, 1) := by decide +kernel
theorem dX6_canRing_59 : decode cX6_canRing 59 = .ok (.if_icmp .lt 7, 3) := by decide +kernel
theorem dX6_canRing_62 : decode cX6_canRing 62 = .ok (.iconst 1, 1) := by decide +kernel
theorem dX6_canRing_63 : decode cX6_canRing 63 = .ok (.goto 4, 3) := by decide +kernel
theorem dX6_canRing_66 : decode cX6_canRing 66 = .ok (.iconst 0, 1) := by decide +kernel
theorem dX6_canRing_67 : decode cX6_canRing 67 = .ok (.ireturn, 1) := by decide +kernel
theorem dX6_goRound_0 : decode cX6_goRound 0 = .ok (.iconst 0, 1) := by decide +kernel
theorem dX6_goRound_1 : decode cX6_goRound 1 = .ok (.istore_n 1, 1) := by decide +kernel
theorem dX6_goRound_2 : decode cX6_goRound 2 = .ok (.iconst 0, 1) := by decide +kernel
theorem dX6_goRound_3 : decode cX6_goRound 3 = .ok (.istore_n 2, 1) := by decide +kernel
theorem dX6_goRound_4 : decode cX6_goRound 4 = .ok (.iload_n 2, 1) := by decide +kernel
theorem dX6_goRound_5 : decode cX6_goRound 5 = .ok (.aload_n 0, 1) := by decide +kernel
theorem dX6_goRound_6 : decode cX6_goRound 6 = .ok (.getfield 12, 3) := by decide +kernel
theorem dX6_goRound_9 : decode cX6_goRound 9 = .ok (.getfield 127, 3) := by decide +kernel
theorem dX6_goRound_12 : decode cX6_goRound 12 = .ok (.if_icmp .ge 75, 3) := by decide +kernel
theorem dX6_goRound_15 : decode cX6_goRound 15 = .ok (.aload_n 0, 1) := by decide +kernel
theorem dX6_goRound_16 : decode cX6_goRound 16 = .ok (.getfield 12, 3) := by decide +kernel
theorem dX6_goRound_19 : decode cX6_goRound 19 = .ok (.getfield 187, 3) := by decide +kernel
theorem dX6_goRound_22 : decode cX6_goRound 22 = .ok (.iload_n 2, 1) := by decide +kernel
theorem dX6_goRound_23 : decode cX6_goRound 23 = .ok (.iaload, 1) := by decide +kernel
theorem dX6_goRound_24 : decode cX6_goRound 24 = .ok (.iconst (-1), 1) := by decide +kernel
theorem dX6_goRound_25 : decode cX6_goRound 25 = .ok (.if_icmp .eq 56, 3) := by decide +kernel
theorem dX6_goRound_28 : decode cX6_goRound 28 = .ok (.aload_n 0, 1) := by decide +kernel
theorem dX6_goRound_29 : decode cX6_goRound 29 = .ok (.getfield 46, 3) := by decide +kernel
theorem dX6_goRound_32 : decode cX6_goRound 32 = .ok (.getfield 120, 3) := by decide +kernel
theorem dX6_goRound_35 : decode cX6_goRound 35 = .ok (.iload_n 2, 1) := by decide +kernel
theorem dX6_goRound_36 : decode cX6_goRound 36 = .ok (.iaload, 1) := by decide +kernel
theorem dX6_goRound_37 : decode cX6_goRound 37 = .ok (.istore_n 3, 1) := by decide +kernel
theorem dX6_goRound_38 : decode cX6_goRound 38 = .ok (.aload_n 0, 1) := by decide +kernel
theorem dX6_goRound_39 : decode cX6_goRound 39 = .ok (.getfield 12, 3) := by decide +kernel
theorem dX6_goRound_42 : decode cX6_goRound 42 = .ok (.getfield 199, 3) := by decide +kernel
theorem dX6_goRound_45 : decode cX6_goRound 45 = .ok (.iload_n 3, 1) := by decide +kernel
theorem dX6_goRound_46 : decode cX6_goRound 46 = .ok (.iaload, 1) := by decide +kernel
theorem dX6_goRound_47 : decode cX6_goRound 47 = .ok (.iconst (-1), 1) := by decide +kernel
theorem dX6_goRound_48 : decode cX6_goRound 48 = .ok (.if_icmp .eq 25, 3) := by decide +kernel
theorem dX6_goRound_51 : decode cX6_goRound 51 = .ok (.aload_n 0, 1) := by decide +kernel
theorem dX6_goRound_52 : decode cX6_goRound 52 = .ok (.getfield 12, 3) := by decide +kernel
theorem dX6_goRound_55 : decode cX6_goRound 55 = .ok (.getfield 199, 3) := by decide +kernel
theorem dX6_goRound_58 : decode cX6_goRound 58 = .ok (.iload_n 3, 1) := by decide +kernel
theorem dX6_goRound_59 : decode cX6_goRound 59 = .ok (.iaload, 1) := by decide +kernel
theorem dX6_goRound_60 : decode cX6_goRound 60 = .ok (.iload_n 2, 1) := by decide +kernel
theorem dX6_goRound_61 : decode cX6_goRound 61 = .ok (.if_icmp .eq 12, 3) := by decide +kernel
theorem dX6_goRound_64 : decode cX6_goRound 64 = .ok (.iload_n 1, 1) := by decide +kernel
theorem dX6_goRound_65 : decode cX6_goRound 65 = .ok (.iload_n 3, 1) := by decide +kernel
theorem dX6_goRound_66 : decode cX6_goRound 66 = .ok (.ishr, 1) := by decide +kernel
theorem dX6_goRound_67 : decode cX6_goRound 67 = .ok (.iconst 1, 1) := by decide +kernel
theorem dX6_goRound_68 : decode cX6_goRound 68 = .ok (.iand, 1) := by decide +kernel
theorem dX6_goRound_69 : decode cX6_goRound 69 = .ok (.iconst 1, 1) := by decide +kernel
theorem dX6_goRound_70 : decode cX6_goRound 70 = .ok (.if_icmp .ne 5, 3) := by decide +kernel
theorem dX6_goRound_73 : decode cX6_goRound 73 = .ok (.iconst 0, 1) := by decide +kernel
theorem dX6_goRound_74 : decode cX6_goRound 74 = .ok (.ireturn, 1) := by decide +kernel
theorem dX6_goRound_75 : decode cX6_goRound 75 = .ok (.iload_n 1, 1) := by decide +kernel
theorem dX6_goRound_76 : decode cX6_goRound 76 = .ok (.iconst 1, 1) := by decide +kernel
theorem dX6_goRound_77 : decode cX6_goRound 77 = .ok (.iload_n 3, 1) := by decide +kernel
theorem dX6_goRound_78 : decode cX6_goRound 78 = .ok (.ishl, 1) := by decide +kernel
theorem dX6_goRound_79 : decode cX6_goRound 79 = .ok (.ior, 1) := by decide +kernel
theorem dX6_goRound_80 : decode cX6_goRound 80 = .ok (.istore_n 1, 1) := by decide +kernel
theorem dX6_goRound_81 : decode cX6_goRound 81 = .ok (.iinc 2 1, 3) := by decide +kernel
theorem dX6_goRound_84 : decode cX6_goRound 84 = .ok (.goto (-80), 3) := by decide +kernel
theorem dX6_goRound_87 : decode cX6_goRound 87 = .ok (.iconst 1, 1) := by decide +kernel
theorem dX6_goRound_88 : decode cX6_goRound 88 = .ok (.ireturn, 1) := by decide +kernel
set_option maxRecDepth 20000 in
theorem dX6_isRing_0 : decode cX6_isRing 0 = .ok (.iconst 0, 1) := by decide +kernel
theorem dX6_isRing_1 : decode cX6_isRing 1 = .ok (.istore_n 1, 1) := by decide +kernel
theorem dX6_isRing_2 : decode cX6_isRing 2 = .ok (.iload_n 1, 1) := by decide +kernel
theorem dX6_isRing_3 : decode cX6_isRing 3 = .ok (.aload_n 0, 1) := by decide +kernel
theorem dX6_isRing_4 : decode cX6_isRing 4 = .ok (.getfield 12, 3) := by decide +kernel
theorem dX6_isRing_7 : decode cX6_isRing 7 = .ok (.getfield 127, 3) := by decide +kernel
theorem dX6_isRing_10 : decode cX6_isRing 10 = .ok (.if_icmp .ge 73, 3) := by decide +kernel
theorem dX6_isRing_13 : decode cX6_isRing 13 = .ok (.aload_n 0, 1) := by decide +kernel
theorem dX6_isRing_14 : decode cX6_isRing 14 = .ok (.getfield 12, 3) := by decide +kernel
theorem dX6_isRing_17 : decode cX6_isRing 17 = .ok (.getfield 187, 3) := by decide +kernel
theorem dX6_isRing_20 : decode cX6_isRing 20 = .ok (.iload_n 1, 1) := by decide +kernel
theorem dX6_isRing_21 : decode cX6_isRing 21 = .ok (.iaload, 1) := by decide +kernel
theorem dX6_isRing_22 : decode cX6_isRing 22 = .ok (.iconst (-1), 1) := by decide +kernel
theorem dX6_isRing_23 : decode cX6_isRing 23 = .ok (.if_icmp .eq 54, 3) := by decide +kernel
theorem dX6_isRing_26 : decode cX6_isRing 26 = .ok (.aload_n 0, 1) := by decide +kernel
theorem dX6_isRing_27 : decode cX6_isRing 27 = .ok (.invokevirtual 202, 3) := by decide +kernel
theorem dX6_isRing_30 : decode cX6_isRing 30 = .ok (.aload_n 0, 1) := by decide +kernel
theorem dX6_isRing_31 : decode cX6_isRing 31 = .ok (.iload_n 1, 1) := by decide +kernel
theorem dX6_isRing_32 : decode cX6_isRing 32 = .ok (.invokevirtual 205, 3) := by decide +kernel
theorem dX6_isRing_35 : decode cX6_isRing 35 = .ok (.istore_n 2, 1) := by decide +kernel
theorem dX6_isRing_36 : decode cX6_isRing 36 = .ok (.iconst 0, 1) := by decide +kernel
theorem dX6_isRing_37 : decode cX6_isRing 37 = .ok (.istore_n 3, 1) := by decide +kernel
theorem dX6_isRing_38 : decode cX6_isRing 38 = .ok (.iload_n 3, 1) := by decide +kernel
theorem dX6_isRing_39 : decode cX6_isRing 39 = .ok (.aload_n 0, 1) := by decide +kernel
theorem dX6_isRing_40 : decode cX6_isRing 40 = .ok (.getfield 12, 3) := by decide +kernel
theorem dX6_isRing_43 : decode cX6_isRing 43 = .ok (.getfield 71, 3) := by decide +kernel
theorem dX6_isRing_46 : decode cX6_isRing 46 = .ok (.if_icmp .gt 31, 3) := by decide +kernel
theorem dX6_isRing_49 : decode cX6_isRing 49 = .ok (.aload_n 0, 1) := by decide +kernel
theorem dX6_isRing_50 : decode cX6_isRing 50 = .ok (.getfield 39, 3) := by decide +kernel
theorem dX6_isRing_53 : decode cX6_isRing 53 = .ok (.iload_n 1, 1) := by decide +kernel
theorem dX6_isRing_54 : decode cX6_isRing 54 = .ok (.aload_n 0, 1) := by decide +kernel
theorem dX6_isRing_55 : decode cX6_isRing 55 = .ok (.iload_n 3, 1) := by decide +kernel
theorem dX6_isRing_56 : decode cX6_isRing 56 = .ok (.invokevirtual 123, 3) := by decide +kernel
theorem dX6_isRing_59 : decode cX6_isRing 59 = .ok (.iastore, 1) := by decide +kernel
theorem dX6_isRing_60 : decode cX6_isRing 60 = .ok (.aload_n 0, 1) := by decide +kernel
theorem dX6_isRing_61 : decode cX6_isRing 61 = .ok (.iload_n 1, 1) := by decide +kernel
theorem dX6_isRing_62 : decode cX6_isRing 62 = .ok (.invokevirtual 205, 3) := by decide +kernel
theorem dX6_isRing_65 : decode cX6_isRing 65 = .ok (.iload_n 2, 1) := by decide +kernel
theorem dX6_isRing_66 : decode cX6_isRing 66 = .ok (.if_icmp .le 5, 3) := by decide +kernel
theorem dX6_isRing_69 : decode cX6_isRing 69 = .ok (.iconst 0, 1) := by decide +kernel
theorem dX6_isRing_70 : decode cX6_isRing 70 = .ok (.ireturn, 1) := by decide +kernel
theorem dX6_isRing_71 : decode cX6_isRing 71 = .ok (.iinc 3 1, 3) := by decide +kernel
theorem dX6_isRing_74 : decode cX6_isRing 74 = .ok (.goto (-36), 3) := by decide +kernel
theorem dX6_isRing_77 : decode cX6_isRing 77 = .ok (.iinc 1 1, 3) := by decide +kernel
theorem dX6_isRing_80 : decode cX6_isRing 80 = .ok (.goto (-78), 3) := by decide +kernel
theorem dX6_isRing_83 : decode cX6_isRing 83 = .ok (.iconst 1, 1) := by decide +kernel
theorem dX6_isRing_84 : decode cX6_isRing 84 = .ok (.ireturn, 1) := by decide +kernel
set_option maxRecDepth 20000 in
theorem dX6_wishRing_0 : decode cX6_wishRing 0 = .ok (.aload_n 0, 1) := by decide +kernel
theorem dX6_wishRing_1 : decode cX6_wishRing 1 = .ok (.getfield 21, 3) := by decide +kernel
theorem dX6_wishRing_4 : decode cX6_wishRing 4 = .ok (.aload_n 0, 1) := by decide +kernel
theorem dX6_wishRing_5 : decode cX6_wishRing 5 = .ok (.getfield 12, 3) := by decide +kernel
theorem dX6_wishRing_8 : decode cX6_wishRing 8 = .ok (.aload_n 0, 1) := by decide +kernel
theorem dX6_wishRing_9 : decode cX6_wishRing 9 = .ok (.getfield 28, 3) := by decide +kernel
theorem dX6_wishRing_12 : decode cX6_wishRing 12 = .ok (.getfield 75, 3) := by decide +kernel
theorem dX6_wishRing_15 : decode cX6_wishRing 15 = .ok (.aload_n 0, 1) := by decide +kernel
theorem dX6_wishRing_16 : decode cX6_wishRing 16 = .ok (.getfield 39, 3) := by decide +kernel
theorem dX6_wishRing_19 : decode cX6_wishRing 19 = .ok (.invokevirtual 78, 3) := by decide +kernel
theorem dX6_wishRing_22 : decode cX6_wishRing 22 = .ok (.iconst 0, 1) := by decide +kernel
theorem dX6_wishRing_23 : decode cX6_wishRing 23 = .ok (.istore_n 1, 1) := by decide +kernel
theorem dX6_wishRing_24 : decode cX6_wishRing 24 = .ok (.iload_n 1, 1) := by decide +kernel
theorem dX6_wishRing_25 : decode cX6_wishRing 25 = .ok (.aload_n 0, 1) := by decide +kernel
theorem dX6_wishRing_26 : decode cX6_wishRing 26 = .ok (.getfield 12, 3) := by decide +kernel
theorem dX6_wishRing_29 : decode cX6_wishRing 29 = .ok (.getfield 127, 3) := by decide +kernel
theorem dX6_wishRing_32 : decode cX6_wishRing 32 = .ok (.if_icmp .ge 37, 3) := by decide +kernel
theorem dX6_wishRing_35 : decode cX6_wishRing 35 = .ok (.aload_n 0, 1) := by decide +kernel
theorem dX6_wishRing_36 : decode cX6_wishRing 36 = .ok (.getfield 12, 3) := by decide +kernel
theorem dX6_wishRing_39 : decode cX6_wishRing 39 = .ok (.getfield 187, 3) := by decide +kernel
theorem dX6_wishRing_42 : decode cX6_wishRing 42 = .ok (.iload_n 1, 1) := by decide +kernel
theorem dX6_wishRing_43 : decode cX6_wishRing 43 = .ok (.iaload, 1) := by decide +kernel
theorem dX6_wishRing_44 : decode cX6_wishRing 44 = .ok (.iconst (-1), 1) := by decide +kernel
theorem dX6_wishRing_45 : decode cX6_wishRing 45 = .ok (.if_icmp .eq 18, 3) := by decide +kernel
theorem dX6_wishRing_48 : decode cX6_wishRing 48 = .ok (.aload_n 0, 1) := by decide +kernel
theorem dX6_wishRing_49 : decode cX6_wishRing 49 = .ok (.getfield 39, 3) := by decide +kernel
theorem dX6_wishRing_52 : decode cX6_wishRing 52 = .ok (.iload_n 1, 1) := by decide +kernel
theorem dX6_wishRing_53 : decode cX6_wishRing 53 = .ok (.aload_n 0, 1) := by decide +kernel
theorem dX6_wishRing_54 : decode cX6_wishRing 54 = .ok (.getfield 46, 3) := by decide +kernel
theorem dX6_wishRing_57 : decode cX6_wishRing 57 = .ok (.getfield 120, 3) := by decide +kernel
theorem dX6_wishRing_60 : decode cX6_wishRing 60 = .ok (.iload_n 1, 1) := by decide +kernel
theorem dX6_wishRing_61 : decode cX6_wishRing 61 = .ok (.iaload, 1) := by decide +kernel
theorem dX6_wishRing_62 : decode cX6_wishRing 62 = .ok (.iastore, 1) := by decide +kernel
theorem dX6_wishRing_63 : decode cX6_wishRing 63 = .ok (.iinc 1 1, 3) := by decide +kernel
theorem dX6_wishRing_66 : decode cX6_wishRing 66 = .ok (.goto (-42), 3) := by decide +kernel
theorem dX6_wishRing_69 : decode cX6_wishRing 69 = .ok (.return_, 1) := by decide +kernel
theorem dX6_ringNumber_0 : decode cX6_ringNumber 0 = .ok (.iconst 0, 1) := by decide +kernel
theorem dX6_ringNumber_1 : decode cX6_ringNumber 1 = .ok (.istore_n 1, 1) := by decide +kernel
theorem dX6_ringNumber_2 : decode cX6_ringNumber 2 = .ok (.iconst 0, 1) := by decide +kernel
theorem dX6_ringNumber_3 : decode cX6_ringNumber 3 = .ok (.istore_n 2, 1) := by decide +kernel
theorem dX6_ringNumber_4 : decode cX6_ringNumber 4 = .ok (.iload_n 2, 1) := by decide +kernel
theorem dX6_ringNumber_5 : decode cX6_ringNumber 5 = .ok (.aload_n 0, 1) := by decide +kernel
theorem dX6_ringNumber_6 : decode cX6_ringNumber 6 = .ok (.getfield 12, 3) := by decide +kernel
theorem dX6_ringNumber_9 : decode cX6_ringNumber 9 = .ok (.getfield 127, 3) := by decide +kernel
theorem dX6_ringNumber_12 : decode cX6_ringNumber 12 = .ok (.if_icmp .ge 42, 3) := by decide +kernel
theorem dX6_ringNumber_15 : decode cX6_ringNumber 15 = .ok (.iload_n 1, 1) := by decide +kernel
theorem dX6_ringNumber_16 : decode cX6_ringNumber 16 = .ok (.bipush 10, 2) := by decide +kernel
theorem dX6_ringNumber_18 : decode cX6_ringNumber 18 = .ok (.imul, 1) := by decide +kernel
theorem dX6_ringNumber_19 : decode cX6_ringNumber 19 = .ok (.aload_n 0, 1) := by decide +kernel
theorem dX6_ringNumber_20 : decode cX6_ringNumber 20 = .ok (.getfield 12, 3) := by decide +kernel
theorem dX6_ringNumber_23 : decode cX6_ringNumber 23 = .ok (.getfield 187, 3) := by decide +kernel
theorem dX6_ringNumber_26 : decode cX6_ringNumber 26 = .ok (.iload_n 2, 1) := by decide +kernel
theorem dX6_ringNumber_27 : decode cX6_ringNumber 27 = .ok (.iaload, 1) := by decide +kernel
theorem dX6_ringNumber_28 : decode cX6_ringNumber 28 = .ok (.iconst (-1), 1) := by decide +kernel
theorem dX6_ringNumber_29 : decode cX6_ringNumber 29 = .ok (.if_icmp .ne 8, 3) := by decide +kernel
theorem dX6_ringNumber_32 : decode cX6_ringNumber 32 = .ok (.bipush 9, 2) := by decide +kernel
theorem dX6_ringNumber_34 : decode cX6_ringNumber 34 = .ok (.goto 12, 3) := by decide +kernel
theorem dX6_ringNumber_37 : decode cX6_ringNumber 37 = .ok (.aload_n 0, 1) := by decide +kernel
theorem dX6_ringNumber_38 : decode cX6_ringNumber 38 = .ok (.getfield 46, 3) := by decide +kernel
theorem dX6_ringNumber_41 : decode cX6_ringNumber 41 = .ok (.getfield 120, 3) := by decide +kernel
theorem dX6_ringNumber_44 : decode cX6_ringNumber 44 = .ok (.iload_n 2, 1) := by decide +kernel
theorem dX6_ringNumber_45 : decode cX6_ringNumber 45 = .ok (.iaload, 1) := by decide +kernel
theorem dX6_ringNumber_46 : decode cX6_ringNumber 46 = .ok (.iadd, 1) := by decide +kernel
theorem dX6_ringNumber_47 : decode cX6_ringNumber 47 = .ok (.istore_n 1, 1) := by decide +kernel
theorem dX6_ringNumber_48 : decode cX6_ringNumber 48 = .ok (.iinc 2 1, 3) := by decide +kernel
theorem dX6_ringNumber_51 : decode cX6_ringNumber 51 = .ok (.goto (-47), 3) := by decide +kernel
theorem dX6_ringNumber_54 : decode cX6_ringNumber 54 = .ok (.iload_n 1, 1) := by decide +kernel
theorem dX6_ringNumber_55 : decode cX6_ringNumber 55 = .ok (.ireturn, 1) := by decide +kernel
set_option maxRecDepth 20000 in
theorem dX6_bestQuarterOut_0 : decode cX6_bestQuarterOut 0 = .ok (.ldc 96, 2) := by decide +kernel
theorem dX6_bestQuarterOut_2 : decode cX6_bestQuarterOut 2 = .ok (.istore_n 2, 1) := by decide +kernel
theorem dX6_bestQuarterOut_3 : decode cX6_bestQuarterOut 3 = .ok (.iconst 0, 1) := by decide +kernel
theorem dX6_bestQuarterOut_4 : decode cX6_bestQuarterOut 4 = .ok (.istore_n 3, 1) := by decide +kernel
theorem dX6_bestQuarterOut_5 : decode cX6_bestQuarterOut 5 = .ok (.iconst 0, 1) := by decide +kernel
theorem dX6_bestQuarterOut_6 : decode cX6_bestQuarterOut 6 = .ok (.istore 4, 2) := by decide +kernel
theorem dX6_bestQuarterOut_8 : decode cX6_bestQuarterOut 8 = .ok (.iload 4, 2) := by decide +kernel
theorem dX6_bestQuarterOut_10 : decode cX6_bestQuarterOut 10 = .ok (.iconst 4, 1) := by decide +kernel
theorem dX6_bestQuarterOut_11 : decode cX6_bestQuarterOut 11 = .ok (.if_icmp .ge 71, 3) := by decide +kernel
theorem dX6_bestQuarterOut_14 : decode cX6_bestQuarterOut 14 = .ok (.iload_n 1, 1) := by decide +kernel
theorem dX6_bestQuarterOut_15 : decode cX6_bestQuarterOut 15 = .ok (.iconst 4, 1) := by decide +kernel
theorem dX6_bestQuarterOut_16 : decode cX6_bestQuarterOut 16 = .ok (.imul, 1) := by decide +kernel
theorem dX6_bestQuarterOut_17 : decode cX6_bestQuarterOut 17 = .ok (.iload 4, 2) := by decide +kernel
theorem dX6_bestQuarterOut_19 : decode cX6_bestQuarterOut 19 = .ok (.iadd, 1) := by decide +kernel
theorem dX6_bestQuarterOut_20 : decode cX6_bestQuarterOut 20 = .ok (.istore 5, 2) := by decide +kernel
theorem dX6_bestQuarterOut_22 : decode cX6_bestQuarterOut 22 = .ok (.aload_n 0, 1) := by decide +kernel
theorem dX6_bestQuarterOut_23 : decode cX6_bestQuarterOut 23 = .ok (.getfield 21, 3) := by decide +kernel
theorem dX6_bestQuarterOut_26 : decode cX6_bestQuarterOut 26 = .ok (.getfield 139, 3) := by decide +kernel
theorem dX6_bestQuarterOut_29 : decode cX6_bestQuarterOut 29 = .ok (.iload 5, 2) := by decide +kernel
theorem dX6_bestQuarterOut_31 : decode cX6_bestQuarterOut 31 = .ok (.iaload, 1) := by decide +kernel
theorem dX6_bestQuarterOut_32 : decode cX6_bestQuarterOut 32 = .ok (.istore 6, 2) := by decide +kernel
theorem dX6_bestQuarterOut_34 : decode cX6_bestQuarterOut 34 = .ok (.aload_n 0, 1) := by decide +kernel
theorem dX6_bestQuarterOut_35 : decode cX6_bestQuarterOut 35 = .ok (.getfield 21, 3) := by decide +kernel
theorem dX6_bestQuarterOut_38 : decode cX6_bestQuarterOut 38 = .ok (.getfield 139, 3) := by decide +kernel
theorem dX6_bestQuarterOut_41 : decode cX6_bestQuarterOut 41 = .ok (.iload 5, 2) := by decide +kernel
theorem dX6_bestQuarterOut_43 : decode cX6_bestQuarterOut 43 = .ok (.iconst (-1), 1) := by decide +kernel
theorem dX6_bestQuarterOut_44 : decode cX6_bestQuarterOut 44 = .ok (.iastore, 1) := by decide +kernel
theorem dX6_bestQuarterOut_45 : decode cX6_bestQuarterOut 45 = .ok (.aload_n 0, 1) := by decide +kernel
theorem dX6_bestQuarterOut_46 : decode cX6_bestQuarterOut 46 = .ok (.iload_n 1, 1) := by decide +kernel
theorem dX6_bestQuarterOut_47 : decode cX6_bestQuarterOut 47 = .ok (.invokevirtual 130, 3) := by decide +kernel
theorem dX6_bestQuarterOut_50 : decode cX6_bestQuarterOut 50 = .ok (.istore 7, 2) := by decide +kernel
theorem dX6_bestQuarterOut_52 : decode cX6_bestQuarterOut 52 = .ok (.aload_n 0, 1) := by decide +kernel
theorem dX6_bestQuarterOut_53 : decode cX6_bestQuarterOut 53 = .ok (.getfield 21, 3) := by decide +kernel
theorem dX6_bestQuarterOut_56 : decode cX6_bestQuarterOut 56 = .ok (.getfield 139, 3) := by decide +kernel
theorem dX6_bestQuarterOut_59 : decode cX6_bestQuarterOut 59 = .ok (.iload 5, 2) := by decide +kernel
theorem dX6_bestQuarterOut_61 : decode cX6_bestQuarterOut 61 = .ok (.iload 6, 2) := by decide +kernel
theorem dX6_bestQuarterOut_63 : decode cX6_bestQuarterOut 63 = .ok (.iastore, 1) := by decide +kernel
theorem dX6_bestQuarterOut_64 : decode cX6_bestQuarterOut 64 = .ok (.iload 7, 2) := by decide +kernel
theorem dX6_bestQuarterOut_66 : decode cX6_bestQuarterOut 66 = .ok (.iload_n 2, 1) := by decide +kernel
theorem dX6_bestQuarterOut_67 : decode cX6_bestQuarterOut 67 = .ok (.if_icmp .le 9, 3) := by decide +kernel
theorem dX6_bestQuarterOut_70 : decode cX6_bestQuarterOut 70 = .ok (.iload 7, 2) := by decide +kernel
theorem dX6_bestQuarterOut_72 : decode cX6_bestQuarterOut 72 = .ok (.istore_n 2, 1) := by decide +kernel
theorem dX6_bestQuarterOut_73 : decode cX6_bestQuarterOut 73 = .ok (.iload 4, 2) := by decide +kernel
theorem dX6_bestQuarterOut_75 : decode cX6_bestQuarterOut 75 = .ok (.istore_n 3, 1) := by decide +kernel
theorem dX6_bestQuarterOut_76 : decode cX6_bestQuarterOut 76 = .ok (.iinc 4 1, 3) := by decide +kernel
theorem dX6_bestQuarterOut_79 : decode cX6_bestQuarterOut 79 = .ok (.goto (-71), 3) := by decide +kernel
theorem dX6_bestQuarterOut_82 : decode cX6_bestQuarterOut 82 = .ok (.iload_n 3, 1) := by decide +kernel
theorem dX6_bestQuarterOut_83 : decode cX6_bestQuarterOut 83 = .ok (.ireturn, 1) := by decide +kernel
set_option maxRecDepth 20000 in
theorem dX6_leastAfter_0 : decode cX6_leastAfter 0 = .ok (.iconst 0, 1) := by decide +kernel
theorem dX6_leastAfter_1 : decode cX6_leastAfter 1 = .ok (.istore_n 3, 1) := by decide +kernel
theorem dX6_leastAfter_2 : decode cX6_leastAfter 2 = .ok (.iload_n 3, 1) := by decide +kernel
theorem dX6_leastAfter_3 : decode cX6_leastAfter 3 = .ok (.bipush 28, 2) := by decide +kernel
theorem dX6_leastAfter_5 : decode cX6_leastAfter 5 = .ok (.if_icmp .gt 34, 3) := by decide +kernel
theorem dX6_leastAfter_8 : decode cX6_leastAfter 8 = .ok (.aload_n 0, 1) := by decide +kernel
theorem dX6_leastAfter_9 : decode cX6_leastAfter 9 = .ok (.getfield 12, 3) := by decide +kernel
theorem dX6_leastAfter_12 : decode cX6_leastAfter 12 = .ok (.getfield 208, 3) := by decide +kernel
theorem dX6_leastAfter_15 : decode cX6_leastAfter 15 = .ok (.iconst 1, 1) := by decide +kernel
theorem dX6_leastAfter_16 : decode cX6_leastAfter 16 = .ok (.iload_n 3, 1) := by decide +kernel
theorem dX6_leastAfter_17 : decode cX6_leastAfter 17 = .ok (.iastore, 1) := by decide +kernel
theorem dX6_leastAfter_18 : decode cX6_leastAfter 18 = .ok (.aload_n 0, 1) := by decide +kernel
theorem dX6_leastAfter_19 : decode cX6_leastAfter 19 = .ok (.iload_n 1, 1) := by decide +kernel
theorem dX6_leastAfter_20 : decode cX6_leastAfter 20 = .ok (.invokevirtual 133, 3) := by decide +kernel
theorem dX6_leastAfter_23 : decode cX6_leastAfter 23 = .ok (.aload_n 0, 1) := by decide +kernel
theorem dX6_leastAfter_24 : decode cX6_leastAfter 24 = .ok (.getfield 97, 3) := by decide +kernel
theorem dX6_leastAfter_27 : decode cX6_leastAfter 27 = .ok (.iload_n 2, 1) := by decide +kernel
theorem dX6_leastAfter_28 : decode cX6_leastAfter 28 = .ok (.if_icmp .gt 5, 3) := by decide +kernel
theorem dX6_leastAfter_31 : decode cX6_leastAfter 31 = .ok (.iload_n 3, 1) := by decide +kernel
theorem dX6_leastAfter_32 : decode cX6_leastAfter 32 = .ok (.ireturn, 1) := by decide +kernel
theorem dX6_leastAfter_33 : decode cX6_leastAfter 33 = .ok (.iinc 3 1, 3) := by decide +kernel
theorem dX6_leastAfter_36 : decode cX6_leastAfter 36 = .ok (.goto (-34), 3) := by decide +kernel
theorem dX6_leastAfter_39 : decode cX6_leastAfter 39 = .ok (.iconst (-1), 1) := by decide +kernel
theorem dX6_leastAfter_40 : decode cX6_leastAfter 40 = .ok (.ireturn, 1) := by decide +kernel
set_option maxRecDepth 20000 in
theorem dX6_bestLets_0 : decode cX6_bestLets 0 = .ok (.ldc 96, 2) := by decide +kernel
theorem dX6_bestLets_2 : decode cX6_bestLets 2 = .ok (.istore_n 2, 1) := by decide +kernel
theorem dX6_bestLets_3 : decode cX6_bestLets 3 = .ok (.iconst 0, 1) := by decide +kernel
theorem dX6_bestLets_4 : decode cX6_bestLets 4 = .ok (.istore_n 3, 1) := by decide +kernel
theorem dX6_bestLets_5 : decode cX6_bestLets 5 = .ok (.iconst 0, 1) := by decide +kernel
theorem dX6_bestLets_6 : decode cX6_bestLets 6 = .ok (.istore 4, 2) := by decide +kernel
theorem dX6_bestLets_8 : decode cX6_bestLets 8 = .ok (.iload 4, 2) := by decide +kernel
theorem dX6_bestLets_10 : decode cX6_bestLets 10 = .ok (.iconst 1, 1) := by decide +kernel
theorem dX6_bestLets_11 : decode cX6_bestLets 11 = .ok (.aload_n 0, 1) := by decide +kernel
theorem dX6_bestLets_12 : decode cX6_bestLets 12 = .ok (.getfield 12, 3) := by decide +kernel
theorem dX6_bestLets_15 : decode cX6_bestLets 15 = .ok (.getfield 127, 3) := by decide +kernel
theorem dX6_bestLets_18 : decode cX6_bestLets 18 = .ok (.ishl, 1) := by decide +kernel
theorem dX6_bestLets_19 : decode cX6_bestLets 19 = .ok (.if_icmp .ge 48, 3) := by decide +kernel
theorem dX6_bestLets_22 : decode cX6_bestLets 22 = .ok (.iload 4, 2) := by decide +kernel
theorem dX6_bestLets_24 : decode cX6_bestLets 24 = .ok (.iload_n 1, 1) := by decide +kernel
theorem dX6_bestLets_25 : decode cX6_bestLets 25 = .ok (.ishr, 1) := by decide +kernel
theorem dX6_bestLets_26 : decode cX6_bestLets 26 = .ok (.iconst 1, 1) := by decide +kernel
theorem dX6_bestLets_27 : decode cX6_bestLets 27 = .ok (.iand, 1) := by decide +kernel
theorem dX6_bestLets_28 : decode cX6_bestLets 28 = .ok (.ifCond .ne 33, 3) := by decide +kernel
theorem dX6_bestLets_31 : decode cX6_bestLets 31 = .ok (.aload_n 0, 1) := by decide +kernel
theorem dX6_bestLets_32 : decode cX6_bestLets 32 = .ok (.getfield 21, 3) := by decide +kernel
theorem dX6_bestLets_35 : decode cX6_bestLets 35 = .ok (.getfield 82, 3) := by decide +kernel
theorem dX6_bestLets_38 : decode cX6_bestLets 38 = .ok (.iload_n 1, 1) := by decide +kernel
theorem dX6_bestLets_39 : decode cX6_bestLets 39 = .ok (.iload 4, 2) := by decide +kernel
theorem dX6_bestLets_41 : decode cX6_bestLets 41 = .ok (.iastore, 1) := by decide +kernel
theorem dX6_bestLets_42 : decode cX6_bestLets 42 = .ok (.aload_n 0, 1) := by decide +kernel
theorem dX6_bestLets_43 : decode cX6_bestLets 43 = .ok (.iload_n 1, 1) := by decide +kernel
theorem dX6_bestLets_44 : decode cX6_bestLets 44 = .ok (.invokevirtual 130, 3) := by decide +kernel
theorem dX6_bestLets_47 : decode cX6_bestLets 47 = .ok (.istore 5, 2) := by decide +kernel
theorem dX6_bestLets_49 : decode cX6_bestLets 49 = .ok (.iload 5, 2) := by decide +kernel
theorem dX6_bestLets_51 : decode cX6_bestLets 51 = .ok (.iload_n 2, 1) := by decide +kernel
theorem dX6_bestLets_52 : decode cX6_bestLets 52 = .ok (.if_icmp .le 9, 3) := by decide +kernel
theorem dX6_bestLets_55 : decode cX6_bestLets 55 = .ok (.iload 5, 2) := by decide +kernel
theorem dX6_bestLets_57 : decode cX6_bestLets 57 = .ok (.istore_n 2, 1) := by decide +kernel
theorem dX6_bestLets_58 : decode cX6_bestLets 58 = .ok (.iload 4, 2) := by decide +kernel
theorem dX6_bestLets_60 : decode cX6_bestLets 60 = .ok (.istore_n 3, 1) := by decide +kernel
theorem dX6_bestLets_61 : decode cX6_bestLets 61 = .ok (.iinc 4 1, 3) := by decide +kernel
theorem dX6_bestLets_64 : decode cX6_bestLets 64 = .ok (.goto (-56), 3) := by decide +kernel
theorem dX6_bestLets_67 : decode cX6_bestLets 67 = .ok (.iload_n 3, 1) := by decide +kernel
theorem dX6_bestLets_68 : decode cX6_bestLets 68 = .ok (.ireturn, 1) := by decide +kernel
set_option maxRecDepth 20000 in
theorem dX6_leastWorth_0 : decode cX6_leastWorth 0 = .ok (.aload_n 0, 1) := by decide +kernel
theorem dX6_leastWorth_1 : decode cX6_leastWorth 1 = .ok (.getfield 12, 3) := by decide +kernel
theorem dX6_leastWorth_4 : decode cX6_leastWorth 4 = .ok (.getfield 187, 3) := by decide +kernel
theorem dX6_leastWorth_7 : decode cX6_leastWorth 7 = .ok (.iload_n 1, 1) := by decide +kernel
theorem dX6_leastWorth_8 : decode cX6_leastWorth 8 = .ok (.iaload, 1) := by decide +kernel
theorem dX6_leastWorth_9 : decode cX6_leastWorth 9 = .ok (.istore_n 3, 1) := by decide +kernel
theorem dX6_leastWorth_10 : decode cX6_leastWorth 10 = .ok (.iload_n 3, 1) := by decide +kernel
theorem dX6_leastWorth_11 : decode cX6_leastWorth 11 = .ok (.iconst (-1), 1) := by decide +kernel
theorem dX6_leastWorth_12 : decode cX6_leastWorth 12 = .ok (.if_icmp .ne 5, 3) := by decide +kernel
theorem dX6_leastWorth_15 : decode cX6_leastWorth 15 = .ok (.iconst (-1), 1) := by decide +kernel
theorem dX6_leastWorth_16 : decode cX6_leastWorth 16 = .ok (.ireturn, 1) := by decide +kernel
theorem dX6_leastWorth_17 : decode cX6_leastWorth 17 = .ok (.aload_n 0, 1) := by decide +kernel
theorem dX6_leastWorth_18 : decode cX6_leastWorth 18 = .ok (.getfield 21, 3) := by decide +kernel
theorem dX6_leastWorth_21 : decode cX6_leastWorth 21 = .ok (.getfield 82, 3) := by decide +kernel
theorem dX6_leastWorth_24 : decode cX6_leastWorth 24 = .ok (.iload_n 1, 1) := by decide +kernel
theorem dX6_leastWorth_25 : decode cX6_leastWorth 25 = .ok (.iaload, 1) := by decide +kernel
theorem dX6_leastWorth_26 : decode cX6_leastWorth 26 = .ok (.iconst 1, 1) := by decide +kernel
theorem dX6_leastWorth_27 : decode cX6_leastWorth 27 = .ok (.iload_n 2, 1) := by decide +kernel
theorem dX6_leastWorth_28 : decode cX6_leastWorth 28 = .ok (.ishl, 1) := by decide +kernel
theorem dX6_leastWorth_29 : decode cX6_leastWorth 29 = .ok (.ior, 1) := by decide +kernel
theorem dX6_leastWorth_30 : decode cX6_leastWorth 30 = .ok (.istore 4, 2) := by decide +kernel
theorem dX6_leastWorth_32 : decode cX6_leastWorth 32 = .ok (.iconst 0, 1) := by decide +kernel
theorem dX6_leastWorth_33 : decode cX6_leastWorth 33 = .ok (.istore 5, 2) := by decide +kernel
theorem dX6_leastWorth_35 : decode cX6_leastWorth 35 = .ok (.iload 5, 2) := by decide +kernel
theorem dX6_leastWorth_37 : decode cX6_leastWorth 37 = .ok (.bipush 20, 2) := by decide +kernel
theorem dX6_leastWorth_39 : decode cX6_leastWorth 39 = .ok (.if_icmp .gt 68, 3) := by decide +kernel
theorem dX6_leastWorth_42 : decode cX6_leastWorth 42 = .ok (.aload_n 0, 1) := by decide +kernel
theorem dX6_leastWorth_43 : decode cX6_leastWorth 43 = .ok (.getfield 12, 3) := by decide +kernel
theorem dX6_leastWorth_46 : decode cX6_leastWorth 46 = .ok (.getfield 211, 3) := by decide +kernel
theorem dX6_leastWorth_49 : decode cX6_leastWorth 49 = .ok (.iload_n 3, 1) := by decide +kernel
theorem dX6_leastWorth_50 : decode cX6_leastWorth 50 = .ok (.iload 5, 2) := by decide +kernel
theorem dX6_leastWorth_52 : decode cX6_leastWorth 52 = .ok (.iastore, 1) := by decide +kernel
theorem dX6_leastWorth_53 : decode cX6_leastWorth 53 = .ok (.aload_n 0, 1) := by decide +kernel
theorem dX6_leastWorth_54 : decode cX6_leastWorth 54 = .ok (.getfield 21, 3) := by decide +kernel
theorem dX6_leastWorth_57 : decode cX6_leastWorth 57 = .ok (.getfield 82, 3) := by decide +kernel
theorem dX6_leastWorth_60 : decode cX6_leastWorth 60 = .ok (.iload_n 1, 1) := by decide +kernel
theorem dX6_leastWorth_61 : decode cX6_leastWorth 61 = .ok (.iload 4, 2) := by decide +kernel
theorem dX6_leastWorth_63 : decode cX6_leastWorth 63 = .ok (.iastore, 1) := by decide +kernel
theorem dX6_leastWorth_64 : decode cX6_leastWorth 64 = .ok (.aload_n 0, 1) := by decide +kernel
theorem dX6_leastWorth_65 : decode cX6_leastWorth 65 = .ok (.iload_n 1, 1) := by decide +kernel
theorem dX6_leastWorth_66 : decode cX6_leastWorth 66 = .ok (.invokevirtual 130, 3) := by decide +kernel
theorem dX6_leastWorth_69 : decode cX6_leastWorth 69 = .ok (.istore 6, 2) := by decide +kernel
theorem dX6_leastWorth_71 : decode cX6_leastWorth 71 = .ok (.aload_n 0, 1) := by decide +kernel
theorem dX6_leastWorth_72 : decode cX6_leastWorth 72 = .ok (.getfield 21, 3) := by decide +kernel
theorem dX6_leastWorth_75 : decode cX6_leastWorth 75 = .ok (.getfield 82, 3) := by decide +kernel
theorem dX6_leastWorth_78 : decode cX6_leastWorth 78 = .ok (.iload_n 1, 1) := by decide +kernel
theorem dX6_leastWorth_79 : decode cX6_leastWorth 79 = .ok (.iload 4, 2) := by decide +kernel
theorem dX6_leastWorth_81 : decode cX6_leastWorth 81 = .ok (.iconst 1, 1) := by decide +kernel
theorem dX6_leastWorth_82 : decode cX6_leastWorth 82 = .ok (.iload_n 2, 1) := by decide +kernel
theorem dX6_leastWorth_83 : decode cX6_leastWorth 83 = .ok (.ishl, 1) := by decide +kernel
theorem dX6_leastWorth_84 : decode cX6_leastWorth 84 = .ok (.iconst (-1), 1) := by decide +kernel
theorem dX6_leastWorth_85 : decode cX6_leastWorth 85 = .ok (.ixor, 1) := by decide +kernel
theorem dX6_leastWorth_86 : decode cX6_leastWorth 86 = .ok (.iand, 1) := by decide +kernel
theorem dX6_leastWorth_87 : decode cX6_leastWorth 87 = .ok (.iastore, 1) := by decide +kernel
theorem dX6_leastWorth_88 : decode cX6_leastWorth 88 = .ok (.aload_n 0, 1) := by decide +kernel
theorem dX6_leastWorth_89 : decode cX6_leastWorth 89 = .ok (.iload_n 1, 1) := by decide +kernel
theorem dX6_leastWorth_90 : decode cX6_leastWorth 90 = .ok (.invokevirtual 130, 3) := by decide +kernel
theorem dX6_leastWorth_93 : decode cX6_leastWorth 93 = .ok (.iload 6, 2) := by decide +kernel
theorem dX6_leastWorth_95 : decode cX6_leastWorth 95 = .ok (.if_icmp .le 6, 3) := by decide +kernel
theorem dX6_leastWorth_98 : decode cX6_leastWorth 98 = .ok (.iload 5, 2) := by decide +kernel
theorem dX6_leastWorth_100 : decode cX6_leastWorth 100 = .ok (.ireturn, 1) := by decide +kernel
theorem dX6_leastWorth_101 : decode cX6_leastWorth 101 = .ok (.iinc 5 1, 3) := by decide +kernel
theorem dX6_leastWorth_104 : decode cX6_leastWorth 104 = .ok (.goto (-69), 3) := by decide +kernel
theorem dX6_leastWorth_107 : decode cX6_leastWorth 107 = .ok (.iconst (-1), 1) := by decide +kernel
theorem dX6_leastWorth_108 : decode cX6_leastWorth 108 = .ok (.ireturn, 1) := by decide +kernel
set_option maxRecDepth 20000 in
theorem dX6_bestChairs_0 : decode cX6_bestChairs 0 = .ok (.ldc 96, 2) := by decide +kernel
theorem dX6_bestChairs_2 : decode cX6_bestChairs 2 = .ok (.istore_n 2, 1) := by decide +kernel
theorem dX6_bestChairs_3 : decode cX6_bestChairs 3 = .ok (.iconst 1, 1) := by decide +kernel
theorem dX6_bestChairs_4 : decode cX6_bestChairs 4 = .ok (.istore_n 3, 1) := by decide +kernel
theorem dX6_bestChairs_5 : decode cX6_bestChairs 5 = .ok (.iconst 1, 1) := by decide +kernel
theorem dX6_bestChairs_6 : decode cX6_bestChairs 6 = .ok (.istore 4, 2) := by decide +kernel
theorem dX6_bestChairs_8 : decode cX6_bestChairs 8 = .ok (.iload 4, 2) := by decide +kernel
theorem dX6_bestChairs_10 : decode cX6_bestChairs 10 = .ok (.iconst 4, 1) := by decide +kernel
theorem dX6_bestChairs_11 : decode cX6_bestChairs 11 = .ok (.if_icmp .gt 39, 3) := by decide +kernel
theorem dX6_bestChairs_14 : decode cX6_bestChairs 14 = .ok (.aload_n 0, 1) := by decide +kernel
theorem dX6_bestChairs_15 : decode cX6_bestChairs 15 = .ok (.getfield 12, 3) := by decide +kernel
theorem dX6_bestChairs_18 : decode cX6_bestChairs 18 = .ok (.getfield 208, 3) := by decide +kernel
theorem dX6_bestChairs_21 : decode cX6_bestChairs 21 = .ok (.iconst 0, 1) := by decide +kernel
theorem dX6_bestChairs_22 : decode cX6_bestChairs 22 = .ok (.iload 4, 2) := by decide +kernel
theorem dX6_bestChairs_24 : decode cX6_bestChairs 24 = .ok (.iastore, 1) := by decide +kernel
theorem dX6_bestChairs_25 : decode cX6_bestChairs 25 = .ok (.aload_n 0, 1) := by decide +kernel
theorem dX6_bestChairs_26 : decode cX6_bestChairs 26 = .ok (.iload_n 1, 1) := by decide +kernel
theorem dX6_bestChairs_27 : decode cX6_bestChairs 27 = .ok (.invokevirtual 130, 3) := by decide +kernel
theorem dX6_bestChairs_30 : decode cX6_bestChairs 30 = .ok (.istore 5, 2) := by decide +kernel
theorem dX6_bestChairs_32 : decode cX6_bestChairs 32 = .ok (.iload 5, 2) := by decide +kernel
theorem dX6_bestChairs_34 : decode cX6_bestChairs 34 = .ok (.iload_n 2, 1) := by decide +kernel
theorem dX6_bestChairs_35 : decode cX6_bestChairs 35 = .ok (.if_icmp .le 9, 3) := by decide +kernel
theorem dX6_bestChairs_38 : decode cX6_bestChairs 38 = .ok (.iload 5, 2) := by decide +kernel
theorem dX6_bestChairs_40 : decode cX6_bestChairs 40 = .ok (.istore_n 2, 1) := by decide +kernel
theorem dX6_bestChairs_41 : decode cX6_bestChairs 41 = .ok (.iload 4, 2) := by decide +kernel
theorem dX6_bestChairs_43 : decode cX6_bestChairs 43 = .ok (.istore_n 3, 1) := by decide +kernel
theorem dX6_bestChairs_44 : decode cX6_bestChairs 44 = .ok (.iinc 4 1, 3) := by decide +kernel
theorem dX6_bestChairs_47 : decode cX6_bestChairs 47 = .ok (.goto (-39), 3) := by decide +kernel
theorem dX6_bestChairs_50 : decode cX6_bestChairs 50 = .ok (.iload_n 3, 1) := by decide +kernel
theorem dX6_bestChairs_51 : decode cX6_bestChairs 51 = .ok (.ireturn, 1) := by decide +kernel
set_option maxRecDepth 20000 in
theorem dX6_runLaw_0 : decode cX6_runLaw 0 = .ok (.aload_n 0, 1) := by decide +kernel
theorem dX6_runLaw_1 : decode cX6_runLaw 1 = .ok (.getfield 12, 3) := by decide +kernel
theorem dX6_runLaw_4 : decode cX6_runLaw 4 = .ok (.iload_n 1, 1) := by decide +kernel
theorem dX6_runLaw_5 : decode cX6_runLaw 5 = .ok (.putfield 214, 3) := by decide +kernel
theorem dX6_runLaw_8 : decode cX6_runLaw 8 = .ok (.aload_n 0, 1) := by decide +kernel
theorem dX6_runLaw_9 : decode cX6_runLaw 9 = .ok (.getfield 12, 3) := by decide +kernel
theorem dX6_runLaw_12 : decode cX6_runLaw 12 = .ok (.getfield 208, 3) := by decide +kernel
theorem dX6_runLaw_15 : decode cX6_runLaw 15 = .ok (.iconst 1, 1) := by decide +kernel
theorem dX6_runLaw_16 : decode cX6_runLaw 16 = .ok (.iload_n 2, 1) := by decide +kernel
theorem dX6_runLaw_17 : decode cX6_runLaw 17 = .ok (.iastore, 1) := by decide +kernel
theorem dX6_runLaw_18 : decode cX6_runLaw 18 = .ok (.aload_n 0, 1) := by decide +kernel
theorem dX6_runLaw_19 : decode cX6_runLaw 19 = .ok (.iload_n 3, 1) := by decide +kernel
theorem dX6_runLaw_20 : decode cX6_runLaw 20 = .ok (.iconst 4, 1) := by decide +kernel
theorem dX6_runLaw_21 : decode cX6_runLaw 21 = .ok (.imul, 1) := by decide +kernel
theorem dX6_runLaw_22 : decode cX6_runLaw 22 = .ok (.invokevirtual 89, 3) := by decide +kernel
theorem dX6_runLaw_25 : decode cX6_runLaw 25 = .ok (.return_, 1) := by decide +kernel
theorem dX6_gainOfAll_0 : decode cX6_gainOfAll 0 = .ok (.iconst 0, 1) := by decide +kernel
theorem dX6_gainOfAll_1 : decode cX6_gainOfAll 1 = .ok (.istore_n 1, 1) := by decide +kernel
theorem dX6_gainOfAll_2 : decode cX6_gainOfAll 2 = .ok (.iconst 0, 1) := by decide +kernel
theorem dX6_gainOfAll_3 : decode cX6_gainOfAll 3 = .ok (.istore_n 2, 1) := by decide +kernel
theorem dX6_gainOfAll_4 : decode cX6_gainOfAll 4 = .ok (.iload_n 2, 1) := by decide +kernel
theorem dX6_gainOfAll_5 : decode cX6_gainOfAll 5 = .ok (.aload_n 0, 1) := by decide +kernel
theorem dX6_gainOfAll_6 : decode cX6_gainOfAll 6 = .ok (.getfield 12, 3) := by decide +kernel
theorem dX6_gainOfAll_9 : decode cX6_gainOfAll 9 = .ok (.getfield 127, 3) := by decide +kernel
theorem dX6_gainOfAll_12 : decode cX6_gainOfAll 12 = .ok (.if_icmp .ge 31, 3) := by decide +kernel
theorem dX6_gainOfAll_15 : decode cX6_gainOfAll 15 = .ok (.iload_n 1, 1) := by decide +kernel
theorem dX6_gainOfAll_16 : decode cX6_gainOfAll 16 = .ok (.aload_n 0, 1) := by decide +kernel
theorem dX6_gainOfAll_17 : decode cX6_gainOfAll 17 = .ok (.getfield 32, 3) := by decide +kernel
theorem dX6_gainOfAll_20 : decode cX6_gainOfAll 20 = .ok (.getfield 93, 3) := by decide +kernel
theorem dX6_gainOfAll_23 : decode cX6_gainOfAll 23 = .ok (.iload_n 2, 1) := by decide +kernel
theorem dX6_gainOfAll_24 : decode cX6_gainOfAll 24 = .ok (.iaload, 1) := by decide +kernel
theorem dX6_gainOfAll_25 : decode cX6_gainOfAll 25 = .ok (.aload_n 0, 1) := by decide +kernel
theorem dX6_gainOfAll_26 : decode cX6_gainOfAll 26 = .ok (.getfield 28, 3) := by decide +kernel
theorem dX6_gainOfAll_29 : decode cX6_gainOfAll 29 = .ok (.getfield 93, 3) := by decide +kernel
theorem dX6_gainOfAll_32 : decode cX6_gainOfAll 32 = .ok (.iload_n 2, 1) := by decide +kernel
theorem dX6_gainOfAll_33 : decode cX6_gainOfAll 33 = .ok (.iaload, 1) := by decide +kernel
theorem dX6_gainOfAll_34 : decode cX6_gainOfAll 34 = .ok (.isub, 1) := by decide +kernel
theorem dX6_gainOfAll_35 : decode cX6_gainOfAll 35 = .ok (.iadd, 1) := by decide +kernel
theorem dX6_gainOfAll_36 : decode cX6_gainOfAll 36 = .ok (.istore_n 1, 1) := by decide +kernel
theorem dX6_gainOfAll_37 : decode cX6_gainOfAll 37 = .ok (.iinc 2 1, 3) := by decide +kernel
theorem dX6_gainOfAll_40 : decode cX6_gainOfAll 40 = .ok (.goto (-36), 3) := by decide +kernel
theorem dX6_gainOfAll_43 : decode cX6_gainOfAll 43 = .ok (.iload_n 1, 1) := by decide +kernel
theorem dX6_gainOfAll_44 : decode cX6_gainOfAll 44 = .ok (.ireturn, 1) := by decide +kernel
theorem dX6_stateLost_0 : decode cX6_stateLost 0 = .ok (.iconst 0, 1) := by decide +kernel
theorem dX6_stateLost_1 : decode cX6_stateLost 1 = .ok (.istore_n 1, 1) := by decide +kernel
theorem dX6_stateLost_2 : decode cX6_stateLost 2 = .ok (.iconst 0, 1) := by decide +kernel
theorem dX6_stateLost_3 : decode cX6_stateLost 3 = .ok (.istore_n 2, 1) := by decide +kernel
theorem dX6_stateLost_4 : decode cX6_stateLost 4 = .ok (.iload_n 2, 1) := by decide +kernel
theorem dX6_stateLost_5 : decode cX6_stateLost 5 = .ok (.aload_n 0, 1) := by decide +kernel
theorem dX6_stateLost_6 : decode cX6_stateLost 6 = .ok (.getfield 12, 3) := by decide +kernel
theorem dX6_stateLost_9 : decode cX6_stateLost 9 = .ok (.getfield 71, 3) := by decide +kernel
theorem dX6_stateLost_12 : decode cX6_stateLost 12 = .ok (.if_icmp .ge 31, 3) := by decide +kernel
theorem dX6_stateLost_15 : decode cX6_stateLost 15 = .ok (.iload_n 1, 1) := by decide +kernel
theorem dX6_stateLost_16 : decode cX6_stateLost 16 = .ok (.aload_n 0, 1) := by decide +kernel
theorem dX6_stateLost_17 : decode cX6_stateLost 17 = .ok (.getfield 28, 3) := by decide +kernel
theorem dX6_stateLost_20 : decode cX6_stateLost 20 = .ok (.getfield 218, 3) := by decide +kernel
theorem dX6_stateLost_23 : decode cX6_stateLost 23 = .ok (.iload_n 2, 1) := by decide +kernel
theorem dX6_stateLost_24 : decode cX6_stateLost 24 = .ok (.iaload, 1) := by decide +kernel
theorem dX6_stateLost_25 : decode cX6_stateLost 25 = .ok (.aload_n 0, 1) := by decide +kernel
theorem dX6_stateLost_26 : decode cX6_stateLost 26 = .ok (.getfield 32, 3) := by decide +kernel
theorem dX6_stateLost_29 : decode cX6_stateLost 29 = .ok (.getfield 218, 3) := by decide +kernel
theorem dX6_stateLost_32 : decode cX6_stateLost 32 = .ok (.iload_n 2, 1) := by decide +kernel
theorem dX6_stateLost_33 : decode cX6_stateLost 33 = .ok (.iaload, 1) := by decide +kernel
theorem dX6_stateLost_34 : decode cX6_stateLost 34 = .ok (.isub, 1) := by decide +kernel
theorem dX6_stateLost_35 : decode cX6_stateLost 35 = .ok (.iadd, 1) := by decide +kernel
theorem dX6_stateLost_36 : decode cX6_stateLost 36 = .ok (.istore_n 1, 1) := by decide +kernel
theorem dX6_stateLost_37 : decode cX6_stateLost 37 = .ok (.iinc 2 1, 3) := by decide +kernel
theorem dX6_stateLost_40 : decode cX6_stateLost 40 = .ok (.goto (-36), 3) := by decide +kernel
theorem dX6_stateLost_43 : decode cX6_stateLost 43 = .ok (.iload_n 1, 1) := by decide +kernel
theorem dX6_stateLost_44 : decode cX6_stateLost 44 = .ok (.ireturn, 1) := by decide +kernel
set_option maxRecDepth 20000 in
theorem dX6_greatestLaw_0 : decode cX6_greatestLaw 0 = .ok (.ldc 96, 2) := by decide +kernel
theorem dX6_greatestLaw_2 : decode cX6_greatestLaw 2 = .ok (.istore_n 2, 1) := by decide +kernel
theorem dX6_greatestLaw_3 : decode cX6_greatestLaw 3 = .ok (.iconst 0, 1) := by decide +kernel
theorem dX6_greatestLaw_4 : decode cX6_greatestLaw 4 = .ok (.istore_n 3, 1) := by decide +kernel
theorem dX6_greatestLaw_5 : decode cX6_greatestLaw 5 = .ok (.iconst 0, 1) := by decide +kernel
theorem dX6_greatestLaw_6 : decode cX6_greatestLaw 6 = .ok (.istore 4, 2) := by decide +kernel
theorem dX6_greatestLaw_8 : decode cX6_greatestLaw 8 = .ok (.iload 4, 2) := by decide +kernel
theorem dX6_greatestLaw_10 : decode cX6_greatestLaw 10 = .ok (.iconst 2, 1) := by decide +kernel
theorem dX6_greatestLaw_11 : decode cX6_greatestLaw 11 = .ok (.if_icmp .ge 65, 3) := by decide +kernel
theorem dX6_greatestLaw_14 : decode cX6_greatestLaw 14 = .ok (.iconst 0, 1) := by decide +kernel
theorem dX6_greatestLaw_15 : decode cX6_greatestLaw 15 = .ok (.istore 5, 2) := by decide +kernel
theorem dX6_greatestLaw_17 : decode cX6_greatestLaw 17 = .ok (.iload 5, 2) := by decide +kernel
theorem dX6_greatestLaw_19 : decode cX6_greatestLaw 19 = .ok (.bipush 28, 2) := by decide +kernel
theorem dX6_greatestLaw_21 : decode cX6_greatestLaw 21 = .ok (.if_icmp .gt 49, 3) := by decide +kernel
theorem dX6_greatestLaw_24 : decode cX6_greatestLaw 24 = .ok (.aload_n 0, 1) := by decide +kernel
theorem dX6_greatestLaw_25 : decode cX6_greatestLaw 25 = .ok (.iload 4, 2) := by decide +kernel
theorem dX6_greatestLaw_27 : decode cX6_greatestLaw 27 = .ok (.iconst 1, 1) := by decide +kernel
theorem dX6_greatestLaw_28 : decode cX6_greatestLaw 28 = .ok (.if_icmp .ne 7, 3) := by decide +kernel
theorem dX6_greatestLaw_31 : decode cX6_greatestLaw 31 = .ok (.iconst 1, 1) := by decide +kernel
theorem dX6_greatestLaw_32 : decode cX6_greatestLaw 32 = .ok (.goto 4, 3) := by decide +kernel
theorem dX6_greatestLaw_35 : decode cX6_greatestLaw 35 = .ok (.iconst 0, 1) := by decide +kernel
theorem dX6_greatestLaw_36 : decode cX6_greatestLaw 36 = .ok (.iload 5, 2) := by decide +kernel
theorem dX6_greatestLaw_38 : decode cX6_greatestLaw 38 = .ok (.iload_n 1, 1) := by decide +kernel
theorem dX6_greatestLaw_39 : decode cX6_greatestLaw 39 = .ok (.invokevirtual 221, 3) := by decide +kernel
theorem dX6_greatestLaw_42 : decode cX6_greatestLaw 42 = .ok (.aload_n 0, 1) := by decide +kernel
theorem dX6_greatestLaw_43 : decode cX6_greatestLaw 43 = .ok (.invokevirtual 225, 3) := by decide +kernel
theorem dX6_greatestLaw_46 : decode cX6_greatestLaw 46 = .ok (.iload_n 2, 1) := by decide +kernel
theorem dX6_greatestLaw_47 : decode cX6_greatestLaw 47 = .ok (.if_icmp .le 17, 3) := by decide +kernel
theorem dX6_greatestLaw_50 : decode cX6_greatestLaw 50 = .ok (.aload_n 0, 1) := by decide +kernel
theorem dX6_greatestLaw_51 : decode cX6_greatestLaw 51 = .ok (.invokevirtual 225, 3) := by decide +kernel
theorem dX6_greatestLaw_54 : decode cX6_greatestLaw 54 = .ok (.istore_n 2, 1) := by decide +kernel
theorem dX6_greatestLaw_55 : decode cX6_greatestLaw 55 = .ok (.bipush 100, 2) := by decide +kernel
theorem dX6_greatestLaw_57 : decode cX6_greatestLaw 57 = .ok (.iload 4, 2) := by decide +kernel
theorem dX6_greatestLaw_59 : decode cX6_greatestLaw 59 = .ok (.imul, 1) := by decide +kernel
theorem dX6_greatestLaw_60 : decode cX6_greatestLaw 60 = .ok (.iload 5, 2) := by decide +kernel
theorem dX6_greatestLaw_62 : decode cX6_greatestLaw 62 = .ok (.iadd, 1) := by decide +kernel
theorem dX6_greatestLaw_63 : decode cX6_greatestLaw 63 = .ok (.istore_n 3, 1) := by decide +kernel
theorem dX6_greatestLaw_64 : decode cX6_greatestLaw 64 = .ok (.iinc 5 1, 3) := by decide +kernel
theorem dX6_greatestLaw_67 : decode cX6_greatestLaw 67 = .ok (.goto (-50), 3) := by decide +kernel
theorem dX6_greatestLaw_70 : decode cX6_greatestLaw 70 = .ok (.iinc 4 1, 3) := by decide +kernel
theorem dX6_greatestLaw_73 : decode cX6_greatestLaw 73 = .ok (.goto (-65), 3) := by decide +kernel
theorem dX6_greatestLaw_76 : decode cX6_greatestLaw 76 = .ok (.iload_n 3, 1) := by decide +kernel
theorem dX6_greatestLaw_77 : decode cX6_greatestLaw 77 = .ok (.ireturn, 1) := by decide +kernel
theorem dX7_init_0 : decode cX7_init 0 = .ok (.aload_n 0, 1) := by decide +kernel
theorem dX7_init_1 : decode cX7_init 1 = .ok (.invokespecial 3, 3) := by decide +kernel
theorem dX7_init_4 : decode cX7_init 4 = .ok (.aload_n 0, 1) := by decide +kernel
theorem dX7_init_5 : decode cX7_init 5 = .ok (.bipush 6, 2) := by decide +kernel
theorem dX7_init_7 : decode cX7_init 7 = .ok (.newarray .int, 2) := by decide +kernel
theorem dX7_init_9 : decode cX7_init 9 = .ok (.putfield 9, 3) := by decide +kernel
theorem dX7_init_12 : decode cX7_init 12 = .ok (.aload_n 0, 1) := by decide +kernel
theorem dX7_init_13 : decode cX7_init 13 = .ok (.iconst 5, 1) := by decide +kernel
theorem dX7_init_14 : decode cX7_init 14 = .ok (.newarray .long, 2) := by decide +kernel
theorem dX7_init_16 : decode cX7_init 16 = .ok (.putfield 15, 3) := by decide +kernel
theorem dX7_init_19 : decode cX7_init 19 = .ok (.aload_n 0, 1) := by decide +kernel
theorem dX7_init_20 : decode cX7_init 20 = .ok (.iconst 5, 1) := by decide +kernel
theorem dX7_init_21 : decode cX7_init 21 = .ok (.newarray .int, 2) := by decide +kernel
theorem dX7_init_23 : decode cX7_init 23 = .ok (.putfield 19, 3) := by decide +kernel
theorem dX7_init_26 : decode cX7_init 26 = .ok (.aload_n 0, 1) := by decide +kernel
theorem dX7_init_27 : decode cX7_init 27 = .ok (.iconst 5, 1) := by decide +kernel
theorem dX7_init_28 : decode cX7_init 28 = .ok (.newarray .int, 2) := by decide +kernel
theorem dX7_init_30 : decode cX7_init 30 = .ok (.putfield 22, 3) := by decide +kernel
theorem dX7_init_33 : decode cX7_init 33 = .ok (.aload_n 0, 1) := by decide +kernel
theorem dX7_init_34 : decode cX7_init 34 = .ok (.iconst 5, 1) := by decide +kernel
theorem dX7_init_35 : decode cX7_init 35 = .ok (.newarray .int, 2) := by decide +kernel
theorem dX7_init_37 : decode cX7_init 37 = .ok (.putfield 25, 3) := by decide +kernel
theorem dX7_init_40 : decode cX7_init 40 = .ok (.aload_n 0, 1) := by decide +kernel
theorem dX7_init_41 : decode cX7_init 41 = .ok (.iconst 5, 1) := by decide +kernel
theorem dX7_init_42 : decode cX7_init 42 = .ok (.newarray .int, 2) := by decide +kernel
theorem dX7_init_44 : decode cX7_init 44 = .ok (.putfield 28, 3) := by decide +kernel
theorem dX7_init_47 : decode cX7_init 47 = .ok (.aload_n 0, 1) := by decide +kernel
theorem dX7_init_48 : decode cX7_init 48 = .ok (.iconst 5, 1) := by decide +kernel
theorem dX7_init_49 : decode cX7_init 49 = .ok (.newarray .long, 2) := by decide +kernel
theorem dX7_init_51 : decode cX7_init 51 = .ok (.putfield 31, 3) := by decide +kernel
theorem dX7_init_54 : decode cX7_init 54 = .ok (.aload_n 0, 1) := by decide +kernel
theorem dX7_init_55 : decode cX7_init 55 = .ok (.iconst 5, 1) := by decide +kernel
theorem dX7_init_56 : decode cX7_init 56 = .ok (.newarray .int, 2) := by decide +kernel
theorem dX7_init_58 : decode cX7_init 58 = .ok (.putfield 34, 3) := by decide +kernel
theorem dX7_init_61 : decode cX7_init 61 = .ok (.aload_n 0, 1) := by decide +kernel
theorem dX7_init_62 : decode cX7_init 62 = .ok (.iconst 5, 1) := by decide +kernel
theorem dX7_init_63 : decode cX7_init 63 = .ok (.newarray .int, 2) := by decide +kernel
theorem dX7_init_65 : decode cX7_init 65 = .ok (.putfield 37, 3) := by decide +kernel
theorem dX7_init_68 : decode cX7_init 68 = .ok (.aload_n 0, 1) := by decide +kernel
theorem dX7_init_69 : decode cX7_init 69 = .ok (.bipush 25, 2) := by decide +kernel
theorem dX7_init_71 : decode cX7_init 71 = .ok (.newarray .int, 2) := by decide +kernel
theorem dX7_init_73 : decode cX7_init 73 = .ok (.putfield 40, 3) := by decide +kernel
theorem dX7_init_76 : decode cX7_init 76 = .ok (.return_, 1) := by decide +kernel
theorem dX7_clear_0 : decode cX7_clear 0 = .ok (.aload_n 0, 1) := by decide +kernel
theorem dX7_clear_1 : decode cX7_clear 1 = .ok (.iconst 0, 1) := by decide +kernel
theorem dX7_clear_2 : decode cX7_clear 2 = .ok (.putfield 43, 3) := by decide +kernel
theorem dX7_clear_5 : decode cX7_clear 5 = .ok (.aload_n 0, 1) := by decide +kernel
theorem dX7_clear_6 : decode cX7_clear 6 = .ok (.iconst 0, 1) := by decide +kernel
theorem dX7_clear_7 : decode cX7_clear 7 = .ok (.putfield 47, 3) := by decide +kernel
theorem dX7_clear_10 : decode cX7_clear 10 = .ok (.aload_n 0, 1) := by decide +kernel
theorem dX7_clear_11 : decode cX7_clear 11 = .ok (.iconst 0, 1) := by decide +kernel
theorem dX7_clear_12 : decode cX7_clear 12 = .ok (.putfield 50, 3) := by decide +kernel
theorem dX7_clear_15 : decode cX7_clear 15 = .ok (.aload_n 0, 1) := by decide +kernel
theorem dX7_clear_16 : decode cX7_clear 16 = .ok (.iconst 0, 1) := by decide +kernel
theorem dX7_clear_17 : decode cX7_clear 17 = .ok (.putfield 53, 3) := by decide +kernel
theorem dX7_clear_20 : decode cX7_clear 20 = .ok (.aload_n 0, 1) := by decide +kernel
theorem dX7_clear_21 : decode cX7_clear 21 = .ok (.iconst 0, 1) := by decide +kernel
theorem dX7_clear_22 : decode cX7_clear 22 = .ok (.putfield 57, 3) := by decide +kernel
theorem dX7_clear_25 : decode cX7_clear 25 = .ok (.aload_n 0, 1) := by decide +kernel
theorem dX7_clear_26 : decode cX7_clear 26 = .ok (.iconst 0, 1) := by decide +kernel
theorem dX7_clear_27 : decode cX7_clear 27 = .ok (.putfield 60, 3) := by decide +kernel
theorem dX7_clear_30 : decode cX7_clear 30 = .ok (.getstatic 63, 3) := by decide +kernel
theorem dX7_clear_33 : decode cX7_clear 33 = .ok (.iconst 0, 1) := by decide +kernel
theorem dX7_clear_34 : decode cX7_clear 34 = .ok (.aload_n 0, 1) := by decide +kernel
theorem dX7_clear_35 : decode cX7_clear 35 = .ok (.getfield 9, 3) := by decide +kernel
theorem dX7_clear_38 : decode cX7_clear 38 = .ok (.iconst 0, 1) := by decide +kernel
theorem dX7_clear_39 : decode cX7_clear 39 = .ok (.bipush 6, 2) := by decide +kernel
theorem dX7_clear_41 : decode cX7_clear 41 = .ok (.invokestatic 66, 3) := by decide +kernel
theorem dX7_clear_44 : decode cX7_clear 44 = .ok (.iconst 0, 1) := by decide +kernel
theorem dX7_clear_45 : decode cX7_clear 45 = .ok (.istore_n 1, 1) := by decide +kernel
theorem dX7_clear_46 : decode cX7_clear 46 = .ok (.iload_n 1, 1) := by decide +kernel
theorem dX7_clear_47 : decode cX7_clear 47 = .ok (.iconst 5, 1) := by decide +kernel
theorem dX7_clear_48 : decode cX7_clear 48 = .ok (.if_icmp .ge 30, 3) := by decide +kernel
theorem dX7_clear_51 : decode cX7_clear 51 = .ok (.aload_n 0, 1) := by decide +kernel
theorem dX7_clear_52 : decode cX7_clear 52 = .ok (.getfield 28, 3) := by decide +kernel
theorem dX7_clear_55 : decode cX7_clear 55 = .ok (.iload_n 1, 1) := by decide +kernel
theorem dX7_clear_56 : decode cX7_clear 56 = .ok (.iconst (-1), 1) := by decide +kernel
theorem dX7_clear_57 : decode cX7_clear 57 = .ok (.iastore, 1) := by decide +kernel
theorem dX7_clear_58 : decode cX7_clear 58 = .ok (.aload_n 0, 1) := by decide +kernel
theorem dX7_clear_59 : decode cX7_clear 59 = .ok (.getfield 34, 3) := by decide +kernel
theorem dX7_clear_62 : decode cX7_clear 62 = .ok (.iload_n 1, 1) := by decide +kernel
theorem dX7_clear_63 : decode cX7_clear 63 = .ok (.iconst (-1), 1) := by decide +kernel
theorem dX7_clear_64 : decode cX7_clear 64 = .ok (.iastore, 1) := by decide +kernel
theorem dX7_clear_65 : decode cX7_clear 65 = .ok (.aload_n 0, 1) := by decide +kernel
theorem dX7_clear_66 : decode cX7_clear 66 = .ok (.getfield 37, 3) := by decide +kernel
theorem dX7_clear_69 : decode cX7_clear 69 = .ok (.iload_n 1, 1) := by decide +kernel
theorem dX7_clear_70 : decode cX7_clear 70 = .ok (.iconst 0, 1) := by decide +kernel
theorem dX7_clear_71 : decode cX7_clear 71 = .ok (.iastore, 1) := by decide +kernel
theorem dX7_clear_72 : decode cX7_clear 72 = .ok (.iinc 1 1, 3) := by decide +kernel
theorem dX7_clear_75 : decode cX7_clear 75 = .ok (.goto (-29), 3) := by decide +kernel
theorem dX7_clear_78 : decode cX7_clear 78 = .ok (.iconst 0, 1) := by decide +kernel
theorem dX7_clear_79 : decode cX7_clear 79 = .ok (.istore_n 1, 1) := by decide +kernel
theorem dX7_clear_80 : decode cX7_clear 80 = .ok (.iload_n 1, 1) := by decide +kernel
theorem dX7_clear_81 : decode cX7_clear 81 = .ok (.bipush 25, 2) := by decide +kernel
theorem dX7_clear_83 : decode cX7_clear 83 = .ok (.if_icmp .ge 16, 3) := by decide +kernel
theorem dX7_clear_86 : decode cX7_clear 86 = .ok (.aload_n 0, 1) := by decide +kernel
theorem dX7_clear_87 : decode cX7_clear 87 = .ok (.getfield 40, 3) := by decide +kernel
theorem dX7_clear_90 : decode cX7_clear 90 = .ok (.iload_n 1, 1) := by decide +kernel
theorem dX7_clear_91 : decode cX7_clear 91 = .ok (.iconst 0, 1) := by decide +kernel
theorem dX7_clear_92 : decode cX7_clear 92 = .ok (.iastore, 1) := by decide +kernel
theorem dX7_clear_93 : decode cX7_clear 93 = .ok (.iinc 1 1, 3) := by decide +kernel
theorem dX7_clear_96 : decode cX7_clear 96 = .ok (.goto (-16), 3) := by decide +kernel
theorem dX7_clear_99 : decode cX7_clear 99 = .ok (.return_, 1) := by decide +kernel
theorem dX7_copyFrom_0 : decode cX7_copyFrom 0 = .ok (.aload_n 0, 1) := by decide +kernel
theorem dX7_copyFrom_1 : decode cX7_copyFrom 1 = .ok (.aload_n 1, 1) := by decide +kernel
theorem dX7_copyFrom_2 : decode cX7_copyFrom 2 = .ok (.getfield 47, 3) := by decide +kernel
theorem dX7_copyFrom_5 : decode cX7_copyFrom 5 = .ok (.putfield 47, 3) := by decide +kernel
theorem dX7_copyFrom_8 : decode cX7_copyFrom 8 = .ok (.aload_n 0, 1) := by decide +kernel
theorem dX7_copyFrom_9 : decode cX7_copyFrom 9 = .ok (.aload_n 1, 1) := by decide +kernel
theorem dX7_copyFrom_10 : decode cX7_copyFrom 10 = .ok (.getfield 50, 3) := by decide +kernel
theorem dX7_copyFrom_13 : decode cX7_copyFrom 13 = .ok (.putfield 50, 3) := by decide +kernel
theorem dX7_copyFrom_16 : decode cX7_copyFrom 16 = .ok (.aload_n 0, 1) := by decide +kernel
theorem dX7_copyFrom_17 : decode cX7_copyFrom 17 = .ok (.aload_n 1, 1) := by decide +kernel
theorem dX7_copyFrom_18 : decode cX7_copyFrom 18 = .ok (.getfield 53, 3) := by decide +kernel
theorem dX7_copyFrom_21 : decode cX7_copyFrom 21 = .ok (.putfield 53, 3) := by decide +kernel
theorem dX7_copyFrom_24 : decode cX7_copyFrom 24 = .ok (.aload_n 1, 1) := by decide +kernel
theorem dX7_copyFrom_25 : decode cX7_copyFrom 25 = .ok (.getfield 9, 3) := by decide +kernel
theorem dX7_copyFrom_28 : decode cX7_copyFrom 28 = .ok (.iconst 0, 1) := by decide +kernel
theorem dX7_copyFrom_29 : decode cX7_copyFrom 29 = .ok (.aload_n 0, 1) := by decide +kernel
theorem dX7_copyFrom_30 : decode cX7_copyFrom 30 = .ok (.getfield 9, 3) := by decide +kernel
theorem dX7_copyFrom_33 : decode cX7_copyFrom 33 = .ok (.iconst 0, 1) := by decide +kernel
theorem dX7_copyFrom_34 : decode cX7_copyFrom 34 = .ok (.bipush 6, 2) := by decide +kernel
theorem dX7_copyFrom_36 : decode cX7_copyFrom 36 = .ok (.invokestatic 66, 3) := by decide +kernel
theorem dX7_copyFrom_39 : decode cX7_copyFrom 39 = .ok (.aload_n 1, 1) := by decide +kernel
theorem dX7_copyFrom_40 : decode cX7_copyFrom 40 = .ok (.getfield 22, 3) := by decide +kernel
theorem dX7_copyFrom_43 : decode cX7_copyFrom 43 = .ok (.iconst 0, 1) := by decide +kernel
theorem dX7_copyFrom_44 : decode cX7_copyFrom 44 = .ok (.aload_n 0, 1) := by decide +kernel
theorem dX7_copyFrom_45 : decode cX7_copyFrom 45 = .ok (.getfield 22, 3) := by decide +kernel
theorem dX7_copyFrom_48 : decode cX7_copyFrom 48 = .ok (.iconst 0, 1) := by decide +kernel
theorem dX7_copyFrom_49 : decode cX7_copyFrom 49 = .ok (.iconst 5, 1) := by decide +kernel
theorem dX7_copyFrom_50 : decode cX7_copyFrom 50 = .ok (.invokestatic 66, 3) := by decide +kernel
theorem dX7_copyFrom_53 : decode cX7_copyFrom 53 = .ok (.aload_n 1, 1) := by decide +kernel
theorem dX7_copyFrom_54 : decode cX7_copyFrom 54 = .ok (.getfield 28, 3) := by decide +kernel
theorem dX7_copyFrom_57 : decode cX7_copyFrom 57 = .ok (.iconst 0, 1) := by decide +kernel
theorem dX7_copyFrom_58 : decode cX7_copyFrom 58 = .ok (.aload_n 0, 1) := by decide +kernel
theorem dX7_copyFrom_59 : decode cX7_copyFrom 59 = .ok (.getfield 28, 3) := by decide +kernel
theorem dX7_copyFrom_62 : decode cX7_copyFrom 62 = .ok (.iconst 0, 1) := by decide +kernel
theorem dX7_copyFrom_63 : decode cX7_copyFrom 63 = .ok (.iconst 5, 1) := by decide +kernel
theorem dX7_copyFrom_64 : decode cX7_copyFrom 64 = .ok (.invokestatic 66, 3) := by decide +kernel
theorem dX7_copyFrom_67 : decode cX7_copyFrom 67 = .ok (.aload_n 1, 1) := by decide +kernel
theorem dX7_copyFrom_68 : decode cX7_copyFrom 68 = .ok (.getfield 34, 3) := by decide +kernel
theorem dX7_copyFrom_71 : decode cX7_copyFrom 71 = .ok (.iconst 0, 1) := by decide +kernel
theorem dX7_copyFrom_72 : decode cX7_copyFrom 72 = .ok (.aload_n 0, 1) := by decide +kernel
theorem dX7_copyFrom_73 : decode cX7_copyFrom 73 = .ok (.getfield 34, 3) := by decide +kernel
theorem dX7_copyFrom_76 : decode cX7_copyFrom 76 = .ok (.iconst 0, 1) := by decide +kernel
theorem dX7_copyFrom_77 : decode cX7_copyFrom 77 = .ok (.iconst 5, 1) := by decide +kernel
theorem dX7_copyFrom_78 : decode cX7_copyFrom 78 = .ok (.invokestatic 66, 3) := by decide +kernel
theorem dX7_copyFrom_81 : decode cX7_copyFrom 81 = .ok (.aload_n 1, 1) := by decide +kernel
theorem dX7_copyFrom_82 : decode cX7_copyFrom 82 = .ok (.getfield 37, 3) := by decide +kernel
theorem dX7_copyFrom_85 : decode cX7_copyFrom 85 = .ok (.iconst 0, 1) := by decide +kernel
theorem dX7_copyFrom_86 : decode cX7_copyFrom 86 = .ok (.aload_n 0, 1) := by decide +kernel
theorem dX7_copyFrom_87 : decode cX7_copyFrom 87 = .ok (.getfield 37, 3) := by decide +kernel
theorem dX7_copyFrom_90 : decode cX7_copyFrom 90 = .ok (.iconst 0, 1) := by decide +kernel
theorem dX7_copyFrom_91 : decode cX7_copyFrom 91 = .ok (.iconst 5, 1) := by decide +kernel
theorem dX7_copyFrom_92 : decode cX7_copyFrom 92 = .ok (.invokestatic 66, 3) := by decide +kernel
theorem dX7_copyFrom_95 : decode cX7_copyFrom 95 = .ok (.aload_n 1, 1) := by decide +kernel
theorem dX7_copyFrom_96 : decode cX7_copyFrom 96 = .ok (.getfield 40, 3) := by decide +kernel
theorem dX7_copyFrom_99 : decode cX7_copyFrom 99 = .ok (.iconst 0, 1) := by decide +kernel
theorem dX7_copyFrom_100 : decode cX7_copyFrom 100 = .ok (.aload_n 0, 1) := by decide +kernel
theorem dX7_copyFrom_101 : decode cX7_copyFrom 101 = .ok (.getfield 40, 3) := by decide +kernel
theorem dX7_copyFrom_104 : decode cX7_copyFrom 104 = .ok (.iconst 0, 1) := by decide +kernel
theorem dX7_copyFrom_105 : decode cX7_copyFrom 105 = .ok (.bipush 25, 2) := by decide +kernel
theorem dX7_copyFrom_107 : decode cX7_copyFrom 107 = .ok (.invokestatic 66, 3) := by decide +kernel
theorem dX7_copyFrom_110 : decode cX7_copyFrom 110 = .ok (.return_, 1) := by decide +kernel
theorem dX7_mustWork_0 : decode cX7_mustWork 0 = .ok (.aload_n 0, 1) := by decide +kernel
theorem dX7_mustWork_1 : decode cX7_mustWork 1 = .ok (.getfield 37, 3) := by decide +kernel
theorem dX7_mustWork_4 : decode cX7_mustWork 4 = .ok (.iload_n 1, 1) := by decide +kernel
theorem dX7_mustWork_5 : decode cX7_mustWork 5 = .ok (.iaload, 1) := by decide +kernel
theorem dX7_mustWork_6 : decode cX7_mustWork 6 = .ok (.iload_n 2, 1) := by decide +kernel
theorem dX7_mustWork_7 : decode cX7_mustWork 7 = .ok (.iconst 3, 1) := by decide +kernel
theorem dX7_mustWork_8 : decode cX7_mustWork 8 = .ok (.iand, 1) := by decide +kernel
theorem dX7_mustWork_9 : decode cX7_mustWork 9 = .ok (.ishr, 1) := by decide +kernel
theorem dX7_mustWork_10 : decode cX7_mustWork 10 = .ok (.iconst 1, 1) := by decide +kernel
theorem dX7_mustWork_11 : decode cX7_mustWork 11 = .ok (.iand, 1) := by decide +kernel
theorem dX7_mustWork_12 : decode cX7_mustWork 12 = .ok (.iconst 1, 1) := by decide +kernel
theorem dX7_mustWork_13 : decode cX7_mustWork 13 = .ok (.if_icmp .ne 7, 3) := by decide +kernel
theorem dX7_mustWork_16 : decode cX7_mustWork 16 = .ok (.iconst 1, 1) := by decide +kernel
theorem dX7_mustWork_17 : decode cX7_mustWork 17 = .ok (.goto 4, 3) := by decide +kernel
theorem dX7_mustWork_20 : decode cX7_mustWork 20 = .ok (.iconst 0, 1) := by decide +kernel
theorem dX7_mustWork_21 : decode cX7_mustWork 21 = .ok (.ireturn, 1) := by decide +kernel
set_option maxRecDepth 20000 in
theorem dX7_houseNamed_0 : decode cX7_houseNamed 0 = .ok (.aload_n 0, 1) := by decide +kernel
theorem dX7_houseNamed_1 : decode cX7_houseNamed 1 = .ok (.getfield 15, 3) := by decide +kernel
theorem dX7_houseNamed_4 : decode cX7_houseNamed 4 = .ok (.aload_n 0, 1) := by decide +kernel
theorem dX7_houseNamed_5 : decode cX7_houseNamed 5 = .ok (.getfield 47, 3) := by decide +kernel
theorem dX7_houseNamed_8 : decode cX7_houseNamed 8 = .ok (.lload_n 1, 1) := by decide +kernel
theorem dX7_houseNamed_9 : decode cX7_houseNamed 9 = .ok (.invokestatic 72, 3) := by decide +kernel
theorem dX7_houseNamed_12 : decode cX7_houseNamed 12 = .ok (.ireturn, 1) := by decide +kernel
set_option maxRecDepth 20000 in
theorem dX7_personNamed_0 : decode cX7_personNamed 0 = .ok (.aload_n 0, 1) := by decide +kernel
theorem dX7_personNamed_1 : decode cX7_personNamed 1 = .ok (.getfield 31, 3) := by decide +kernel
theorem dX7_personNamed_4 : decode cX7_personNamed 4 = .ok (.aload_n 0, 1) := by decide +kernel
theorem dX7_personNamed_5 : decode cX7_personNamed 5 = .ok (.getfield 50, 3) := by decide +kernel
theorem dX7_personNamed_8 : decode cX7_personNamed 8 = .ok (.lload_n 1, 1) := by decide +kernel
theorem dX7_personNamed_9 : decode cX7_personNamed 9 = .ok (.invokestatic 72, 3) := by decide +kernel
theorem dX7_personNamed_12 : decode cX7_personNamed 12 = .ok (.ireturn, 1) := by decide +kernel
theorem dX7_find_0 : decode cX7_find 0 = .ok (.iconst 0, 1) := by decide +kernel
theorem dX7_find_1 : decode cX7_find 1 = .ok (.istore 4, 2) := by decide +kernel
theorem dX7_find_3 : decode cX7_find 3 = .ok (.iload 4, 2) := by decide +kernel
theorem dX7_find_5 : decode cX7_find 5 = .ok (.iload_n 1, 1) := by decide +kernel
theorem dX7_find_6 : decode cX7_find 6 = .ok (.if_icmp .ge 28, 3) := by decide +kernel
theorem dX7_find_9 : decode cX7_find 9 = .ok (.iload 4, 2) := by decide +kernel
theorem dX7_find_11 : decode cX7_find 11 = .ok (.aload_n 0, 1) := by decide +kernel
theorem dX7_find_12 : decode cX7_find 12 = .ok (.arraylength, 1) := by decide +kernel
theorem dX7_find_13 : decode cX7_find 13 = .ok (.if_icmp .ge 21, 3) := by decide +kernel
theorem dX7_find_16 : decode cX7_find 16 = .ok (.aload_n 0, 1) := by decide +kernel
theorem dX7_find_17 : decode cX7_find 17 = .ok (.iload 4, 2) := by decide +kernel
theorem dX7_find_19 : decode cX7_find 19 = .ok (.laload, 1) := by decide +kernel
theorem dX7_find_20 : decode cX7_find 20 = .ok (.lload_n 2, 1) := by decide +kernel
theorem dX7_find_21 : decode cX7_find 21 = .ok (.lcmp, 1) := by decide +kernel
theorem dX7_find_22 : decode cX7_find 22 = .ok (.ifCond .ne 6, 3) := by decide +kernel
theorem dX7_find_25 : decode cX7_find 25 = .ok (.iload 4, 2) := by decide +kernel
theorem dX7_find_27 : decode cX7_find 27 = .ok (.ireturn, 1) := by decide +kernel
theorem dX7_find_28 : decode cX7_find 28 = .ok (.iinc 4 1, 3) := by decide +kernel
theorem dX7_find_31 : decode cX7_find 31 = .ok (.goto (-28), 3) := by decide +kernel
theorem dX7_find_34 : decode cX7_find 34 = .ok (.iconst (-1), 1) := by decide +kernel
theorem dX7_find_35 : decode cX7_find 35 = .ok (.ireturn, 1) := by decide +kernel
theorem dX8_init_0 : decode cX8_init 0 = .ok (.aload_n 0, 1) := by decide +kernel
theorem dX8_init_1 : decode cX8_init 1 = .ok (.invokespecial 3, 3) := by decide +kernel
theorem dX8_init_4 : decode cX8_init 4 = .ok (.aload_n 0, 1) := by decide +kernel
theorem dX8_init_5 : decode cX8_init 5 = .ok (.bipush 20, 2) := by decide +kernel
theorem dX8_init_7 : decode cX8_init 7 = .ok (.newarray .int, 2) := by decide +kernel
theorem dX8_init_9 : decode cX8_init 9 = .ok (.putfield 9, 3) := by decide +kernel
theorem dX8_init_12 : decode cX8_init 12 = .ok (.aload_n 0, 1) := by decide +kernel
theorem dX8_init_13 : decode cX8_init 13 = .ok (.iconst 5, 1) := by decide +kernel
theorem dX8_init_14 : decode cX8_init 14 = .ok (.newarray .int, 2) := by decide +kernel
theorem dX8_init_16 : decode cX8_init 16 = .ok (.putfield 15, 3) := by decide +kernel
theorem dX8_init_19 : decode cX8_init 19 = .ok (.return_, 1) := by decide +kernel
set_option maxRecDepth 20000 in
theorem dX8_begin_0 : decode cX8_begin 0 = .ok (.iconst 0, 1) := by decide +kernel
theorem dX8_begin_1 : decode cX8_begin 1 = .ok (.istore_n 2, 1) := by decide +kernel
theorem dX8_begin_2 : decode cX8_begin 2 = .ok (.iload_n 2, 1) := by decide +kernel
theorem dX8_begin_3 : decode cX8_begin 3 = .ok (.iconst 5, 1) := by decide +kernel
theorem dX8_begin_4 : decode cX8_begin 4 = .ok (.if_icmp .ge 28, 3) := by decide +kernel
theorem dX8_begin_7 : decode cX8_begin 7 = .ok (.aload_n 0, 1) := by decide +kernel
theorem dX8_begin_8 : decode cX8_begin 8 = .ok (.iload_n 2, 1) := by decide +kernel
theorem dX8_begin_9 : decode cX8_begin 9 = .ok (.aload_n 1, 1) := by decide +kernel
theorem dX8_begin_10 : decode cX8_begin 10 = .ok (.getfield 18, 3) := by decide +kernel
theorem dX8_begin_13 : decode cX8_begin 13 = .ok (.iload_n 2, 1) := by decide +kernel
theorem dX8_begin_14 : decode cX8_begin 14 = .ok (.iaload, 1) := by decide +kernel
theorem dX8_begin_15 : decode cX8_begin 15 = .ok (.invokevirtual 23, 3) := by decide +kernel
theorem dX8_begin_18 : decode cX8_begin 18 = .ok (.aload_n 0, 1) := by decide +kernel
theorem dX8_begin_19 : decode cX8_begin 19 = .ok (.getfield 15, 3) := by decide +kernel
theorem dX8_begin_22 : decode cX8_begin 22 = .ok (.iload_n 2, 1) := by decide +kernel
theorem dX8_begin_23 : decode cX8_begin 23 = .ok (.bipush 31, 2) := by decide +kernel
theorem dX8_begin_25 : decode cX8_begin 25 = .ok (.iastore, 1) := by decide +kernel
theorem dX8_begin_26 : decode cX8_begin 26 = .ok (.iinc 2 1, 3) := by decide +kernel
theorem dX8_begin_29 : decode cX8_begin 29 = .ok (.goto (-27), 3) := by decide +kernel
theorem dX8_begin_32 : decode cX8_begin 32 = .ok (.return_, 1) := by decide +kernel
theorem dX8_copyFrom_0 : decode cX8_copyFrom 0 = .ok (.aload_n 1, 1) := by decide +kernel
theorem dX8_copyFrom_1 : decode cX8_copyFrom 1 = .ok (.getfield 9, 3) := by decide +kernel
theorem dX8_copyFrom_4 : decode cX8_copyFrom 4 = .ok (.iconst 0, 1) := by decide +kernel
theorem dX8_copyFrom_5 : decode cX8_copyFrom 5 = .ok (.aload_n 0, 1) := by decide +kernel
theorem dX8_copyFrom_6 : decode cX8_copyFrom 6 = .ok (.getfield 9, 3) := by decide +kernel
theorem dX8_copyFrom_9 : decode cX8_copyFrom 9 = .ok (.iconst 0, 1) := by decide +kernel
theorem dX8_copyFrom_10 : decode cX8_copyFrom 10 = .ok (.bipush 20, 2) := by decide +kernel
theorem dX8_copyFrom_12 : decode cX8_copyFrom 12 = .ok (.invokestatic 27, 3) := by decide +kernel
theorem dX8_copyFrom_15 : decode cX8_copyFrom 15 = .ok (.aload_n 1, 1) := by decide +kernel
theorem dX8_copyFrom_16 : decode cX8_copyFrom 16 = .ok (.getfield 15, 3) := by decide +kernel
theorem dX8_copyFrom_19 : decode cX8_copyFrom 19 = .ok (.iconst 0, 1) := by decide +kernel
theorem dX8_copyFrom_20 : decode cX8_copyFrom 20 = .ok (.aload_n 0, 1) := by decide +kernel
theorem dX8_copyFrom_21 : decode cX8_copyFrom 21 = .ok (.getfield 15, 3) := by decide +kernel
theorem dX8_copyFrom_24 : decode cX8_copyFrom 24 = .ok (.iconst 0, 1) := by decide +kernel
theorem dX8_copyFrom_25 : decode cX8_copyFrom 25 = .ok (.iconst 5, 1) := by decide +kernel
theorem dX8_copyFrom_26 : decode cX8_copyFrom 26 = .ok (.invokestatic 27, 3) := by decide +kernel
theorem dX8_copyFrom_29 : decode cX8_copyFrom 29 = .ok (.return_, 1) := by decide +kernel
theorem dX8_planEach_0 : decode cX8_planEach 0 = .ok (.iconst 0, 1) := by decide +kernel
theorem dX8_planEach_1 : decode cX8_planEach 1 = .ok (.istore_n 3, 1) := by decide +kernel
theorem dX8_planEach_2 : decode cX8_planEach 2 = .ok (.iload_n 3, 1) := by decide +kernel
theorem dX8_planEach_3 : decode cX8_planEach 3 = .ok (.iconst 4, 1) := by decide +kernel
theorem dX8_planEach_4 : decode cX8_planEach 4 = .ok (.if_icmp .ge 20, 3) := by decide +kernel
theorem dX8_planEach_7 : decode cX8_planEach 7 = .ok (.aload_n 0, 1) := by decide +kernel
theorem dX8_planEach_8 : decode cX8_planEach 8 = .ok (.getfield 9, 3) := by decide +kernel
theorem dX8_planEach_11 : decode cX8_planEach 11 = .ok (.iload_n 1, 1) := by decide +kernel
theorem dX8_planEach_12 : decode cX8_planEach 12 = .ok (.iconst 4, 1) := by decide +kernel
theorem dX8_planEach_13 : decode cX8_planEach 13 = .ok (.imul, 1) := by decide +kernel
theorem dX8_planEach_14 : decode cX8_planEach 14 = .ok (.iload_n 3, 1) := by decide +kernel
theorem dX8_planEach_15 : decode cX8_planEach 15 = .ok (.iadd, 1) := by decide +kernel
theorem dX8_planEach_16 : decode cX8_planEach 16 = .ok (.iload_n 2, 1) := by decide +kernel
theorem dX8_planEach_17 : decode cX8_planEach 17 = .ok (.iastore, 1) := by decide +kernel
theorem dX8_planEach_18 : decode cX8_planEach 18 = .ok (.iinc 3 1, 3) := by decide +kernel
theorem dX8_planEach_21 : decode cX8_planEach 21 = .ok (.goto (-19), 3) := by decide +kernel
theorem dX8_planEach_24 : decode cX8_planEach 24 = .ok (.return_, 1) := by decide +kernel
set_option maxRecDepth 20000 in
theorem dX8_fillWishes_0 : decode cX8_fillWishes 0 = .ok (.iconst 0, 1) := by decide +kernel
theorem dX8_fillWishes_1 : decode cX8_fillWishes 1 = .ok (.istore 4, 2) := by decide +kernel
theorem dX8_fillWishes_3 : decode cX8_fillWishes 3 = .ok (.iload 4, 2) := by decide +kernel
theorem dX8_fillWishes_5 : decode cX8_fillWishes 5 = .ok (.aload_n 1, 1) := by decide +kernel
theorem dX8_fillWishes_6 : decode cX8_fillWishes 6 = .ok (.getfield 33, 3) := by decide +kernel
theorem dX8_fillWishes_9 : decode cX8_fillWishes 9 = .ok (.if_icmp .ge 40, 3) := by decide +kernel
theorem dX8_fillWishes_12 : decode cX8_fillWishes 12 = .ok (.aload_n 3, 1) := by decide +kernel
theorem dX8_fillWishes_13 : decode cX8_fillWishes 13 = .ok (.iload 4, 2) := by decide +kernel
theorem dX8_fillWishes_15 : decode cX8_fillWishes 15 = .ok (.aload_n 1, 1) := by decide +kernel
theorem dX8_fillWishes_16 : decode cX8_fillWishes 16 = .ok (.iload 4, 2) := by decide +kernel
theorem dX8_fillWishes_18 : decode cX8_fillWishes 18 = .ok (.iload_n 2, 1) := by decide +kernel
theorem dX8_fillWishes_19 : decode cX8_fillWishes 19 = .ok (.invokevirtual 37, 3) := by decide +kernel
theorem dX8_fillWishes_22 : decode cX8_fillWishes 22 = .ok (.ifCond .eq 7, 3) := by decide +kernel
theorem dX8_fillWishes_25 : decode cX8_fillWishes 25 = .ok (.iconst (-1), 1) := by decide +kernel
theorem dX8_fillWishes_26 : decode cX8_fillWishes 26 = .ok (.goto 16, 3) := by decide +kernel
theorem dX8_fillWishes_29 : decode cX8_fillWishes 29 = .ok (.aload_n 0, 1) := by decide +kernel
theorem dX8_fillWishes_30 : decode cX8_fillWishes 30 = .ok (.getfield 9, 3) := by decide +kernel
theorem dX8_fillWishes_33 : decode cX8_fillWishes 33 = .ok (.iload 4, 2) := by decide +kernel
theorem dX8_fillWishes_35 : decode cX8_fillWishes 35 = .ok (.iconst 4, 1) := by decide +kernel
theorem dX8_fillWishes_36 : decode cX8_fillWishes 36 = .ok (.imul, 1) := by decide +kernel
theorem dX8_fillWishes_37 : decode cX8_fillWishes 37 = .ok (.iload_n 2, 1) := by decide +kernel
theorem dX8_fillWishes_38 : decode cX8_fillWishes 38 = .ok (.iconst 3, 1) := by decide +kernel
theorem dX8_fillWishes_39 : decode cX8_fillWishes 39 = .ok (.iand, 1) := by decide +kernel
theorem dX8_fillWishes_40 : decode cX8_fillWishes 40 = .ok (.iadd, 1) := by decide +kernel
theorem dX8_fillWishes_41 : decode cX8_fillWishes 41 = .ok (.iaload, 1) := by decide +kernel
theorem dX8_fillWishes_42 : decode cX8_fillWishes 42 = .ok (.iastore, 1) := by decide +kernel
theorem dX8_fillWishes_43 : decode cX8_fillWishes 43 = .ok (.iinc 4 1, 3) := by decide +kernel
theorem dX8_fillWishes_46 : decode cX8_fillWishes 46 = .ok (.goto (-43), 3) := by decide +kernel
theorem dX8_fillWishes_49 : decode cX8_fillWishes 49 = .ok (.return_, 1) := by decide +kernel
set_option maxRecDepth 20000 in
theorem dX9_init_0 : decode cX9_init 0 = .ok (.aload_n 0, 1) := by decide +kernel
theorem dX9_init_1 : decode cX9_init 1 = .ok (.invokespecial 1, 3) := by decide +kernel
theorem dX9_init_4 : decode cX9_init 4 = .ok (.aload_n 0, 1) := by decide +kernel
theorem dX9_init_5 : decode cX9_init 5 = .ok (.new 7, 3) := by decide +kernel
theorem dX9_init_8 : decode cX9_init 8 = .ok (.dup, 1) := by decide +kernel
theorem dX9_init_9 : decode cX9_init 9 = .ok (.invokespecial 9, 3) := by decide +kernel
theorem dX9_init_12 : decode cX9_init 12 = .ok (.putfield 10, 3) := by decide +kernel
theorem dX9_init_15 : decode cX9_init 15 = .ok (.aload_n 0, 1) := by decide +kernel
theorem dX9_init_16 : decode cX9_init 16 = .ok (.new 16, 3) := by decide +kernel
theorem dX9_init_19 : decode cX9_init 19 = .ok (.dup, 1) := by decide +kernel
theorem dX9_init_20 : decode cX9_init 20 = .ok (.aload_n 0, 1) := by decide +kernel
theorem dX9_init_21 : decode cX9_init 21 = .ok (.getfield 10, 3) := by decide +kernel
theorem dX9_init_24 : decode cX9_init 24 = .ok (.invokespecial 18, 3) := by decide +kernel
theorem dX9_init_27 : decode cX9_init 27 = .ok (.putfield 21, 3) := by decide +kernel
theorem dX9_init_30 : decode cX9_init 30 = .ok (.aload_n 0, 1) := by decide +kernel
theorem dX9_init_31 : decode cX9_init 31 = .ok (.new 25, 3) := by decide +kernel
theorem dX9_init_34 : decode cX9_init 34 = .ok (.dup, 1) := by decide +kernel
theorem dX9_init_35 : decode cX9_init 35 = .ok (.invokespecial 27, 3) := by decide +kernel
theorem dX9_init_38 : decode cX9_init 38 = .ok (.putfield 28, 3) := by decide +kernel
theorem dX9_init_41 : decode cX9_init 41 = .ok (.aload_n 0, 1) := by decide +kernel
theorem dX9_init_42 : decode cX9_init 42 = .ok (.new 32, 3) := by decide +kernel
theorem dX9_init_45 : decode cX9_init 45 = .ok (.dup, 1) := by decide +kernel
theorem dX9_init_46 : decode cX9_init 46 = .ok (.invokespecial 34, 3) := by decide +kernel
theorem dX9_init_49 : decode cX9_init 49 = .ok (.putfield 35, 3) := by decide +kernel
theorem dX9_init_52 : decode cX9_init 52 = .ok (.aload_n 0, 1) := by decide +kernel
theorem dX9_init_53 : decode cX9_init 53 = .ok (.iconst 3, 1) := by decide +kernel
theorem dX9_init_54 : decode cX9_init 54 = .ok (.anewarray 32, 3) := by decide +kernel
theorem dX9_init_57 : decode cX9_init 57 = .ok (.putfield 39, 3) := by decide +kernel
theorem dX9_init_60 : decode cX9_init 60 = .ok (.aload_n 0, 1) := by decide +kernel
theorem dX9_init_61 : decode cX9_init 61 = .ok (.new 43, 3) := by decide +kernel
theorem dX9_init_64 : decode cX9_init 64 = .ok (.dup, 1) := by decide +kernel
theorem dX9_init_65 : decode cX9_init 65 = .ok (.invokespecial 45, 3) := by decide +kernel
theorem dX9_init_68 : decode cX9_init 68 = .ok (.putfield 46, 3) := by decide +kernel
theorem dX9_init_71 : decode cX9_init 71 = .ok (.aload_n 0, 1) := by decide +kernel
theorem dX9_init_72 : decode cX9_init 72 = .ok (.new 50, 3) := by decide +kernel
theorem dX9_init_75 : decode cX9_init 75 = .ok (.dup, 1) := by decide +kernel
theorem dX9_init_76 : decode cX9_init 76 = .ok (.invokespecial 52, 3) := by decide +kernel
theorem dX9_init_79 : decode cX9_init 79 = .ok (.putfield 53, 3) := by decide +kernel
theorem dX9_init_82 : decode cX9_init 82 = .ok (.aload_n 0, 1) := by decide +kernel
theorem dX9_init_83 : decode cX9_init 83 = .ok (.iconst 5, 1) := by decide +kernel
theorem dX9_init_84 : decode cX9_init 84 = .ok (.newarray .int, 2) := by decide +kernel
theorem dX9_init_86 : decode cX9_init 86 = .ok (.putfield 57, 3) := by decide +kernel
theorem dX9_init_89 : decode cX9_init 89 = .ok (.iconst 0, 1) := by decide +kernel
theorem dX9_init_90 : decode cX9_init 90 = .ok (.istore_n 1, 1) := by decide +kernel
theorem dX9_init_91 : decode cX9_init 91 = .ok (.iload_n 1, 1) := by decide +kernel
theorem dX9_init_92 : decode cX9_init 92 = .ok (.iconst 3, 1) := by decide +kernel
theorem dX9_init_93 : decode cX9_init 93 = .ok (.if_icmp .ge 22, 3) := by decide +kernel
theorem dX9_init_96 : decode cX9_init 96 = .ok (.aload_n 0, 1) := by decide +kernel
theorem dX9_init_97 : decode cX9_init 97 = .ok (.getfield 39, 3) := by decide +kernel
theorem dX9_init_100 : decode cX9_init 100 = .ok (.iload_n 1, 1) := by decide +kernel
theorem dX9_init_101 : decode cX9_init 101 = .ok (.new 32, 3) := by decide +kernel
theorem dX9_init_104 : decode cX9_init 104 = .ok (.dup, 1) := by decide +kernel
theorem dX9_init_105 : decode cX9_init 105 = .ok (.invokespecial 34, 3) := by decide +kernel
theorem dX9_init_108 : decode cX9_init 108 = .ok (.aastore, 1) := by decide +kernel
theorem dX9_init_109 : decode cX9_init 109 = .ok (.iinc 1 1, 3) := by decide +kernel
theorem dX9_init_112 : decode cX9_init 112 = .ok (.goto (-21), 3) := by decide +kernel
theorem dX9_init_115 : decode cX9_init 115 = .ok (.aload_n 0, 1) := by decide +kernel
theorem dX9_init_116 : decode cX9_init 116 = .ok (.getfield 28, 3) := by decide +kernel
theorem dX9_init_119 : decode cX9_init 119 = .ok (.invokevirtual 61, 3) := by decide +kernel
theorem dX9_init_122 : decode cX9_init 122 = .ok (.aload_n 0, 1) := by decide +kernel
theorem dX9_init_123 : decode cX9_init 123 = .ok (.getfield 35, 3) := by decide +kernel
theorem dX9_init_126 : decode cX9_init 126 = .ok (.aload_n 0, 1) := by decide +kernel
theorem dX9_init_127 : decode cX9_init 127 = .ok (.getfield 28, 3) := by decide +kernel
theorem dX9_init_130 : decode cX9_init 130 = .ok (.invokevirtual 64, 3) := by decide +kernel
theorem dX9_init_133 : decode cX9_init 133 = .ok (.return_, 1) := by decide +kernel
set_option maxRecDepth 20000 in
theorem dX9_feed_0 : decode cX9_feed 0 = .ok (.aload_n 0, 1) := by decide +kernel
theorem dX9_feed_1 : decode cX9_feed 1 = .ok (.getfield 10, 3) := by decide +kernel
theorem dX9_feed_4 : decode cX9_feed 4 = .ok (.getfield 68, 3) := by decide +kernel
theorem dX9_feed_7 : decode cX9_feed 7 = .ok (.bipush 20, 2) := by decide +kernel
theorem dX9_feed_9 : decode cX9_feed 9 = .ok (.iadd, 1) := by decide +kernel
theorem dX9_feed_10 : decode cX9_feed 10 = .ok (.sipush 900, 3) := by decide +kernel
theorem dX9_feed_13 : decode cX9_feed 13 = .ok (.if_icmp .le 6, 3) := by decide +kernel
theorem dX9_feed_16 : decode cX9_feed 16 = .ok (.bipush (-3), 2) := by decide +kernel
theorem dX9_feed_18 : decode cX9_feed 18 = .ok (.ireturn, 1) := by decide +kernel
theorem dX9_feed_19 : decode cX9_feed 19 = .ok (.aload_n 0, 1) := by decide +kernel
theorem dX9_feed_20 : decode cX9_feed 20 = .ok (.getfield 10, 3) := by decide +kernel
theorem dX9_feed_23 : decode cX9_feed 23 = .ok (.iload_n 1, 1) := by decide +kernel
theorem dX9_feed_24 : decode cX9_feed 24 = .ok (.invokevirtual 72, 3) := by decide +kernel
theorem dX9_feed_27 : decode cX9_feed 27 = .ok (.aload_n 0, 1) := by decide +kernel
theorem dX9_feed_28 : decode cX9_feed 28 = .ok (.getfield 10, 3) := by decide +kernel
theorem dX9_feed_31 : decode cX9_feed 31 = .ok (.iload_n 2, 1) := by decide +kernel
theorem dX9_feed_32 : decode cX9_feed 32 = .ok (.invokevirtual 72, 3) := by decide +kernel
theorem dX9_feed_35 : decode cX9_feed 35 = .ok (.aload_n 0, 1) := by decide +kernel
theorem dX9_feed_36 : decode cX9_feed 36 = .ok (.getfield 10, 3) := by decide +kernel
theorem dX9_feed_39 : decode cX9_feed 39 = .ok (.iload_n 3, 1) := by decide +kernel
theorem dX9_feed_40 : decode cX9_feed 40 = .ok (.invokevirtual 72, 3) := by decide +kernel
theorem dX9_feed_43 : decode cX9_feed 43 = .ok (.aload_n 0, 1) := by decide +kernel
theorem dX9_feed_44 : decode cX9_feed 44 = .ok (.getfield 10, 3) := by decide +kernel
theorem dX9_feed_47 : decode cX9_feed 47 = .ok (.iload 4, 2) := by decide +kernel
theorem dX9_feed_49 : decode cX9_feed 49 = .ok (.invokevirtual 72, 3) := by decide +kernel
theorem dX9_feed_52 : decode cX9_feed 52 = .ok (.aload_n 0, 1) := by decide +kernel
theorem dX9_feed_53 : decode cX9_feed 53 = .ok (.getfield 10, 3) := by decide +kernel
theorem dX9_feed_56 : decode cX9_feed 56 = .ok (.iload 5, 2) := by decide +kernel
theorem dX9_feed_58 : decode cX9_feed 58 = .ok (.invokevirtual 72, 3) := by decide +kernel
theorem dX9_feed_61 : decode cX9_feed 61 = .ok (.aload_n 0, 1) := by decide +kernel
theorem dX9_feed_62 : decode cX9_feed 62 = .ok (.getfield 10, 3) := by decide +kernel
theorem dX9_feed_65 : decode cX9_feed 65 = .ok (.getfield 68, 3) := by decide +kernel
theorem dX9_feed_68 : decode cX9_feed 68 = .ok (.ireturn, 1) := by decide +kernel
theorem dX9_end_0 : decode cX9_end 0 = .ok (.iload_n 1, 1) := by decide +kernel
theorem dX9_end_1 : decode cX9_end 1 = .ok (.ifCond .lt 14, 3) := by decide +kernel
theorem dX9_end_4 : decode cX9_end 4 = .ok (.iload_n 1, 1) := by decide +kernel
theorem dX9_end_5 : decode cX9_end 5 = .ok (.aload_n 0, 1) := by decide +kernel
theorem dX9_end_6 : decode cX9_end 6 = .ok (.getfield 10, 3) := by decide +kernel
theorem dX9_end_9 : decode cX9_end 9 = .ok (.getfield 68, 3) := by decide +kernel
theorem dX9_end_12 : decode cX9_end 12 = .ok (.if_icmp .le 5, 3) := by decide +kernel
theorem dX9_end_15 : decode cX9_end 15 = .ok (.iconst (-1), 1) := by decide +kernel
theorem dX9_end_16 : decode cX9_end 16 = .ok (.ireturn, 1) := by decide +kernel
theorem dX9_end_17 : decode cX9_end 17 = .ok (.aload_n 0, 1) := by decide +kernel
theorem dX9_end_18 : decode cX9_end 18 = .ok (.getfield 10, 3) := by decide +kernel
theorem dX9_end_21 : decode cX9_end 21 = .ok (.iload_n 1, 1) := by decide +kernel
theorem dX9_end_22 : decode cX9_end 22 = .ok (.putfield 68, 3) := by decide +kernel
theorem dX9_end_25 : decode cX9_end 25 = .ok (.iload_n 1, 1) := by decide +kernel
theorem dX9_end_26 : decode cX9_end 26 = .ok (.ireturn, 1) := by decide +kernel
set_option maxRecDepth 20000 in
theorem dX9_village_0 : decode cX9_village 0 = .ok (.aload_n 0, 1) := by decide +kernel
theorem dX9_village_1 : decode cX9_village 1 = .ok (.getfield 21, 3) := by decide +kernel
theorem dX9_village_4 : decode cX9_village 4 = .ok (.invokevirtual 76, 3) := by decide +kernel
theorem dX9_village_7 : decode cX9_village 7 = .ok (.istore_n 1, 1) := by decide +kernel
theorem dX9_village_8 : decode cX9_village 8 = .ok (.aload_n 0, 1) := by decide +kernel
theorem dX9_village_9 : decode cX9_village 9 = .ok (.getfield 10, 3) := by decide +kernel
theorem dX9_village_12 : decode cX9_village 12 = .ok (.iconst 0, 1) := by decide +kernel
theorem dX9_village_13 : decode cX9_village 13 = .ok (.putfield 68, 3) := by decide +kernel
theorem dX9_village_16 : decode cX9_village 16 = .ok (.iload_n 1, 1) := by decide +kernel
theorem dX9_village_17 : decode cX9_village 17 = .ok (.ifCond .ne 5, 3) := by decide +kernel
theorem dX9_village_20 : decode cX9_village 20 = .ok (.iconst (-1), 1) := by decide +kernel
theorem dX9_village_21 : decode cX9_village 21 = .ok (.ireturn, 1) := by decide +kernel
theorem dX9_village_22 : decode cX9_village 22 = .ok (.aload_n 0, 1) := by decide +kernel
theorem dX9_village_23 : decode cX9_village 23 = .ok (.getfield 28, 3) := by decide +kernel
theorem dX9_village_26 : decode cX9_village 26 = .ok (.astore_n 2, 1) := by decide +kernel
theorem dX9_village_27 : decode cX9_village 27 = .ok (.aload_n 0, 1) := by decide +kernel
theorem dX9_village_28 : decode cX9_village 28 = .ok (.aload_n 0, 1) := by decide +kernel
theorem dX9_village_29 : decode cX9_village 29 = .ok (.getfield 21, 3) := by decide +kernel
theorem dX9_village_32 : decode cX9_village 32 = .ok (.getfield 80, 3) := by decide +kernel
theorem dX9_village_35 : decode cX9_village 35 = .ok (.putfield 28, 3) := by decide +kernel
theorem dX9_village_38 : decode cX9_village 38 = .ok (.aload_n 0, 1) := by decide +kernel
theorem dX9_village_39 : decode cX9_village 39 = .ok (.getfield 21, 3) := by decide +kernel
theorem dX9_village_42 : decode cX9_village 42 = .ok (.aload_n 2, 1) := by decide +kernel
theorem dX9_village_43 : decode cX9_village 43 = .ok (.putfield 80, 3) := by decide +kernel
theorem dX9_village_46 : decode cX9_village 46 = .ok (.aload_n 0, 1) := by decide +kernel
theorem dX9_village_47 : decode cX9_village 47 = .ok (.getfield 35, 3) := by decide +kernel
theorem dX9_village_50 : decode cX9_village 50 = .ok (.aload_n 0, 1) := by decide +kernel
theorem dX9_village_51 : decode cX9_village 51 = .ok (.getfield 28, 3) := by decide +kernel
theorem dX9_village_54 : decode cX9_village 54 = .ok (.invokevirtual 64, 3) := by decide +kernel
theorem dX9_village_57 : decode cX9_village 57 = .ok (.iconst 0, 1) := by decide +kernel
theorem dX9_village_58 : decode cX9_village 58 = .ok (.istore_n 3, 1) := by decide +kernel
theorem dX9_village_59 : decode cX9_village 59 = .ok (.iload_n 3, 1) := by decide +kernel
theorem dX9_village_60 : decode cX9_village 60 = .ok (.iconst 3, 1) := by decide +kernel
theorem dX9_village_61 : decode cX9_village 61 = .ok (.if_icmp .ge 19, 3) := by decide +kernel
theorem dX9_village_64 : decode cX9_village 64 = .ok (.aload_n 0, 1) := by decide +kernel
theorem dX9_village_65 : decode cX9_village 65 = .ok (.getfield 39, 3) := by decide +kernel
theorem dX9_village_68 : decode cX9_village 68 = .ok (.iload_n 3, 1) := by decide +kernel
theorem dX9_village_69 : decode cX9_village 69 = .ok (.aaload, 1) := by decide +kernel
theorem dX9_village_70 : decode cX9_village 70 = .ok (.iconst 0, 1) := by decide +kernel
theorem dX9_village_71 : decode cX9_village 71 = .ok (.putfield 83, 3) := by decide +kernel
theorem dX9_village_74 : decode cX9_village 74 = .ok (.iinc 3 1, 3) := by decide +kernel
theorem dX9_village_77 : decode cX9_village 77 = .ok (.goto (-18), 3) := by decide +kernel
theorem dX9_village_80 : decode cX9_village 80 = .ok (.aload_n 0, 1) := by decide +kernel
theorem dX9_village_81 : decode cX9_village 81 = .ok (.iconst 0, 1) := by decide +kernel
theorem dX9_village_82 : decode cX9_village 82 = .ok (.putfield 87, 3) := by decide +kernel
theorem dX9_village_85 : decode cX9_village 85 = .ok (.aload_n 0, 1) := by decide +kernel
theorem dX9_village_86 : decode cX9_village 86 = .ok (.getfield 28, 3) := by decide +kernel
theorem dX9_village_89 : decode cX9_village 89 = .ok (.getfield 90, 3) := by decide +kernel
theorem dX9_village_92 : decode cX9_village 92 = .ok (.ireturn, 1) := by decide +kernel
theorem dX9_fault_0 : decode cX9_fault 0 = .ok (.iload_n 1, 1) := by decide +kernel
theorem dX9_fault_1 : decode cX9_fault 1 = .ok (.lookupswitch 43 #[(0, 27), (1, 35)], 27) := by decide +kernel
theorem dX9_fault_28 : decode cX9_fault 28 = .ok (.aload_n 0, 1) := by decide +kernel
theorem dX9_fault_29 : decode cX9_fault 29 = .ok (.getfield 21, 3) := by decide +kernel
theorem dX9_fault_32 : decode cX9_fault 32 = .ok (.getfield 93, 3) := by decide +kernel
theorem dX9_fault_35 : decode cX9_fault 35 = .ok (.ireturn, 1) := by decide +kernel
theorem dX9_fault_36 : decode cX9_fault 36 = .ok (.aload_n 0, 1) := by decide +kernel
theorem dX9_fault_37 : decode cX9_fault 37 = .ok (.getfield 21, 3) := by decide +kernel
theorem dX9_fault_40 : decode cX9_fault 40 = .ok (.getfield 96, 3) := by decide +kernel
theorem dX9_fault_43 : decode cX9_fault 43 = .ok (.ireturn, 1) := by decide +kernel
theorem dX9_fault_44 : decode cX9_fault 44 = .ok (.iconst (-1), 1) := by decide +kernel
theorem dX9_fault_45 : decode cX9_fault 45 = .ok (.ireturn, 1) := by decide +kernel
set_option maxRecDepth 20000 in
theorem dX9_told_0 : decode cX9_told 0 = .ok (.iload_n 1, 1) := by decide +kernel
theorem dX9_told_1 : decode cX9_told 1 = .ok (.ifCond .ne 11, 3) := by decide +kernel
theorem dX9_told_4 : decode cX9_told 4 = .ok (.aload_n 0, 1) := by decide +kernel
theorem dX9_told_5 : decode cX9_told 5 = .ok (.getfield 28, 3) := by decide +kernel
theorem dX9_told_8 : decode cX9_told 8 = .ok (.getfield 99, 3) := by decide +kernel
theorem dX9_told_11 : decode cX9_told 11 = .ok (.ireturn, 1) := by decide +kernel
theorem dX9_told_12 : decode cX9_told 12 = .ok (.iload_n 1, 1) := by decide +kernel
theorem dX9_told_13 : decode cX9_told 13 = .ok (.iconst 1, 1) := by decide +kernel
theorem dX9_told_14 : decode cX9_told 14 = .ok (.if_icmp .ne 11, 3) := by decide +kernel
theorem dX9_told_17 : decode cX9_told 17 = .ok (.aload_n 0, 1) := by decide +kernel
theorem dX9_told_18 : decode cX9_told 18 = .ok (.getfield 28, 3) := by decide +kernel
theorem dX9_told_21 : decode cX9_told 21 = .ok (.getfield 102, 3) := by decide +kernel
theorem dX9_told_24 : decode cX9_told 24 = .ok (.ireturn, 1) := by decide +kernel
theorem dX9_told_25 : decode cX9_told 25 = .ok (.iload_n 1, 1) := by decide +kernel
theorem dX9_told_26 : decode cX9_told 26 = .ok (.iconst 2, 1) := by decide +kernel
theorem dX9_told_27 : decode cX9_told 27 = .ok (.if_icmp .lt 21, 3) := by decide +kernel
theorem dX9_told_30 : decode cX9_told 30 = .ok (.iload_n 1, 1) := by decide +kernel
theorem dX9_told_31 : decode cX9_told 31 = .ok (.bipush 8, 2) := by decide +kernel
theorem dX9_told_33 : decode cX9_told 33 = .ok (.if_icmp .ge 15, 3) := by decide +kernel
theorem dX9_told_36 : decode cX9_told 36 = .ok (.aload_n 0, 1) := by decide +kernel
theorem dX9_told_37 : decode cX9_told 37 = .ok (.getfield 28, 3) := by decide +kernel
theorem dX9_told_40 : decode cX9_told 40 = .ok (.getfield 105, 3) := by decide +kernel
theorem dX9_told_43 : decode cX9_told 43 = .ok (.iload_n 1, 1) := by decide +kernel
theorem dX9_told_44 : decode cX9_told 44 = .ok (.iconst 2, 1) := by decide +kernel
theorem dX9_told_45 : decode cX9_told 45 = .ok (.isub, 1) := by decide +kernel
theorem dX9_told_46 : decode cX9_told 46 = .ok (.iaload, 1) := by decide +kernel
theorem dX9_told_47 : decode cX9_told 47 = .ok (.ireturn, 1) := by decide +kernel
theorem dX9_told_48 : decode cX9_told 48 = .ok (.iload_n 1, 1) := by decide +kernel
theorem dX9_told_49 : decode cX9_told 49 = .ok (.bipush 8, 2) := by decide +kernel
theorem dX9_told_51 : decode cX9_told 51 = .ok (.if_icmp .ne 19, 3) := by decide +kernel
theorem dX9_told_54 : decode cX9_told 54 = .ok (.aload_n 0, 1) := by decide +kernel
theorem dX9_told_55 : decode cX9_told 55 = .ok (.getfield 28, 3) := by decide +kernel
theorem dX9_told_58 : decode cX9_told 58 = .ok (.getfield 108, 3) := by decide +kernel
theorem dX9_told_61 : decode cX9_told 61 = .ok (.ifCond .eq 7, 3) := by decide +kernel
theorem dX9_told_64 : decode cX9_told 64 = .ok (.iconst 1, 1) := by decide +kernel
theorem dX9_told_65 : decode cX9_told 65 = .ok (.goto 4, 3) := by decide +kernel
theorem dX9_told_68 : decode cX9_told 68 = .ok (.iconst 0, 1) := by decide +kernel
theorem dX9_told_69 : decode cX9_told 69 = .ok (.ireturn, 1) := by decide +kernel
theorem dX9_told_70 : decode cX9_told 70 = .ok (.iload_n 1, 1) := by decide +kernel
theorem dX9_told_71 : decode cX9_told 71 = .ok (.bipush 10, 2) := by decide +kernel
theorem dX9_told_73 : decode cX9_told 73 = .ok (.if_icmp .lt 9, 3) := by decide +kernel
theorem dX9_told_76 : decode cX9_told 76 = .ok (.iload_n 1, 1) := by decide +kernel
theorem dX9_told_77 : decode cX9_told 77 = .ok (.bipush 70, 2) := by decide +kernel
theorem dX9_told_79 : decode cX9_told 79 = .ok (.if_icmp .lt 5, 3) := by decide +kernel
theorem dX9_told_82 : decode cX9_told 82 = .ok (.iconst (-1), 1) := by decide +kernel
theorem dX9_told_83 : decode cX9_told 83 = .ok (.ireturn, 1) := by decide +kernel
theorem dX9_told_84 : decode cX9_told 84 = .ok (.iload_n 1, 1) := by decide +kernel
theorem dX9_told_85 : decode cX9_told 85 = .ok (.bipush 10, 2) := by decide +kernel
theorem dX9_told_87 : decode cX9_told 87 = .ok (.irem, 1) := by decide +kernel
theorem dX9_told_88 : decode cX9_told 88 = .ok (.istore_n 2, 1) := by decide +kernel
theorem dX9_told_89 : decode cX9_told 89 = .ok (.iload_n 1, 1) := by decide +kernel
theorem dX9_told_90 : decode cX9_told 90 = .ok (.bipush 50, 2) := by decide +kernel
theorem dX9_told_92 : decode cX9_told 92 = .ok (.if_icmp .ge 15, 3) := by decide +kernel
theorem dX9_told_95 : decode cX9_told 95 = .ok (.aload_n 0, 1) := by decide +kernel
theorem dX9_told_96 : decode cX9_told 96 = .ok (.iload_n 1, 1) := by decide +kernel
theorem dX9_told_97 : decode cX9_told 97 = .ok (.bipush 10, 2) := by decide +kernel
theorem dX9_told_99 : decode cX9_told 99 = .ok (.idiv, 1) := by decide +kernel
theorem dX9_told_100 : decode cX9_told 100 = .ok (.iload_n 2, 1) := by decide +kernel
theorem dX9_told_101 : decode cX9_told 101 = .ok (.invokevirtual 111, 3) := by decide +kernel
theorem dX9_told_104 : decode cX9_told 104 = .ok (.goto 12, 3) := by decide +kernel
theorem dX9_told_107 : decode cX9_told 107 = .ok (.aload_n 0, 1) := by decide +kernel
theorem dX9_told_108 : decode cX9_told 108 = .ok (.iload_n 1, 1) := by decide +kernel
theorem dX9_told_109 : decode cX9_told 109 = .ok (.bipush 10, 2) := by decide +kernel
theorem dX9_told_111 : decode cX9_told 111 = .ok (.idiv, 1) := by decide +kernel
theorem dX9_told_112 : decode cX9_told 112 = .ok (.iload_n 2, 1) := by decide +kernel
theorem dX9_told_113 : decode cX9_told 113 = .ok (.invokevirtual 115, 3) := by decide +kernel
theorem dX9_told_116 : decode cX9_told 116 = .ok (.ireturn, 1) := by decide +kernel
set_option maxRecDepth 20000 in
theorem dX9_toldOfHouse_0 : decode cX9_toldOfHouse 0 = .ok (.aload_n 0, 1) := by decide +kernel
theorem dX9_toldOfHouse_1 : decode cX9_toldOfHouse 1 = .ok (.iload_n 2, 1) := by decide +kernel
theorem dX9_toldOfHouse_2 : decode cX9_toldOfHouse 2 = .ok (.invokevirtual 118, 3) := by decide +kernel
theorem dX9_toldOfHouse_5 : decode cX9_toldOfHouse 5 = .ok (.ifCond .ne 5, 3) := by decide +kernel
theorem dX9_toldOfHouse_8 : decode cX9_toldOfHouse 8 = .ok (.iconst (-1), 1) := by decide +kernel
theorem dX9_toldOfHouse_9 : decode cX9_toldOfHouse 9 = .ok (.ireturn, 1) := by decide +kernel
theorem dX9_toldOfHouse_10 : decode cX9_toldOfHouse 10 = .ok (.iload_n 1, 1) := by decide +kernel
theorem dX9_toldOfHouse_11 : decode cX9_toldOfHouse 11 = .ok (.tableswitch 55 1 3 #[25, 35, 45], 25) := by decide +kernel
theorem dX9_toldOfHouse_36 : decode cX9_toldOfHouse 36 = .ok (.aload_n 0, 1) := by decide +kernel
theorem dX9_toldOfHouse_37 : decode cX9_toldOfHouse 37 = .ok (.getfield 28, 3) := by decide +kernel
theorem dX9_toldOfHouse_40 : decode cX9_toldOfHouse 40 = .ok (.getfield 122, 3) := by decide +kernel
theorem dX9_toldOfHouse_43 : decode cX9_toldOfHouse 43 = .ok (.iload_n 2, 1) := by decide +kernel
theorem dX9_toldOfHouse_44 : decode cX9_toldOfHouse 44 = .ok (.iaload, 1) := by decide +kernel
theorem dX9_toldOfHouse_45 : decode cX9_toldOfHouse 45 = .ok (.ireturn, 1) := by decide +kernel
theorem dX9_toldOfHouse_46 : decode cX9_toldOfHouse 46 = .ok (.aload_n 0, 1) := by decide +kernel
theorem dX9_toldOfHouse_47 : decode cX9_toldOfHouse 47 = .ok (.getfield 28, 3) := by decide +kernel
theorem dX9_toldOfHouse_50 : decode cX9_toldOfHouse 50 = .ok (.getfield 125, 3) := by decide +kernel
theorem dX9_toldOfHouse_53 : decode cX9_toldOfHouse 53 = .ok (.iload_n 2, 1) := by decide +kernel
theorem dX9_toldOfHouse_54 : decode cX9_toldOfHouse 54 = .ok (.iaload, 1) := by decide +kernel
theorem dX9_toldOfHouse_55 : decode cX9_toldOfHouse 55 = .ok (.ireturn, 1) := by decide +kernel
theorem dX9_toldOfHouse_56 : decode cX9_toldOfHouse 56 = .ok (.aload_n 0, 1) := by decide +kernel
theorem dX9_toldOfHouse_57 : decode cX9_toldOfHouse 57 = .ok (.getfield 28, 3) := by decide +kernel
theorem dX9_toldOfHouse_60 : decode cX9_toldOfHouse 60 = .ok (.getfield 128, 3) := by decide +kernel
theorem dX9_toldOfHouse_63 : decode cX9_toldOfHouse 63 = .ok (.iload_n 2, 1) := by decide +kernel
theorem dX9_toldOfHouse_64 : decode cX9_toldOfHouse 64 = .ok (.iaload, 1) := by decide +kernel
theorem dX9_toldOfHouse_65 : decode cX9_toldOfHouse 65 = .ok (.ireturn, 1) := by decide +kernel
theorem dX9_toldOfHouse_66 : decode cX9_toldOfHouse 66 = .ok (.aload_n 0, 1) := by decide +kernel
theorem dX9_toldOfHouse_67 : decode cX9_toldOfHouse 67 = .ok (.getfield 28, 3) := by decide +kernel
theorem dX9_toldOfHouse_70 : decode cX9_toldOfHouse 70 = .ok (.getfield 131, 3) := by decide +kernel
theorem dX9_toldOfHouse_73 : decode cX9_toldOfHouse 73 = .ok (.iload_n 2, 1) := by decide +kernel
theorem dX9_toldOfHouse_74 : decode cX9_toldOfHouse 74 = .ok (.iaload, 1) := by decide +kernel
theorem dX9_toldOfHouse_75 : decode cX9_toldOfHouse 75 = .ok (.ireturn, 1) := by decide +kernel
set_option maxRecDepth 20000 in
theorem dX9_toldOfPerson_0 : decode cX9_toldOfPerson 0 = .ok (.aload_n 0, 1) := by decide +kernel
theorem dX9_toldOfPerson_1 : decode cX9_toldOfPerson 1 = .ok (.iload_n 2, 1) := by decide +kernel
theorem dX9_toldOfPerson_2 : decode cX9_toldOfPerson 2 = .ok (.invokevirtual 134, 3) := by decide +kernel
theorem dX9_toldOfPerson_5 : decode cX9_toldOfPerson 5 = .ok (.ifCond .ne 5, 3) := by decide +kernel
theorem dX9_toldOfPerson_8 : decode cX9_toldOfPerson 8 = .ok (.iconst (-1), 1) := by decide +kernel
theorem dX9_toldOfPerson_9 : decode cX9_toldOfPerson 9 = .ok (.ireturn, 1) := by decide +kernel
theorem dX9_toldOfPerson_10 : decode cX9_toldOfPerson 10 = .ok (.iload_n 1, 1) := by decide +kernel
theorem dX9_toldOfPerson_11 : decode cX9_toldOfPerson 11 = .ok (.iconst 5, 1) := by decide +kernel
theorem dX9_toldOfPerson_12 : decode cX9_toldOfPerson 12 = .ok (.if_icmp .ne 15, 3) := by decide +kernel
theorem dX9_toldOfPerson_15 : decode cX9_toldOfPerson 15 = .ok (.aload_n 0, 1) := by decide +kernel
theorem dX9_toldOfPerson_16 : decode cX9_toldOfPerson 16 = .ok (.getfield 28, 3) := by decide +kernel
theorem dX9_toldOfPerson_19 : decode cX9_toldOfPerson 19 = .ok (.getfield 137, 3) := by decide +kernel
theorem dX9_toldOfPerson_22 : decode cX9_toldOfPerson 22 = .ok (.iload_n 2, 1) := by decide +kernel
theorem dX9_toldOfPerson_23 : decode cX9_toldOfPerson 23 = .ok (.iaload, 1) := by decide +kernel
theorem dX9_toldOfPerson_24 : decode cX9_toldOfPerson 24 = .ok (.goto 12, 3) := by decide +kernel
theorem dX9_toldOfPerson_27 : decode cX9_toldOfPerson 27 = .ok (.aload_n 0, 1) := by decide +kernel
theorem dX9_toldOfPerson_28 : decode cX9_toldOfPerson 28 = .ok (.getfield 28, 3) := by decide +kernel
theorem dX9_toldOfPerson_31 : decode cX9_toldOfPerson 31 = .ok (.getfield 140, 3) := by decide +kernel
theorem dX9_toldOfPerson_34 : decode cX9_toldOfPerson 34 = .ok (.iload_n 2, 1) := by decide +kernel
theorem dX9_toldOfPerson_35 : decode cX9_toldOfPerson 35 = .ok (.iaload, 1) := by decide +kernel
theorem dX9_toldOfPerson_36 : decode cX9_toldOfPerson 36 = .ok (.ireturn, 1) := by decide +kernel
set_option maxRecDepth 20000 in
theorem dX9_tie_0 : decode cX9_tie 0 = .ok (.aload_n 0, 1) := by decide +kernel
theorem dX9_tie_1 : decode cX9_tie 1 = .ok (.iload_n 1, 1) := by decide +kernel
theorem dX9_tie_2 : decode cX9_tie 2 = .ok (.iload_n 2, 1) := by decide +kernel
theorem dX9_tie_3 : decode cX9_tie 3 = .ok (.invokevirtual 143, 3) := by decide +kernel
theorem dX9_tie_6 : decode cX9_tie 6 = .ok (.ifCond .eq 19, 3) := by decide +kernel
theorem dX9_tie_9 : decode cX9_tie 9 = .ok (.aload_n 0, 1) := by decide +kernel
theorem dX9_tie_10 : decode cX9_tie 10 = .ok (.getfield 28, 3) := by decide +kernel
theorem dX9_tie_13 : decode cX9_tie 13 = .ok (.getfield 147, 3) := by decide +kernel
theorem dX9_tie_16 : decode cX9_tie 16 = .ok (.iload_n 1, 1) := by decide +kernel
theorem dX9_tie_17 : decode cX9_tie 17 = .ok (.iconst 5, 1) := by decide +kernel
theorem dX9_tie_18 : decode cX9_tie 18 = .ok (.imul, 1) := by decide +kernel
theorem dX9_tie_19 : decode cX9_tie 19 = .ok (.iload_n 2, 1) := by decide +kernel
theorem dX9_tie_20 : decode cX9_tie 20 = .ok (.iadd, 1) := by decide +kernel
theorem dX9_tie_21 : decode cX9_tie 21 = .ok (.iaload, 1) := by decide +kernel
theorem dX9_tie_22 : decode cX9_tie 22 = .ok (.goto 6, 3) := by decide +kernel
theorem dX9_tie_25 : decode cX9_tie 25 = .ok (.sipush (-1000), 3) := by decide +kernel
theorem dX9_tie_28 : decode cX9_tie 28 = .ok (.ireturn, 1) := by decide +kernel
set_option maxRecDepth 20000 in
theorem dX9_plan_0 : decode cX9_plan 0 = .ok (.aload_n 0, 1) := by decide +kernel
theorem dX9_plan_1 : decode cX9_plan 1 = .ok (.iload_n 1, 1) := by decide +kernel
theorem dX9_plan_2 : decode cX9_plan 2 = .ok (.invokevirtual 134, 3) := by decide +kernel
theorem dX9_plan_5 : decode cX9_plan 5 = .ok (.ifCond .eq 11, 3) := by decide +kernel
theorem dX9_plan_8 : decode cX9_plan 8 = .ok (.aload_n 0, 1) := by decide +kernel
theorem dX9_plan_9 : decode cX9_plan 9 = .ok (.iload_n 1, 1) := by decide +kernel
theorem dX9_plan_10 : decode cX9_plan 10 = .ok (.invokevirtual 150, 3) := by decide +kernel
theorem dX9_plan_13 : decode cX9_plan 13 = .ok (.goto 5, 3) := by decide +kernel
theorem dX9_plan_16 : decode cX9_plan 16 = .ok (.bipush (-2), 2) := by decide +kernel
theorem dX9_plan_18 : decode cX9_plan 18 = .ok (.istore_n 2, 1) := by decide +kernel
theorem dX9_plan_19 : decode cX9_plan 19 = .ok (.aload_n 0, 1) := by decide +kernel
theorem dX9_plan_20 : decode cX9_plan 20 = .ok (.getfield 10, 3) := by decide +kernel
theorem dX9_plan_23 : decode cX9_plan 23 = .ok (.iconst 0, 1) := by decide +kernel
theorem dX9_plan_24 : decode cX9_plan 24 = .ok (.putfield 68, 3) := by decide +kernel
theorem dX9_plan_27 : decode cX9_plan 27 = .ok (.iload_n 2, 1) := by decide +kernel
theorem dX9_plan_28 : decode cX9_plan 28 = .ok (.ireturn, 1) := by decide +kernel
set_option maxRecDepth 20000 in
theorem dX9_readPlan_0 : decode cX9_readPlan 0 = .ok (.aload_n 0, 1) := by decide +kernel
theorem dX9_readPlan_1 : decode cX9_readPlan 1 = .ok (.getfield 10, 3) := by decide +kernel
theorem dX9_readPlan_4 : decode cX9_readPlan 4 = .ok (.getfield 68, 3) := by decide +kernel
theorem dX9_readPlan_7 : decode cX9_readPlan 7 = .ok (.iconst 4, 1) := by decide +kernel
theorem dX9_readPlan_8 : decode cX9_readPlan 8 = .ok (.if_icmp .eq 5, 3) := by decide +kernel
theorem dX9_readPlan_11 : decode cX9_readPlan 11 = .ok (.iconst (-1), 1) := by decide +kernel
theorem dX9_readPlan_12 : decode cX9_readPlan 12 = .ok (.ireturn, 1) := by decide +kernel
theorem dX9_readPlan_13 : decode cX9_readPlan 13 = .ok (.iconst 0, 1) := by decide +kernel
theorem dX9_readPlan_14 : decode cX9_readPlan 14 = .ok (.istore_n 2, 1) := by decide +kernel
theorem dX9_readPlan_15 : decode cX9_readPlan 15 = .ok (.iload_n 2, 1) := by decide +kernel
theorem dX9_readPlan_16 : decode cX9_readPlan 16 = .ok (.iconst 4, 1) := by decide +kernel
theorem dX9_readPlan_17 : decode cX9_readPlan 17 = .ok (.if_icmp .ge 37, 3) := by decide +kernel
theorem dX9_readPlan_20 : decode cX9_readPlan 20 = .ok (.aload_n 0, 1) := by decide +kernel
theorem dX9_readPlan_21 : decode cX9_readPlan 21 = .ok (.getfield 10, 3) := by decide +kernel
theorem dX9_readPlan_24 : decode cX9_readPlan 24 = .ok (.iload_n 2, 1) := by decide +kernel
theorem dX9_readPlan_25 : decode cX9_readPlan 25 = .ok (.invokevirtual 154, 3) := by decide +kernel
theorem dX9_readPlan_28 : decode cX9_readPlan 28 = .ok (.istore_n 3, 1) := by decide +kernel
theorem dX9_readPlan_29 : decode cX9_readPlan 29 = .ok (.iload_n 3, 1) := by decide +kernel
theorem dX9_readPlan_30 : decode cX9_readPlan 30 = .ok (.bipush 111, 2) := by decide +kernel
theorem dX9_readPlan_32 : decode cX9_readPlan 32 = .ok (.if_icmp .eq 16, 3) := by decide +kernel
theorem dX9_readPlan_35 : decode cX9_readPlan 35 = .ok (.aload_n 0, 1) := by decide +kernel
theorem dX9_readPlan_36 : decode cX9_readPlan 36 = .ok (.iload_n 3, 1) := by decide +kernel
theorem dX9_readPlan_37 : decode cX9_readPlan 37 = .ok (.bipush 48, 2) := by decide +kernel
theorem dX9_readPlan_39 : decode cX9_readPlan 39 = .ok (.isub, 1) := by decide +kernel
theorem dX9_readPlan_40 : decode cX9_readPlan 40 = .ok (.invokevirtual 118, 3) := by decide +kernel
theorem dX9_readPlan_43 : decode cX9_readPlan 43 = .ok (.ifCond .ne 5, 3) := by decide +kernel
theorem dX9_readPlan_46 : decode cX9_readPlan 46 = .ok (.iconst (-1), 1) := by decide +kernel
theorem dX9_readPlan_47 : decode cX9_readPlan 47 = .ok (.ireturn, 1) := by decide +kernel
theorem dX9_readPlan_48 : decode cX9_readPlan 48 = .ok (.iinc 2 1, 3) := by decide +kernel
theorem dX9_readPlan_51 : decode cX9_readPlan 51 = .ok (.goto (-36), 3) := by decide +kernel
theorem dX9_readPlan_54 : decode cX9_readPlan 54 = .ok (.iconst 0, 1) := by decide +kernel
theorem dX9_readPlan_55 : decode cX9_readPlan 55 = .ok (.istore_n 2, 1) := by decide +kernel
theorem dX9_readPlan_56 : decode cX9_readPlan 56 = .ok (.iload_n 2, 1) := by decide +kernel
theorem dX9_readPlan_57 : decode cX9_readPlan 57 = .ok (.iconst 4, 1) := by decide +kernel
theorem dX9_readPlan_58 : decode cX9_readPlan 58 = .ok (.if_icmp .ge 48, 3) := by decide +kernel
theorem dX9_readPlan_61 : decode cX9_readPlan 61 = .ok (.aload_n 0, 1) := by decide +kernel
theorem dX9_readPlan_62 : decode cX9_readPlan 62 = .ok (.getfield 10, 3) := by decide +kernel
theorem dX9_readPlan_65 : decode cX9_readPlan 65 = .ok (.iload_n 2, 1) := by decide +kernel
theorem dX9_readPlan_66 : decode cX9_readPlan 66 = .ok (.invokevirtual 154, 3) := by decide +kernel
theorem dX9_readPlan_69 : decode cX9_readPlan 69 = .ok (.istore_n 3, 1) := by decide +kernel
theorem dX9_readPlan_70 : decode cX9_readPlan 70 = .ok (.aload_n 0, 1) := by decide +kernel
theorem dX9_readPlan_71 : decode cX9_readPlan 71 = .ok (.getfield 35, 3) := by decide +kernel
theorem dX9_readPlan_74 : decode cX9_readPlan 74 = .ok (.getfield 157, 3) := by decide +kernel
theorem dX9_readPlan_77 : decode cX9_readPlan 77 = .ok (.getfield 161, 3) := by decide +kernel
theorem dX9_readPlan_80 : decode cX9_readPlan 80 = .ok (.iload_n 1, 1) := by decide +kernel
theorem dX9_readPlan_81 : decode cX9_readPlan 81 = .ok (.iconst 4, 1) := by decide +kernel
theorem dX9_readPlan_82 : decode cX9_readPlan 82 = .ok (.imul, 1) := by decide +kernel
theorem dX9_readPlan_83 : decode cX9_readPlan 83 = .ok (.iload_n 2, 1) := by decide +kernel
theorem dX9_readPlan_84 : decode cX9_readPlan 84 = .ok (.iadd, 1) := by decide +kernel
theorem dX9_readPlan_85 : decode cX9_readPlan 85 = .ok (.iload_n 3, 1) := by decide +kernel
theorem dX9_readPlan_86 : decode cX9_readPlan 86 = .ok (.bipush 111, 2) := by decide +kernel
theorem dX9_readPlan_88 : decode cX9_readPlan 88 = .ok (.if_icmp .ne 7, 3) := by decide +kernel
theorem dX9_readPlan_91 : decode cX9_readPlan 91 = .ok (.iconst (-1), 1) := by decide +kernel
theorem dX9_readPlan_92 : decode cX9_readPlan 92 = .ok (.goto 7, 3) := by decide +kernel
theorem dX9_readPlan_95 : decode cX9_readPlan 95 = .ok (.iload_n 3, 1) := by decide +kernel
theorem dX9_readPlan_96 : decode cX9_readPlan 96 = .ok (.bipush 48, 2) := by decide +kernel
theorem dX9_readPlan_98 : decode cX9_readPlan 98 = .ok (.isub, 1) := by decide +kernel
theorem dX9_readPlan_99 : decode cX9_readPlan 99 = .ok (.iastore, 1) := by decide +kernel
theorem dX9_readPlan_100 : decode cX9_readPlan 100 = .ok (.iinc 2 1, 3) := by decide +kernel
theorem dX9_readPlan_103 : decode cX9_readPlan 103 = .ok (.goto (-47), 3) := by decide +kernel
theorem dX9_readPlan_106 : decode cX9_readPlan 106 = .ok (.iconst 1, 1) := by decide +kernel
theorem dX9_readPlan_107 : decode cX9_readPlan 107 = .ok (.ireturn, 1) := by decide +kernel
set_option maxRecDepth 20000 in
theorem dX9_planned_0 : decode cX9_planned 0 = .ok (.aload_n 0, 1) := by decide +kernel
theorem dX9_planned_1 : decode cX9_planned 1 = .ok (.iload_n 1, 1) := by decide +kernel
theorem dX9_planned_2 : decode cX9_planned 2 = .ok (.invokevirtual 134, 3) := by decide +kernel
theorem dX9_planned_5 : decode cX9_planned 5 = .ok (.ifCond .eq 12, 3) := by decide +kernel
theorem dX9_planned_8 : decode cX9_planned 8 = .ok (.iload_n 2, 1) := by decide +kernel
theorem dX9_planned_9 : decode cX9_planned 9 = .ok (.ifCond .lt 8, 3) := by decide +kernel
theorem dX9_planned_12 : decode cX9_planned 12 = .ok (.iload_n 2, 1) := by decide +kernel
theorem dX9_planned_13 : decode cX9_planned 13 = .ok (.iconst 4, 1) := by decide +kernel
theorem dX9_planned_14 : decode cX9_planned 14 = .ok (.if_icmp .lt 6, 3) := by decide +kernel
theorem dX9_planned_17 : decode cX9_planned 17 = .ok (.bipush (-2), 2) := by decide +kernel
theorem dX9_planned_19 : decode cX9_planned 19 = .ok (.ireturn, 1) := by decide +kernel
theorem dX9_planned_20 : decode cX9_planned 20 = .ok (.aload_n 0, 1) := by decide +kernel
theorem dX9_planned_21 : decode cX9_planned 21 = .ok (.getfield 35, 3) := by decide +kernel
theorem dX9_planned_24 : decode cX9_planned 24 = .ok (.getfield 157, 3) := by decide +kernel
theorem dX9_planned_27 : decode cX9_planned 27 = .ok (.getfield 161, 3) := by decide +kernel
theorem dX9_planned_30 : decode cX9_planned 30 = .ok (.iload_n 1, 1) := by decide +kernel
theorem dX9_planned_31 : decode cX9_planned 31 = .ok (.iconst 4, 1) := by decide +kernel
theorem dX9_planned_32 : decode cX9_planned 32 = .ok (.imul, 1) := by decide +kernel
theorem dX9_planned_33 : decode cX9_planned 33 = .ok (.iload_n 2, 1) := by decide +kernel
theorem dX9_planned_34 : decode cX9_planned 34 = .ok (.iadd, 1) := by decide +kernel
theorem dX9_planned_35 : decode cX9_planned 35 = .ok (.iaload, 1) := by decide +kernel
theorem dX9_planned_36 : decode cX9_planned 36 = .ok (.ireturn, 1) := by decide +kernel
set_option maxRecDepth 20000 in
theorem dX9_lets_0 : decode cX9_lets 0 = .ok (.aload_n 0, 1) := by decide +kernel
theorem dX9_lets_1 : decode cX9_lets 1 = .ok (.iload_n 1, 1) := by decide +kernel
theorem dX9_lets_2 : decode cX9_lets 2 = .ok (.invokevirtual 134, 3) := by decide +kernel
theorem dX9_lets_5 : decode cX9_lets 5 = .ok (.ifCond .eq 13, 3) := by decide +kernel
theorem dX9_lets_8 : decode cX9_lets 8 = .ok (.iload_n 2, 1) := by decide +kernel
theorem dX9_lets_9 : decode cX9_lets 9 = .ok (.ifCond .lt 9, 3) := by decide +kernel
theorem dX9_lets_12 : decode cX9_lets 12 = .ok (.iload_n 2, 1) := by decide +kernel
theorem dX9_lets_13 : decode cX9_lets 13 = .ok (.bipush 31, 2) := by decide +kernel
theorem dX9_lets_15 : decode cX9_lets 15 = .ok (.if_icmp .le 6, 3) := by decide +kernel
theorem dX9_lets_18 : decode cX9_lets 18 = .ok (.bipush (-2), 2) := by decide +kernel
theorem dX9_lets_20 : decode cX9_lets 20 = .ok (.ireturn, 1) := by decide +kernel
theorem dX9_lets_21 : decode cX9_lets 21 = .ok (.aload_n 0, 1) := by decide +kernel
theorem dX9_lets_22 : decode cX9_lets 22 = .ok (.getfield 35, 3) := by decide +kernel
theorem dX9_lets_25 : decode cX9_lets 25 = .ok (.getfield 157, 3) := by decide +kernel
theorem dX9_lets_28 : decode cX9_lets 28 = .ok (.getfield 166, 3) := by decide +kernel
theorem dX9_lets_31 : decode cX9_lets 31 = .ok (.iload_n 1, 1) := by decide +kernel
theorem dX9_lets_32 : decode cX9_lets 32 = .ok (.iaload, 1) := by decide +kernel
theorem dX9_lets_33 : decode cX9_lets 33 = .ok (.istore_n 3, 1) := by decide +kernel
theorem dX9_lets_34 : decode cX9_lets 34 = .ok (.aload_n 0, 1) := by decide +kernel
theorem dX9_lets_35 : decode cX9_lets 35 = .ok (.getfield 35, 3) := by decide +kernel
theorem dX9_lets_38 : decode cX9_lets 38 = .ok (.getfield 157, 3) := by decide +kernel
theorem dX9_lets_41 : decode cX9_lets 41 = .ok (.getfield 166, 3) := by decide +kernel
theorem dX9_lets_44 : decode cX9_lets 44 = .ok (.iload_n 1, 1) := by decide +kernel
theorem dX9_lets_45 : decode cX9_lets 45 = .ok (.iload_n 2, 1) := by decide +kernel
theorem dX9_lets_46 : decode cX9_lets 46 = .ok (.iastore, 1) := by decide +kernel
theorem dX9_lets_47 : decode cX9_lets 47 = .ok (.iload_n 3, 1) := by decide +kernel
theorem dX9_lets_48 : decode cX9_lets 48 = .ok (.ireturn, 1) := by decide +kernel
theorem dX9_chance_0 : decode cX9_chance 0 = .ok (.iload_n 1, 1) := by decide +kernel
theorem dX9_chance_1 : decode cX9_chance 1 = .ok (.ifCond .ge 6, 3) := by decide +kernel
theorem dX9_chance_4 : decode cX9_chance 4 = .ok (.bipush (-2), 2) := by decide +kernel
theorem dX9_chance_6 : decode cX9_chance 6 = .ok (.ireturn, 1) := by decide +kernel
theorem dX9_chance_7 : decode cX9_chance 7 = .ok (.aload_n 0, 1) := by decide +kernel
theorem dX9_chance_8 : decode cX9_chance 8 = .ok (.getfield 35, 3) := by decide +kernel
theorem dX9_chance_11 : decode cX9_chance 11 = .ok (.iload_n 1, 1) := by decide +kernel
theorem dX9_chance_12 : decode cX9_chance 12 = .ok (.putfield 169, 3) := by decide +kernel
theorem dX9_chance_15 : decode cX9_chance 15 = .ok (.iconst 1, 1) := by decide +kernel
theorem dX9_chance_16 : decode cX9_chance 16 = .ok (.ireturn, 1) := by decide +kernel
set_option maxRecDepth 20000 in
theorem dX9_pass_0 : decode cX9_pass 0 = .ok (.iload_n 1, 1) := by decide +kernel
theorem dX9_pass_1 : decode cX9_pass 1 = .ok (.ifCond .lt 10, 3) := by decide +kernel
theorem dX9_pass_4 : decode cX9_pass 4 = .ok (.iload_n 1, 1) := by decide +kernel
theorem dX9_pass_5 : decode cX9_pass 5 = .ok (.sipush 400, 3) := by decide +kernel
theorem dX9_pass_8 : decode cX9_pass 8 = .ok (.if_icmp .le 6, 3) := by decide +kernel
theorem dX9_pass_11 : decode cX9_pass 11 = .ok (.bipush (-2), 2) := by decide +kernel
theorem dX9_pass_13 : decode cX9_pass 13 = .ok (.ireturn, 1) := by decide +kernel
theorem dX9_pass_14 : decode cX9_pass 14 = .ok (.iconst 0, 1) := by decide +kernel
theorem dX9_pass_15 : decode cX9_pass 15 = .ok (.istore_n 2, 1) := by decide +kernel
theorem dX9_pass_16 : decode cX9_pass 16 = .ok (.iload_n 2, 1) := by decide +kernel
theorem dX9_pass_17 : decode cX9_pass 17 = .ok (.iload_n 1, 1) := by decide +kernel
theorem dX9_pass_18 : decode cX9_pass 18 = .ok (.if_icmp .ge 20, 3) := by decide +kernel
theorem dX9_pass_21 : decode cX9_pass 21 = .ok (.aload_n 0, 1) := by decide +kernel
theorem dX9_pass_22 : decode cX9_pass 22 = .ok (.getfield 35, 3) := by decide +kernel
theorem dX9_pass_25 : decode cX9_pass 25 = .ok (.aload_n 0, 1) := by decide +kernel
theorem dX9_pass_26 : decode cX9_pass 26 = .ok (.getfield 28, 3) := by decide +kernel
theorem dX9_pass_29 : decode cX9_pass 29 = .ok (.invokevirtual 172, 3) := by decide +kernel
theorem dX9_pass_32 : decode cX9_pass 32 = .ok (.iinc 2 1, 3) := by decide +kernel
theorem dX9_pass_35 : decode cX9_pass 35 = .ok (.goto (-19), 3) := by decide +kernel
theorem dX9_pass_38 : decode cX9_pass 38 = .ok (.aload_n 0, 1) := by decide +kernel
theorem dX9_pass_39 : decode cX9_pass 39 = .ok (.getfield 35, 3) := by decide +kernel
theorem dX9_pass_42 : decode cX9_pass 42 = .ok (.getfield 175, 3) := by decide +kernel
theorem dX9_pass_45 : decode cX9_pass 45 = .ok (.getfield 179, 3) := by decide +kernel
theorem dX9_pass_48 : decode cX9_pass 48 = .ok (.ireturn, 1) := by decide +kernel
set_option maxRecDepth 20000 in
theorem dX9_who_0 : decode cX9_who 0 = .ok (.aload_n 0, 1) := by decide +kernel
theorem dX9_who_1 : decode cX9_who 1 = .ok (.iload_n 1, 1) := by decide +kernel
theorem dX9_who_2 : decode cX9_who 2 = .ok (.invokevirtual 134, 3) := by decide +kernel
theorem dX9_who_5 : decode cX9_who 5 = .ok (.ifCond .ne 6, 3) := by decide +kernel
theorem dX9_who_8 : decode cX9_who 8 = .ok (.ldc 184, 2) := by decide +kernel
theorem dX9_who_10 : decode cX9_who 10 = .ok (.ireturn, 1) := by decide +kernel
theorem dX9_who_11 : decode cX9_who 11 = .ok (.iload_n 2, 1) := by decide +kernel
theorem dX9_who_12 : decode cX9_who 12 = .ok (.tableswitch 84 0 3 #[32, 45, 58, 71], 32) := by decide +kernel
theorem dX9_who_44 : decode cX9_who 44 = .ok (.aload_n 0, 1) := by decide +kernel
theorem dX9_who_45 : decode cX9_who 45 = .ok (.getfield 35, 3) := by decide +kernel
theorem dX9_who_48 : decode cX9_who 48 = .ok (.getfield 175, 3) := by decide +kernel
theorem dX9_who_51 : decode cX9_who 51 = .ok (.getfield 185, 3) := by decide +kernel
theorem dX9_who_54 : decode cX9_who 54 = .ok (.iload_n 1, 1) := by decide +kernel
theorem dX9_who_55 : decode cX9_who 55 = .ok (.iaload, 1) := by decide +kernel
theorem dX9_who_56 : decode cX9_who 56 = .ok (.ireturn, 1) := by decide +kernel
theorem dX9_who_57 : decode cX9_who 57 = .ok (.aload_n 0, 1) := by decide +kernel
theorem dX9_who_58 : decode cX9_who 58 = .ok (.getfield 35, 3) := by decide +kernel
theorem dX9_who_61 : decode cX9_who 61 = .ok (.getfield 175, 3) := by decide +kernel
theorem dX9_who_64 : decode cX9_who 64 = .ok (.getfield 188, 3) := by decide +kernel
theorem dX9_who_67 : decode cX9_who 67 = .ok (.iload_n 1, 1) := by decide +kernel
theorem dX9_who_68 : decode cX9_who 68 = .ok (.iaload, 1) := by decide +kernel
theorem dX9_who_69 : decode cX9_who 69 = .ok (.ireturn, 1) := by decide +kernel
theorem dX9_who_70 : decode cX9_who 70 = .ok (.aload_n 0, 1) := by decide +kernel
theorem dX9_who_71 : decode cX9_who 71 = .ok (.getfield 35, 3) := by decide +kernel
theorem dX9_who_74 : decode cX9_who 74 = .ok (.getfield 175, 3) := by decide +kernel
theorem dX9_who_77 : decode cX9_who 77 = .ok (.getfield 191, 3) := by decide +kernel
theorem dX9_who_80 : decode cX9_who 80 = .ok (.iload_n 1, 1) := by decide +kernel
theorem dX9_who_81 : decode cX9_who 81 = .ok (.iaload, 1) := by decide +kernel
theorem dX9_who_82 : decode cX9_who 82 = .ok (.ireturn, 1) := by decide +kernel
theorem dX9_who_83 : decode cX9_who 83 = .ok (.aload_n 0, 1) := by decide +kernel
theorem dX9_who_84 : decode cX9_who 84 = .ok (.getfield 35, 3) := by decide +kernel
theorem dX9_who_87 : decode cX9_who 87 = .ok (.getfield 175, 3) := by decide +kernel
theorem dX9_who_90 : decode cX9_who 90 = .ok (.getfield 194, 3) := by decide +kernel
theorem dX9_who_93 : decode cX9_who 93 = .ok (.iload_n 1, 1) := by decide +kernel
theorem dX9_who_94 : decode cX9_who 94 = .ok (.iaload, 1) := by decide +kernel
theorem dX9_who_95 : decode cX9_who 95 = .ok (.ireturn, 1) := by decide +kernel
theorem dX9_who_96 : decode cX9_who 96 = .ok (.ldc 184, 2) := by decide +kernel
theorem dX9_who_98 : decode cX9_who 98 = .ok (.ireturn, 1) := by decide +kernel
set_option maxRecDepth 20000 in
theorem dX9_house_0 : decode cX9_house 0 = .ok (.aload_n 0, 1) := by decide +kernel
theorem dX9_house_1 : decode cX9_house 1 = .ok (.iload_n 1, 1) := by decide +kernel
theorem dX9_house_2 : decode cX9_house 2 = .ok (.invokevirtual 118, 3) := by decide +kernel
theorem dX9_house_5 : decode cX9_house 5 = .ok (.ifCond .ne 6, 3) := by decide +kernel
theorem dX9_house_8 : decode cX9_house 8 = .ok (.bipush (-2), 2) := by decide +kernel
theorem dX9_house_10 : decode cX9_house 10 = .ok (.ireturn, 1) := by decide +kernel
theorem dX9_house_11 : decode cX9_house 11 = .ok (.iload_n 2, 1) := by decide +kernel
theorem dX9_house_12 : decode cX9_house 12 = .ok (.tableswitch 90 0 3 #[32, 48, 61, 74], 32) := by decide +kernel
theorem dX9_house_44 : decode cX9_house 44 = .ok (.aload_n 0, 1) := by decide +kernel
theorem dX9_house_45 : decode cX9_house 45 = .ok (.getfield 35, 3) := by decide +kernel
theorem dX9_house_48 : decode cX9_house 48 = .ok (.getfield 175, 3) := by decide +kernel
theorem dX9_house_51 : decode cX9_house 51 = .ok (.aload_n 0, 1) := by decide +kernel
theorem dX9_house_52 : decode cX9_house 52 = .ok (.getfield 28, 3) := by decide +kernel
theorem dX9_house_55 : decode cX9_house 55 = .ok (.iload_n 1, 1) := by decide +kernel
theorem dX9_house_56 : decode cX9_house 56 = .ok (.invokevirtual 197, 3) := by decide +kernel
theorem dX9_house_59 : decode cX9_house 59 = .ok (.ireturn, 1) := by decide +kernel
theorem dX9_house_60 : decode cX9_house 60 = .ok (.aload_n 0, 1) := by decide +kernel
theorem dX9_house_61 : decode cX9_house 61 = .ok (.getfield 35, 3) := by decide +kernel
theorem dX9_house_64 : decode cX9_house 64 = .ok (.getfield 175, 3) := by decide +kernel
theorem dX9_house_67 : decode cX9_house 67 = .ok (.getfield 201, 3) := by decide +kernel
theorem dX9_house_70 : decode cX9_house 70 = .ok (.iload_n 1, 1) := by decide +kernel
theorem dX9_house_71 : decode cX9_house 71 = .ok (.iaload, 1) := by decide +kernel
theorem dX9_house_72 : decode cX9_house 72 = .ok (.ireturn, 1) := by decide +kernel
theorem dX9_house_73 : decode cX9_house 73 = .ok (.aload_n 0, 1) := by decide +kernel
theorem dX9_house_74 : decode cX9_house 74 = .ok (.getfield 35, 3) := by decide +kernel
theorem dX9_house_77 : decode cX9_house 77 = .ok (.getfield 175, 3) := by decide +kernel
theorem dX9_house_80 : decode cX9_house 80 = .ok (.getfield 202, 3) := by decide +kernel
theorem dX9_house_83 : decode cX9_house 83 = .ok (.iload_n 1, 1) := by decide +kernel
theorem dX9_house_84 : decode cX9_house 84 = .ok (.iaload, 1) := by decide +kernel
theorem dX9_house_85 : decode cX9_house 85 = .ok (.ireturn, 1) := by decide +kernel
theorem dX9_house_86 : decode cX9_house 86 = .ok (.aload_n 0, 1) := by decide +kernel
theorem dX9_house_87 : decode cX9_house 87 = .ok (.getfield 35, 3) := by decide +kernel
theorem dX9_house_90 : decode cX9_house 90 = .ok (.getfield 175, 3) := by decide +kernel
theorem dX9_house_93 : decode cX9_house 93 = .ok (.aload_n 0, 1) := by decide +kernel
theorem dX9_house_94 : decode cX9_house 94 = .ok (.getfield 28, 3) := by decide +kernel
theorem dX9_house_97 : decode cX9_house 97 = .ok (.iload_n 1, 1) := by decide +kernel
theorem dX9_house_98 : decode cX9_house 98 = .ok (.invokevirtual 203, 3) := by decide +kernel
theorem dX9_house_101 : decode cX9_house 101 = .ok (.ireturn, 1) := by decide +kernel
theorem dX9_house_102 : decode cX9_house 102 = .ok (.bipush (-2), 2) := by decide +kernel
theorem dX9_house_104 : decode cX9_house 104 = .ok (.ireturn, 1) := by decide +kernel
set_option maxRecDepth 20000 in
theorem dX9_word_0 : decode cX9_word 0 = .ok (.aload_n 0, 1) := by decide +kernel
theorem dX9_word_1 : decode cX9_word 1 = .ok (.iload_n 1, 1) := by decide +kernel
theorem dX9_word_2 : decode cX9_word 2 = .ok (.invokevirtual 118, 3) := by decide +kernel
theorem dX9_word_5 : decode cX9_word 5 = .ok (.ifCond .eq 21, 3) := by decide +kernel
theorem dX9_word_8 : decode cX9_word 8 = .ok (.aload_n 0, 1) := by decide +kernel
theorem dX9_word_9 : decode cX9_word 9 = .ok (.getfield 35, 3) := by decide +kernel
theorem dX9_word_12 : decode cX9_word 12 = .ok (.getfield 175, 3) := by decide +kernel
theorem dX9_word_15 : decode cX9_word 15 = .ok (.aload_n 0, 1) := by decide +kernel
theorem dX9_word_16 : decode cX9_word 16 = .ok (.getfield 28, 3) := by decide +kernel
theorem dX9_word_19 : decode cX9_word 19 = .ok (.iload_n 1, 1) := by decide +kernel
theorem dX9_word_20 : decode cX9_word 20 = .ok (.invokevirtual 206, 3) := by decide +kernel
theorem dX9_word_23 : decode cX9_word 23 = .ok (.goto 5, 3) := by decide +kernel
theorem dX9_word_26 : decode cX9_word 26 = .ok (.bipush (-2), 2) := by decide +kernel
theorem dX9_word_28 : decode cX9_word 28 = .ok (.ireturn, 1) := by decide +kernel
set_option maxRecDepth 20000 in
theorem dX9_keep_0 : decode cX9_keep 0 = .ok (.iload_n 1, 1) := by decide +kernel
theorem dX9_keep_1 : decode cX9_keep 1 = .ok (.ifCond .lt 8, 3) := by decide +kernel
theorem dX9_keep_4 : decode cX9_keep 4 = .ok (.iload_n 1, 1) := by decide +kernel
theorem dX9_keep_5 : decode cX9_keep 5 = .ok (.iconst 3, 1) := by decide +kernel
theorem dX9_keep_6 : decode cX9_keep 6 = .ok (.if_icmp .lt 6, 3) := by decide +kernel
theorem dX9_keep_9 : decode cX9_keep 9 = .ok (.bipush (-2), 2) := by decide +kernel
theorem dX9_keep_11 : decode cX9_keep 11 = .ok (.ireturn, 1) := by decide +kernel
theorem dX9_keep_12 : decode cX9_keep 12 = .ok (.aload_n 0, 1) := by decide +kernel
theorem dX9_keep_13 : decode cX9_keep 13 = .ok (.getfield 39, 3) := by decide +kernel
theorem dX9_keep_16 : decode cX9_keep 16 = .ok (.iload_n 1, 1) := by decide +kernel
theorem dX9_keep_17 : decode cX9_keep 17 = .ok (.aaload, 1) := by decide +kernel
theorem dX9_keep_18 : decode cX9_keep 18 = .ok (.aload_n 0, 1) := by decide +kernel
theorem dX9_keep_19 : decode cX9_keep 19 = .ok (.getfield 35, 3) := by decide +kernel
theorem dX9_keep_22 : decode cX9_keep 22 = .ok (.invokevirtual 209, 3) := by decide +kernel
theorem dX9_keep_25 : decode cX9_keep 25 = .ok (.aload_n 0, 1) := by decide +kernel
theorem dX9_keep_26 : decode cX9_keep 26 = .ok (.getfield 39, 3) := by decide +kernel
theorem dX9_keep_29 : decode cX9_keep 29 = .ok (.iload_n 1, 1) := by decide +kernel
theorem dX9_keep_30 : decode cX9_keep 30 = .ok (.aaload, 1) := by decide +kernel
theorem dX9_keep_31 : decode cX9_keep 31 = .ok (.iconst 1, 1) := by decide +kernel
theorem dX9_keep_32 : decode cX9_keep 32 = .ok (.putfield 83, 3) := by decide +kernel
theorem dX9_keep_35 : decode cX9_keep 35 = .ok (.aload_n 0, 1) := by decide +kernel
theorem dX9_keep_36 : decode cX9_keep 36 = .ok (.getfield 35, 3) := by decide +kernel
theorem dX9_keep_39 : decode cX9_keep 39 = .ok (.getfield 175, 3) := by decide +kernel
theorem dX9_keep_42 : decode cX9_keep 42 = .ok (.getfield 179, 3) := by decide +kernel
theorem dX9_keep_45 : decode cX9_keep 45 = .ok (.ireturn, 1) := by decide +kernel
set_option maxRecDepth 20000 in
theorem dX9_take_0 : decode cX9_take 0 = .ok (.iload_n 1, 1) := by decide +kernel
theorem dX9_take_1 : decode cX9_take 1 = .ok (.ifCond .lt 8, 3) := by decide +kernel
theorem dX9_take_4 : decode cX9_take 4 = .ok (.iload_n 1, 1) := by decide +kernel
theorem dX9_take_5 : decode cX9_take 5 = .ok (.iconst 3, 1) := by decide +kernel
theorem dX9_take_6 : decode cX9_take 6 = .ok (.if_icmp .lt 6, 3) := by decide +kernel
theorem dX9_take_9 : decode cX9_take 9 = .ok (.bipush (-2), 2) := by decide +kernel
theorem dX9_take_11 : decode cX9_take 11 = .ok (.ireturn, 1) := by decide +kernel
theorem dX9_take_12 : decode cX9_take 12 = .ok (.aload_n 0, 1) := by decide +kernel
theorem dX9_take_13 : decode cX9_take 13 = .ok (.getfield 39, 3) := by decide +kernel
theorem dX9_take_16 : decode cX9_take 16 = .ok (.iload_n 1, 1) := by decide +kernel
theorem dX9_take_17 : decode cX9_take 17 = .ok (.aaload, 1) := by decide +kernel
theorem dX9_take_18 : decode cX9_take 18 = .ok (.getfield 83, 3) := by decide +kernel
theorem dX9_take_21 : decode cX9_take 21 = .ok (.ifCond .ne 6, 3) := by decide +kernel
theorem dX9_take_24 : decode cX9_take 24 = .ok (.bipush (-4), 2) := by decide +kernel
theorem dX9_take_26 : decode cX9_take 26 = .ok (.ireturn, 1) := by decide +kernel
theorem dX9_take_27 : decode cX9_take 27 = .ok (.aload_n 0, 1) := by decide +kernel
theorem dX9_take_28 : decode cX9_take 28 = .ok (.getfield 35, 3) := by decide +kernel
theorem dX9_take_31 : decode cX9_take 31 = .ok (.aload_n 0, 1) := by decide +kernel
theorem dX9_take_32 : decode cX9_take 32 = .ok (.getfield 39, 3) := by decide +kernel
theorem dX9_take_35 : decode cX9_take 35 = .ok (.iload_n 1, 1) := by decide +kernel
theorem dX9_take_36 : decode cX9_take 36 = .ok (.aaload, 1) := by decide +kernel
theorem dX9_take_37 : decode cX9_take 37 = .ok (.invokevirtual 209, 3) := by decide +kernel
theorem dX9_take_40 : decode cX9_take 40 = .ok (.aload_n 0, 1) := by decide +kernel
theorem dX9_take_41 : decode cX9_take 41 = .ok (.getfield 35, 3) := by decide +kernel
theorem dX9_take_44 : decode cX9_take 44 = .ok (.getfield 175, 3) := by decide +kernel
theorem dX9_take_47 : decode cX9_take 47 = .ok (.getfield 179, 3) := by decide +kernel
theorem dX9_take_50 : decode cX9_take 50 = .ok (.ireturn, 1) := by decide +kernel
set_option maxRecDepth 20000 in
theorem dX9_sum_0 : decode cX9_sum 0 = .ok (.aload_n 0, 1) := by decide +kernel
theorem dX9_sum_1 : decode cX9_sum 1 = .ok (.iload_n 1, 1) := by decide +kernel
theorem dX9_sum_2 : decode cX9_sum 2 = .ok (.invokevirtual 134, 3) := by decide +kernel
theorem dX9_sum_5 : decode cX9_sum 5 = .ok (.ifCond .ne 6, 3) := by decide +kernel
theorem dX9_sum_8 : decode cX9_sum 8 = .ok (.ldc 184, 2) := by decide +kernel
theorem dX9_sum_10 : decode cX9_sum 10 = .ok (.ireturn, 1) := by decide +kernel
theorem dX9_sum_11 : decode cX9_sum 11 = .ok (.aload_n 0, 1) := by decide +kernel
theorem dX9_sum_12 : decode cX9_sum 12 = .ok (.getfield 46, 3) := by decide +kernel
theorem dX9_sum_15 : decode cX9_sum 15 = .ok (.aload_n 0, 1) := by decide +kernel
theorem dX9_sum_16 : decode cX9_sum 16 = .ok (.getfield 28, 3) := by decide +kernel
theorem dX9_sum_19 : decode cX9_sum 19 = .ok (.aload_n 0, 1) := by decide +kernel
theorem dX9_sum_20 : decode cX9_sum 20 = .ok (.getfield 35, 3) := by decide +kernel
theorem dX9_sum_23 : decode cX9_sum 23 = .ok (.invokevirtual 213, 3) := by decide +kernel
theorem dX9_sum_26 : decode cX9_sum 26 = .ok (.aload_n 0, 1) := by decide +kernel
theorem dX9_sum_27 : decode cX9_sum 27 = .ok (.getfield 46, 3) := by decide +kernel
theorem dX9_sum_30 : decode cX9_sum 30 = .ok (.iload_n 1, 1) := by decide +kernel
theorem dX9_sum_31 : decode cX9_sum 31 = .ok (.invokevirtual 217, 3) := by decide +kernel
theorem dX9_sum_34 : decode cX9_sum 34 = .ok (.ireturn, 1) := by decide +kernel
set_option maxRecDepth 20000 in
theorem dX9_best_0 : decode cX9_best 0 = .ok (.aload_n 0, 1) := by decide +kernel
theorem dX9_best_1 : decode cX9_best 1 = .ok (.iload_n 1, 1) := by decide +kernel
theorem dX9_best_2 : decode cX9_best 2 = .ok (.invokevirtual 134, 3) := by decide +kernel
theorem dX9_best_5 : decode cX9_best 5 = .ok (.ifCond .eq 12, 3) := by decide +kernel
theorem dX9_best_8 : decode cX9_best 8 = .ok (.iload_n 2, 1) := by decide +kernel
theorem dX9_best_9 : decode cX9_best 9 = .ok (.ifCond .lt 8, 3) := by decide +kernel
theorem dX9_best_12 : decode cX9_best 12 = .ok (.iload_n 2, 1) := by decide +kernel
theorem dX9_best_13 : decode cX9_best 13 = .ok (.iconst 4, 1) := by decide +kernel
theorem dX9_best_14 : decode cX9_best 14 = .ok (.if_icmp .le 6, 3) := by decide +kernel
theorem dX9_best_17 : decode cX9_best 17 = .ok (.ldc 184, 2) := by decide +kernel
theorem dX9_best_19 : decode cX9_best 19 = .ok (.ireturn, 1) := by decide +kernel
theorem dX9_best_20 : decode cX9_best 20 = .ok (.aload_n 0, 1) := by decide +kernel
theorem dX9_best_21 : decode cX9_best 21 = .ok (.getfield 46, 3) := by decide +kernel
theorem dX9_best_24 : decode cX9_best 24 = .ok (.aload_n 0, 1) := by decide +kernel
theorem dX9_best_25 : decode cX9_best 25 = .ok (.getfield 28, 3) := by decide +kernel
theorem dX9_best_28 : decode cX9_best 28 = .ok (.aload_n 0, 1) := by decide +kernel
theorem dX9_best_29 : decode cX9_best 29 = .ok (.getfield 35, 3) := by decide +kernel
theorem dX9_best_32 : decode cX9_best 32 = .ok (.invokevirtual 213, 3) := by decide +kernel
theorem dX9_best_35 : decode cX9_best 35 = .ok (.aload_n 0, 1) := by decide +kernel
theorem dX9_best_36 : decode cX9_best 36 = .ok (.getfield 46, 3) := by decide +kernel
theorem dX9_best_39 : decode cX9_best 39 = .ok (.iload_n 1, 1) := by decide +kernel
theorem dX9_best_40 : decode cX9_best 40 = .ok (.invokevirtual 220, 3) := by decide +kernel
theorem dX9_best_43 : decode cX9_best 43 = .ok (.iload_n 2, 1) := by decide +kernel
theorem dX9_best_44 : decode cX9_best 44 = .ok (.iconst 4, 1) := by decide +kernel
theorem dX9_best_45 : decode cX9_best 45 = .ok (.if_icmp .ne 13, 3) := by decide +kernel
theorem dX9_best_48 : decode cX9_best 48 = .ok (.aload_n 0, 1) := by decide +kernel
theorem dX9_best_49 : decode cX9_best 49 = .ok (.getfield 46, 3) := by decide +kernel
theorem dX9_best_52 : decode cX9_best 52 = .ok (.getfield 223, 3) := by decide +kernel
theorem dX9_best_55 : decode cX9_best 55 = .ok (.goto 11, 3) := by decide +kernel
theorem dX9_best_58 : decode cX9_best 58 = .ok (.aload_n 0, 1) := by decide +kernel
theorem dX9_best_59 : decode cX9_best 59 = .ok (.getfield 46, 3) := by decide +kernel
theorem dX9_best_62 : decode cX9_best 62 = .ok (.iload_n 2, 1) := by decide +kernel
theorem dX9_best_63 : decode cX9_best 63 = .ok (.invokevirtual 226, 3) := by decide +kernel
theorem dX9_best_66 : decode cX9_best 66 = .ok (.ireturn, 1) := by decide +kernel
set_option maxRecDepth 20000 in
theorem dX9_rests_0 : decode cX9_rests 0 = .ok (.aload_n 0, 1) := by decide +kernel
theorem dX9_rests_1 : decode cX9_rests 1 = .ok (.getfield 46, 3) := by decide +kernel
theorem dX9_rests_4 : decode cX9_rests 4 = .ok (.aload_n 0, 1) := by decide +kernel
theorem dX9_rests_5 : decode cX9_rests 5 = .ok (.getfield 28, 3) := by decide +kernel
theorem dX9_rests_8 : decode cX9_rests 8 = .ok (.aload_n 0, 1) := by decide +kernel
theorem dX9_rests_9 : decode cX9_rests 9 = .ok (.getfield 35, 3) := by decide +kernel
theorem dX9_rests_12 : decode cX9_rests 12 = .ok (.invokevirtual 213, 3) := by decide +kernel
theorem dX9_rests_15 : decode cX9_rests 15 = .ok (.aload_n 0, 1) := by decide +kernel
theorem dX9_rests_16 : decode cX9_rests 16 = .ok (.getfield 46, 3) := by decide +kernel
theorem dX9_rests_19 : decode cX9_rests 19 = .ok (.iconst (-1), 1) := by decide +kernel
theorem dX9_rests_20 : decode cX9_rests 20 = .ok (.invokevirtual 229, 3) := by decide +kernel
theorem dX9_rests_23 : decode cX9_rests 23 = .ok (.ireturn, 1) := by decide +kernel
set_option maxRecDepth 20000 in
theorem dX9_rest_0 : decode cX9_rest 0 = .ok (.iload_n 1, 1) := by decide +kernel
theorem dX9_rest_1 : decode cX9_rest 1 = .ok (.ifCond .lt 11, 3) := by decide +kernel
theorem dX9_rest_4 : decode cX9_rest 4 = .ok (.aload_n 0, 1) := by decide +kernel
theorem dX9_rest_5 : decode cX9_rest 5 = .ok (.iload_n 2, 1) := by decide +kernel
theorem dX9_rest_6 : decode cX9_rest 6 = .ok (.invokevirtual 134, 3) := by decide +kernel
theorem dX9_rest_9 : decode cX9_rest 9 = .ok (.ifCond .ne 6, 3) := by decide +kernel
theorem dX9_rest_12 : decode cX9_rest 12 = .ok (.bipush (-2), 2) := by decide +kernel
theorem dX9_rest_14 : decode cX9_rest 14 = .ok (.ireturn, 1) := by decide +kernel
theorem dX9_rest_15 : decode cX9_rest 15 = .ok (.aload_n 0, 1) := by decide +kernel
theorem dX9_rest_16 : decode cX9_rest 16 = .ok (.getfield 46, 3) := by decide +kernel
theorem dX9_rest_19 : decode cX9_rest 19 = .ok (.aload_n 0, 1) := by decide +kernel
theorem dX9_rest_20 : decode cX9_rest 20 = .ok (.getfield 28, 3) := by decide +kernel
theorem dX9_rest_23 : decode cX9_rest 23 = .ok (.aload_n 0, 1) := by decide +kernel
theorem dX9_rest_24 : decode cX9_rest 24 = .ok (.getfield 35, 3) := by decide +kernel
theorem dX9_rest_27 : decode cX9_rest 27 = .ok (.invokevirtual 213, 3) := by decide +kernel
theorem dX9_rest_30 : decode cX9_rest 30 = .ok (.aload_n 0, 1) := by decide +kernel
theorem dX9_rest_31 : decode cX9_rest 31 = .ok (.getfield 46, 3) := by decide +kernel
theorem dX9_rest_34 : decode cX9_rest 34 = .ok (.iload_n 1, 1) := by decide +kernel
theorem dX9_rest_35 : decode cX9_rest 35 = .ok (.invokevirtual 229, 3) := by decide +kernel
theorem dX9_rest_38 : decode cX9_rest 38 = .ok (.iload_n 1, 1) := by decide +kernel
theorem dX9_rest_39 : decode cX9_rest 39 = .ok (.if_icmp .gt 6, 3) := by decide +kernel
theorem dX9_rest_42 : decode cX9_rest 42 = .ok (.bipush (-2), 2) := by decide +kernel
theorem dX9_rest_44 : decode cX9_rest 44 = .ok (.ireturn, 1) := by decide +kernel
theorem dX9_rest_45 : decode cX9_rest 45 = .ok (.aload_n 0, 1) := by decide +kernel
theorem dX9_rest_46 : decode cX9_rest 46 = .ok (.getfield 46, 3) := by decide +kernel
theorem dX9_rest_49 : decode cX9_rest 49 = .ok (.getfield 232, 3) := by decide +kernel
theorem dX9_rest_52 : decode cX9_rest 52 = .ok (.iload_n 2, 1) := by decide +kernel
theorem dX9_rest_53 : decode cX9_rest 53 = .ok (.iaload, 1) := by decide +kernel
theorem dX9_rest_54 : decode cX9_rest 54 = .ok (.ireturn, 1) := by decide +kernel
set_option maxRecDepth 20000 in
theorem dX9_settle_0 : decode cX9_settle 0 = .ok (.aload_n 0, 1) := by decide +kernel
theorem dX9_settle_1 : decode cX9_settle 1 = .ok (.getfield 46, 3) := by decide +kernel
theorem dX9_settle_4 : decode cX9_settle 4 = .ok (.aload_n 0, 1) := by decide +kernel
theorem dX9_settle_5 : decode cX9_settle 5 = .ok (.getfield 28, 3) := by decide +kernel
theorem dX9_settle_8 : decode cX9_settle 8 = .ok (.aload_n 0, 1) := by decide +kernel
theorem dX9_settle_9 : decode cX9_settle 9 = .ok (.getfield 35, 3) := by decide +kernel
theorem dX9_settle_12 : decode cX9_settle 12 = .ok (.invokevirtual 213, 3) := by decide +kernel
theorem dX9_settle_15 : decode cX9_settle 15 = .ok (.aload_n 0, 1) := by decide +kernel
theorem dX9_settle_16 : decode cX9_settle 16 = .ok (.getfield 46, 3) := by decide +kernel
theorem dX9_settle_19 : decode cX9_settle 19 = .ok (.invokevirtual 235, 3) := by decide +kernel
theorem dX9_settle_22 : decode cX9_settle 22 = .ok (.istore_n 1, 1) := by decide +kernel
theorem dX9_settle_23 : decode cX9_settle 23 = .ok (.aload_n 0, 1) := by decide +kernel
theorem dX9_settle_24 : decode cX9_settle 24 = .ok (.getfield 35, 3) := by decide +kernel
theorem dX9_settle_27 : decode cX9_settle 27 = .ok (.getfield 157, 3) := by decide +kernel
theorem dX9_settle_30 : decode cX9_settle 30 = .ok (.aload_n 0, 1) := by decide +kernel
theorem dX9_settle_31 : decode cX9_settle 31 = .ok (.getfield 46, 3) := by decide +kernel
theorem dX9_settle_34 : decode cX9_settle 34 = .ok (.getfield 239, 3) := by decide +kernel
theorem dX9_settle_37 : decode cX9_settle 37 = .ok (.invokevirtual 240, 3) := by decide +kernel
theorem dX9_settle_40 : decode cX9_settle 40 = .ok (.iload_n 1, 1) := by decide +kernel
theorem dX9_settle_41 : decode cX9_settle 41 = .ok (.ireturn, 1) := by decide +kernel
set_option maxRecDepth 20000 in
theorem dX9_longer_0 : decode cX9_longer 0 = .ok (.aload_n 0, 1) := by decide +kernel
theorem dX9_longer_1 : decode cX9_longer 1 = .ok (.iload_n 1, 1) := by decide +kernel
theorem dX9_longer_2 : decode cX9_longer 2 = .ok (.invokevirtual 118, 3) := by decide +kernel
theorem dX9_longer_5 : decode cX9_longer 5 = .ok (.ifCond .eq 23, 3) := by decide +kernel
theorem dX9_longer_8 : decode cX9_longer 8 = .ok (.iload_n 2, 1) := by decide +kernel
theorem dX9_longer_9 : decode cX9_longer 9 = .ok (.iconst 1, 1) := by decide +kernel
theorem dX9_longer_10 : decode cX9_longer 10 = .ok (.if_icmp .lt 18, 3) := by decide +kernel
theorem dX9_longer_13 : decode cX9_longer 13 = .ok (.iload_n 2, 1) := by decide +kernel
theorem dX9_longer_14 : decode cX9_longer 14 = .ok (.bipush 60, 2) := by decide +kernel
theorem dX9_longer_16 : decode cX9_longer 16 = .ok (.if_icmp .gt 12, 3) := by decide +kernel
theorem dX9_longer_19 : decode cX9_longer 19 = .ok (.iload_n 3, 1) := by decide +kernel
theorem dX9_longer_20 : decode cX9_longer 20 = .ok (.ifCond .lt 8, 3) := by decide +kernel
theorem dX9_longer_23 : decode cX9_longer 23 = .ok (.iload_n 3, 1) := by decide +kernel
theorem dX9_longer_24 : decode cX9_longer 24 = .ok (.iconst 1, 1) := by decide +kernel
theorem dX9_longer_25 : decode cX9_longer 25 = .ok (.if_icmp .le 6, 3) := by decide +kernel
theorem dX9_longer_28 : decode cX9_longer 28 = .ok (.bipush (-2), 2) := by decide +kernel
theorem dX9_longer_30 : decode cX9_longer 30 = .ok (.ireturn, 1) := by decide +kernel
theorem dX9_longer_31 : decode cX9_longer 31 = .ok (.aload_n 0, 1) := by decide +kernel
theorem dX9_longer_32 : decode cX9_longer 32 = .ok (.getfield 46, 3) := by decide +kernel
theorem dX9_longer_35 : decode cX9_longer 35 = .ok (.aload_n 0, 1) := by decide +kernel
theorem dX9_longer_36 : decode cX9_longer 36 = .ok (.getfield 28, 3) := by decide +kernel
theorem dX9_longer_39 : decode cX9_longer 39 = .ok (.aload_n 0, 1) := by decide +kernel
theorem dX9_longer_40 : decode cX9_longer 40 = .ok (.getfield 35, 3) := by decide +kernel
theorem dX9_longer_43 : decode cX9_longer 43 = .ok (.invokevirtual 213, 3) := by decide +kernel
theorem dX9_longer_46 : decode cX9_longer 46 = .ok (.aload_n 0, 1) := by decide +kernel
theorem dX9_longer_47 : decode cX9_longer 47 = .ok (.getfield 46, 3) := by decide +kernel
theorem dX9_longer_50 : decode cX9_longer 50 = .ok (.iload_n 2, 1) := by decide +kernel
theorem dX9_longer_51 : decode cX9_longer 51 = .ok (.iconst 4, 1) := by decide +kernel
theorem dX9_longer_52 : decode cX9_longer 52 = .ok (.imul, 1) := by decide +kernel
theorem dX9_longer_53 : decode cX9_longer 53 = .ok (.invokevirtual 243, 3) := by decide +kernel
theorem dX9_longer_56 : decode cX9_longer 56 = .ok (.iload_n 3, 1) := by decide +kernel
theorem dX9_longer_57 : decode cX9_longer 57 = .ok (.ifCond .ne 18, 3) := by decide +kernel
theorem dX9_longer_60 : decode cX9_longer 60 = .ok (.aload_n 0, 1) := by decide +kernel
theorem dX9_longer_61 : decode cX9_longer 61 = .ok (.getfield 46, 3) := by decide +kernel
theorem dX9_longer_64 : decode cX9_longer 64 = .ok (.getfield 246, 3) := by decide +kernel
theorem dX9_longer_67 : decode cX9_longer 67 = .ok (.getfield 201, 3) := by decide +kernel
theorem dX9_longer_70 : decode cX9_longer 70 = .ok (.iload_n 1, 1) := by decide +kernel
theorem dX9_longer_71 : decode cX9_longer 71 = .ok (.iaload, 1) := by decide +kernel
theorem dX9_longer_72 : decode cX9_longer 72 = .ok (.goto 15, 3) := by decide +kernel
theorem dX9_longer_75 : decode cX9_longer 75 = .ok (.aload_n 0, 1) := by decide +kernel
theorem dX9_longer_76 : decode cX9_longer 76 = .ok (.getfield 46, 3) := by decide +kernel
theorem dX9_longer_79 : decode cX9_longer 79 = .ok (.getfield 246, 3) := by decide +kernel
theorem dX9_longer_82 : decode cX9_longer 82 = .ok (.getfield 202, 3) := by decide +kernel
theorem dX9_longer_85 : decode cX9_longer 85 = .ok (.iload_n 1, 1) := by decide +kernel
theorem dX9_longer_86 : decode cX9_longer 86 = .ok (.iaload, 1) := by decide +kernel
theorem dX9_longer_87 : decode cX9_longer 87 = .ok (.ireturn, 1) := by decide +kernel
set_option maxRecDepth 20000 in
theorem dX9_guard_0 : decode cX9_guard 0 = .ok (.aload_n 0, 1) := by decide +kernel
theorem dX9_guard_1 : decode cX9_guard 1 = .ok (.iload_n 1, 1) := by decide +kernel
theorem dX9_guard_2 : decode cX9_guard 2 = .ok (.iload_n 2, 1) := by decide +kernel
theorem dX9_guard_3 : decode cX9_guard 3 = .ok (.invokevirtual 143, 3) := by decide +kernel
theorem dX9_guard_6 : decode cX9_guard 6 = .ok (.ifCond .ne 6, 3) := by decide +kernel
theorem dX9_guard_9 : decode cX9_guard 9 = .ok (.bipush (-2), 2) := by decide +kernel
theorem dX9_guard_11 : decode cX9_guard 11 = .ok (.ireturn, 1) := by decide +kernel
theorem dX9_guard_12 : decode cX9_guard 12 = .ok (.aload_n 0, 1) := by decide +kernel
theorem dX9_guard_13 : decode cX9_guard 13 = .ok (.getfield 28, 3) := by decide +kernel
theorem dX9_guard_16 : decode cX9_guard 16 = .ok (.getfield 137, 3) := by decide +kernel
theorem dX9_guard_19 : decode cX9_guard 19 = .ok (.iload_n 1, 1) := by decide +kernel
theorem dX9_guard_20 : decode cX9_guard 20 = .ok (.iaload, 1) := by decide +kernel
theorem dX9_guard_21 : decode cX9_guard 21 = .ok (.istore_n 3, 1) := by decide +kernel
theorem dX9_guard_22 : decode cX9_guard 22 = .ok (.iload_n 3, 1) := by decide +kernel
theorem dX9_guard_23 : decode cX9_guard 23 = .ok (.iconst (-1), 1) := by decide +kernel
theorem dX9_guard_24 : decode cX9_guard 24 = .ok (.if_icmp .ne 5, 3) := by decide +kernel
theorem dX9_guard_27 : decode cX9_guard 27 = .ok (.iconst (-1), 1) := by decide +kernel
theorem dX9_guard_28 : decode cX9_guard 28 = .ok (.ireturn, 1) := by decide +kernel
theorem dX9_guard_29 : decode cX9_guard 29 = .ok (.aload_n 0, 1) := by decide +kernel
theorem dX9_guard_30 : decode cX9_guard 30 = .ok (.getfield 46, 3) := by decide +kernel
theorem dX9_guard_33 : decode cX9_guard 33 = .ok (.aload_n 0, 1) := by decide +kernel
theorem dX9_guard_34 : decode cX9_guard 34 = .ok (.getfield 28, 3) := by decide +kernel
theorem dX9_guard_37 : decode cX9_guard 37 = .ok (.aload_n 0, 1) := by decide +kernel
theorem dX9_guard_38 : decode cX9_guard 38 = .ok (.getfield 35, 3) := by decide +kernel
theorem dX9_guard_41 : decode cX9_guard 41 = .ok (.invokevirtual 213, 3) := by decide +kernel
theorem dX9_guard_44 : decode cX9_guard 44 = .ok (.aload_n 0, 1) := by decide +kernel
theorem dX9_guard_45 : decode cX9_guard 45 = .ok (.getfield 46, 3) := by decide +kernel
theorem dX9_guard_48 : decode cX9_guard 48 = .ok (.iload_n 3, 1) := by decide +kernel
theorem dX9_guard_49 : decode cX9_guard 49 = .ok (.iload_n 2, 1) := by decide +kernel
theorem dX9_guard_50 : decode cX9_guard 50 = .ok (.invokevirtual 247, 3) := by decide +kernel
theorem dX9_guard_53 : decode cX9_guard 53 = .ok (.ifCond .eq 7, 3) := by decide +kernel
theorem dX9_guard_56 : decode cX9_guard 56 = .ok (.iconst 1, 1) := by decide +kernel
theorem dX9_guard_57 : decode cX9_guard 57 = .ok (.goto 4, 3) := by decide +kernel
theorem dX9_guard_60 : decode cX9_guard 60 = .ok (.iconst 0, 1) := by decide +kernel
theorem dX9_guard_61 : decode cX9_guard 61 = .ok (.ireturn, 1) := by decide +kernel
set_option maxRecDepth 20000 in
theorem dX9_rings_0 : decode cX9_rings 0 = .ok (.iload_n 1, 1) := by decide +kernel
theorem dX9_rings_1 : decode cX9_rings 1 = .ok (.ifCond .lt 8, 3) := by decide +kernel
theorem dX9_rings_4 : decode cX9_rings 4 = .ok (.iload_n 1, 1) := by decide +kernel
theorem dX9_rings_5 : decode cX9_rings 5 = .ok (.iconst 1, 1) := by decide +kernel
theorem dX9_rings_6 : decode cX9_rings 6 = .ok (.if_icmp .le 6, 3) := by decide +kernel
theorem dX9_rings_9 : decode cX9_rings 9 = .ok (.bipush (-2), 2) := by decide +kernel
theorem dX9_rings_11 : decode cX9_rings 11 = .ok (.ireturn, 1) := by decide +kernel
theorem dX9_rings_12 : decode cX9_rings 12 = .ok (.aload_n 0, 1) := by decide +kernel
theorem dX9_rings_13 : decode cX9_rings 13 = .ok (.getfield 46, 3) := by decide +kernel
theorem dX9_rings_16 : decode cX9_rings 16 = .ok (.aload_n 0, 1) := by decide +kernel
theorem dX9_rings_17 : decode cX9_rings 17 = .ok (.getfield 28, 3) := by decide +kernel
theorem dX9_rings_20 : decode cX9_rings 20 = .ok (.aload_n 0, 1) := by decide +kernel
theorem dX9_rings_21 : decode cX9_rings 21 = .ok (.getfield 35, 3) := by decide +kernel
theorem dX9_rings_24 : decode cX9_rings 24 = .ok (.invokevirtual 213, 3) := by decide +kernel
theorem dX9_rings_27 : decode cX9_rings 27 = .ok (.aload_n 0, 1) := by decide +kernel
theorem dX9_rings_28 : decode cX9_rings 28 = .ok (.getfield 46, 3) := by decide +kernel
theorem dX9_rings_31 : decode cX9_rings 31 = .ok (.invokevirtual 250, 3) := by decide +kernel
theorem dX9_rings_34 : decode cX9_rings 34 = .ok (.iload_n 1, 1) := by decide +kernel
theorem dX9_rings_35 : decode cX9_rings 35 = .ok (.ifCond .ne 13, 3) := by decide +kernel
theorem dX9_rings_38 : decode cX9_rings 38 = .ok (.aload_n 0, 1) := by decide +kernel
theorem dX9_rings_39 : decode cX9_rings 39 = .ok (.getfield 46, 3) := by decide +kernel
theorem dX9_rings_42 : decode cX9_rings 42 = .ok (.getfield 253, 3) := by decide +kernel
theorem dX9_rings_45 : decode cX9_rings 45 = .ok (.goto 10, 3) := by decide +kernel
theorem dX9_rings_48 : decode cX9_rings 48 = .ok (.aload_n 0, 1) := by decide +kernel
theorem dX9_rings_49 : decode cX9_rings 49 = .ok (.getfield 46, 3) := by decide +kernel
theorem dX9_rings_52 : decode cX9_rings 52 = .ok (.getfield 256, 3) := by decide +kernel
theorem dX9_rings_55 : decode cX9_rings 55 = .ok (.ireturn, 1) := by decide +kernel
set_option maxRecDepth 20000 in
theorem dX9_when_0 : decode cX9_when 0 = .ok (.aload_n 0, 1) := by decide +kernel
theorem dX9_when_1 : decode cX9_when 1 = .ok (.iload_n 1, 1) := by decide +kernel
theorem dX9_when_2 : decode cX9_when 2 = .ok (.invokevirtual 134, 3) := by decide +kernel
theorem dX9_when_5 : decode cX9_when 5 = .ok (.ifCond .ne 6, 3) := by decide +kernel
theorem dX9_when_8 : decode cX9_when 8 = .ok (.bipush (-2), 2) := by decide +kernel
theorem dX9_when_10 : decode cX9_when 10 = .ok (.ireturn, 1) := by decide +kernel
theorem dX9_when_11 : decode cX9_when 11 = .ok (.aload_n 0, 1) := by decide +kernel
theorem dX9_when_12 : decode cX9_when 12 = .ok (.getfield 46, 3) := by decide +kernel
theorem dX9_when_15 : decode cX9_when 15 = .ok (.aload_n 0, 1) := by decide +kernel
theorem dX9_when_16 : decode cX9_when 16 = .ok (.getfield 28, 3) := by decide +kernel
theorem dX9_when_19 : decode cX9_when 19 = .ok (.aload_n 0, 1) := by decide +kernel
theorem dX9_when_20 : decode cX9_when 20 = .ok (.getfield 35, 3) := by decide +kernel
theorem dX9_when_23 : decode cX9_when 23 = .ok (.invokevirtual 213, 3) := by decide +kernel
theorem dX9_when_26 : decode cX9_when 26 = .ok (.aload_n 0, 1) := by decide +kernel
theorem dX9_when_27 : decode cX9_when 27 = .ok (.getfield 46, 3) := by decide +kernel
theorem dX9_when_30 : decode cX9_when 30 = .ok (.iload_n 1, 1) := by decide +kernel
theorem dX9_when_31 : decode cX9_when 31 = .ok (.invokevirtual 259, 3) := by decide +kernel
theorem dX9_when_34 : decode cX9_when 34 = .ok (.ireturn, 1) := by decide +kernel
set_option maxRecDepth 20000 in
theorem dX9_bound_0 : decode cX9_bound 0 = .ok (.aload_n 0, 1) := by decide +kernel
theorem dX9_bound_1 : decode cX9_bound 1 = .ok (.iload_n 1, 1) := by decide +kernel
theorem dX9_bound_2 : decode cX9_bound 2 = .ok (.invokevirtual 134, 3) := by decide +kernel
theorem dX9_bound_5 : decode cX9_bound 5 = .ok (.ifCond .eq 17, 3) := by decide +kernel
theorem dX9_bound_8 : decode cX9_bound 8 = .ok (.iload_n 2, 1) := by decide +kernel
theorem dX9_bound_9 : decode cX9_bound 9 = .ok (.sipush (-1000), 3) := by decide +kernel
theorem dX9_bound_12 : decode cX9_bound 12 = .ok (.if_icmp .lt 10, 3) := by decide +kernel
theorem dX9_bound_15 : decode cX9_bound 15 = .ok (.iload_n 2, 1) := by decide +kernel
theorem dX9_bound_16 : decode cX9_bound 16 = .ok (.sipush 9999, 3) := by decide +kernel
theorem dX9_bound_19 : decode cX9_bound 19 = .ok (.if_icmp .le 6, 3) := by decide +kernel
theorem dX9_bound_22 : decode cX9_bound 22 = .ok (.bipush (-2), 2) := by decide +kernel
theorem dX9_bound_24 : decode cX9_bound 24 = .ok (.ireturn, 1) := by decide +kernel
theorem dX9_bound_25 : decode cX9_bound 25 = .ok (.aload_n 0, 1) := by decide +kernel
theorem dX9_bound_26 : decode cX9_bound 26 = .ok (.getfield 46, 3) := by decide +kernel
theorem dX9_bound_29 : decode cX9_bound 29 = .ok (.aload_n 0, 1) := by decide +kernel
theorem dX9_bound_30 : decode cX9_bound 30 = .ok (.getfield 28, 3) := by decide +kernel
theorem dX9_bound_33 : decode cX9_bound 33 = .ok (.aload_n 0, 1) := by decide +kernel
theorem dX9_bound_34 : decode cX9_bound 34 = .ok (.getfield 35, 3) := by decide +kernel
theorem dX9_bound_37 : decode cX9_bound 37 = .ok (.invokevirtual 213, 3) := by decide +kernel
theorem dX9_bound_40 : decode cX9_bound 40 = .ok (.aload_n 0, 1) := by decide +kernel
theorem dX9_bound_41 : decode cX9_bound 41 = .ok (.getfield 46, 3) := by decide +kernel
theorem dX9_bound_44 : decode cX9_bound 44 = .ok (.iload_n 1, 1) := by decide +kernel
theorem dX9_bound_45 : decode cX9_bound 45 = .ok (.iload_n 2, 1) := by decide +kernel
theorem dX9_bound_46 : decode cX9_bound 46 = .ok (.invokevirtual 262, 3) := by decide +kernel
theorem dX9_bound_49 : decode cX9_bound 49 = .ok (.ireturn, 1) := by decide +kernel
set_option maxRecDepth 20000 in
theorem dX9_law_0 : decode cX9_law 0 = .ok (.iload_n 2, 1) := by decide +kernel
theorem dX9_law_1 : decode cX9_law 1 = .ok (.ifCond .lt 31, 3) := by decide +kernel
theorem dX9_law_4 : decode cX9_law 4 = .ok (.iload_n 2, 1) := by decide +kernel
theorem dX9_law_5 : decode cX9_law 5 = .ok (.bipush 28, 2) := by decide +kernel
theorem dX9_law_7 : decode cX9_law 7 = .ok (.if_icmp .gt 25, 3) := by decide +kernel
theorem dX9_law_10 : decode cX9_law 10 = .ok (.iload_n 3, 1) := by decide +kernel
theorem dX9_law_11 : decode cX9_law 11 = .ok (.iconst 1, 1) := by decide +kernel
theorem dX9_law_12 : decode cX9_law 12 = .ok (.if_icmp .lt 20, 3) := by decide +kernel
theorem dX9_law_15 : decode cX9_law 15 = .ok (.iload_n 3, 1) := by decide +kernel
theorem dX9_law_16 : decode cX9_law 16 = .ok (.bipush 20, 2) := by decide +kernel
theorem dX9_law_18 : decode cX9_law 18 = .ok (.if_icmp .gt 14, 3) := by decide +kernel
theorem dX9_law_21 : decode cX9_law 21 = .ok (.iload 4, 2) := by decide +kernel
theorem dX9_law_23 : decode cX9_law 23 = .ok (.ifCond .lt 9, 3) := by decide +kernel
theorem dX9_law_26 : decode cX9_law 26 = .ok (.iload 4, 2) := by decide +kernel
theorem dX9_law_28 : decode cX9_law 28 = .ok (.iconst 1, 1) := by decide +kernel
theorem dX9_law_29 : decode cX9_law 29 = .ok (.if_icmp .le 6, 3) := by decide +kernel
theorem dX9_law_32 : decode cX9_law 32 = .ok (.ldc 184, 2) := by decide +kernel
theorem dX9_law_34 : decode cX9_law 34 = .ok (.ireturn, 1) := by decide +kernel
theorem dX9_law_35 : decode cX9_law 35 = .ok (.aload_n 0, 1) := by decide +kernel
theorem dX9_law_36 : decode cX9_law 36 = .ok (.getfield 46, 3) := by decide +kernel
theorem dX9_law_39 : decode cX9_law 39 = .ok (.aload_n 0, 1) := by decide +kernel
theorem dX9_law_40 : decode cX9_law 40 = .ok (.getfield 28, 3) := by decide +kernel
theorem dX9_law_43 : decode cX9_law 43 = .ok (.aload_n 0, 1) := by decide +kernel
theorem dX9_law_44 : decode cX9_law 44 = .ok (.getfield 35, 3) := by decide +kernel
theorem dX9_law_47 : decode cX9_law 47 = .ok (.invokevirtual 213, 3) := by decide +kernel
theorem dX9_law_50 : decode cX9_law 50 = .ok (.aload_n 0, 1) := by decide +kernel
theorem dX9_law_51 : decode cX9_law 51 = .ok (.getfield 46, 3) := by decide +kernel
theorem dX9_law_54 : decode cX9_law 54 = .ok (.iload_n 1, 1) := by decide +kernel
theorem dX9_law_55 : decode cX9_law 55 = .ok (.iload_n 2, 1) := by decide +kernel
theorem dX9_law_56 : decode cX9_law 56 = .ok (.iload_n 3, 1) := by decide +kernel
theorem dX9_law_57 : decode cX9_law 57 = .ok (.invokevirtual 265, 3) := by decide +kernel
theorem dX9_law_60 : decode cX9_law 60 = .ok (.iload 4, 2) := by decide +kernel
theorem dX9_law_62 : decode cX9_law 62 = .ok (.ifCond .ne 13, 3) := by decide +kernel
theorem dX9_law_65 : decode cX9_law 65 = .ok (.aload_n 0, 1) := by decide +kernel
theorem dX9_law_66 : decode cX9_law 66 = .ok (.getfield 46, 3) := by decide +kernel
theorem dX9_law_69 : decode cX9_law 69 = .ok (.invokevirtual 269, 3) := by decide +kernel
theorem dX9_law_72 : decode cX9_law 72 = .ok (.goto 10, 3) := by decide +kernel
theorem dX9_law_75 : decode cX9_law 75 = .ok (.aload_n 0, 1) := by decide +kernel
theorem dX9_law_76 : decode cX9_law 76 = .ok (.getfield 46, 3) := by decide +kernel
theorem dX9_law_79 : decode cX9_law 79 = .ok (.invokevirtual 272, 3) := by decide +kernel
theorem dX9_law_82 : decode cX9_law 82 = .ok (.ireturn, 1) := by decide +kernel
set_option maxRecDepth 20000 in
theorem dX9_bestLaw_0 : decode cX9_bestLaw 0 = .ok (.iload_n 1, 1) := by decide +kernel
theorem dX9_bestLaw_1 : decode cX9_bestLaw 1 = .ok (.iconst 1, 1) := by decide +kernel
theorem dX9_bestLaw_2 : decode cX9_bestLaw 2 = .ok (.if_icmp .lt 9, 3) := by decide +kernel
theorem dX9_bestLaw_5 : decode cX9_bestLaw 5 = .ok (.iload_n 1, 1) := by decide +kernel
theorem dX9_bestLaw_6 : decode cX9_bestLaw 6 = .ok (.bipush 20, 2) := by decide +kernel
theorem dX9_bestLaw_8 : decode cX9_bestLaw 8 = .ok (.if_icmp .le 6, 3) := by decide +kernel
theorem dX9_bestLaw_11 : decode cX9_bestLaw 11 = .ok (.bipush (-2), 2) := by decide +kernel
theorem dX9_bestLaw_13 : decode cX9_bestLaw 13 = .ok (.ireturn, 1) := by decide +kernel
theorem dX9_bestLaw_14 : decode cX9_bestLaw 14 = .ok (.aload_n 0, 1) := by decide +kernel
theorem dX9_bestLaw_15 : decode cX9_bestLaw 15 = .ok (.getfield 46, 3) := by decide +kernel
theorem dX9_bestLaw_18 : decode cX9_bestLaw 18 = .ok (.aload_n 0, 1) := by decide +kernel
theorem dX9_bestLaw_19 : decode cX9_bestLaw 19 = .ok (.getfield 28, 3) := by decide +kernel
theorem dX9_bestLaw_22 : decode cX9_bestLaw 22 = .ok (.aload_n 0, 1) := by decide +kernel
theorem dX9_bestLaw_23 : decode cX9_bestLaw 23 = .ok (.getfield 35, 3) := by decide +kernel
theorem dX9_bestLaw_26 : decode cX9_bestLaw 26 = .ok (.invokevirtual 213, 3) := by decide +kernel
theorem dX9_bestLaw_29 : decode cX9_bestLaw 29 = .ok (.aload_n 0, 1) := by decide +kernel
theorem dX9_bestLaw_30 : decode cX9_bestLaw 30 = .ok (.getfield 46, 3) := by decide +kernel
theorem dX9_bestLaw_33 : decode cX9_bestLaw 33 = .ok (.iload_n 1, 1) := by decide +kernel
theorem dX9_bestLaw_34 : decode cX9_bestLaw 34 = .ok (.invokevirtual 275, 3) := by decide +kernel
theorem dX9_bestLaw_37 : decode cX9_bestLaw 37 = .ok (.ireturn, 1) := by decide +kernel
set_option maxRecDepth 20000 in
theorem dX9_feast_0 : decode cX9_feast 0 = .ok (.aload_n 0, 1) := by decide +kernel
theorem dX9_feast_1 : decode cX9_feast 1 = .ok (.invokevirtual 278, 3) := by decide +kernel
theorem dX9_feast_4 : decode cX9_feast 4 = .ok (.istore_n 1, 1) := by decide +kernel
theorem dX9_feast_5 : decode cX9_feast 5 = .ok (.iload_n 1, 1) := by decide +kernel
theorem dX9_feast_6 : decode cX9_feast 6 = .ok (.ifCond .eq 44, 3) := by decide +kernel
theorem dX9_feast_9 : decode cX9_feast 9 = .ok (.aload_n 0, 1) := by decide +kernel
theorem dX9_feast_10 : decode cX9_feast 10 = .ok (.iconst 1, 1) := by decide +kernel
theorem dX9_feast_11 : decode cX9_feast 11 = .ok (.putfield 87, 3) := by decide +kernel
theorem dX9_feast_14 : decode cX9_feast 14 = .ok (.iconst 0, 1) := by decide +kernel
theorem dX9_feast_15 : decode cX9_feast 15 = .ok (.istore_n 2, 1) := by decide +kernel
theorem dX9_feast_16 : decode cX9_feast 16 = .ok (.iload_n 2, 1) := by decide +kernel
theorem dX9_feast_17 : decode cX9_feast 17 = .ok (.aload_n 0, 1) := by decide +kernel
theorem dX9_feast_18 : decode cX9_feast 18 = .ok (.getfield 28, 3) := by decide +kernel
theorem dX9_feast_21 : decode cX9_feast 21 = .ok (.getfield 102, 3) := by decide +kernel
theorem dX9_feast_24 : decode cX9_feast 24 = .ok (.if_icmp .ge 26, 3) := by decide +kernel
theorem dX9_feast_27 : decode cX9_feast 27 = .ok (.aload_n 0, 1) := by decide +kernel
theorem dX9_feast_28 : decode cX9_feast 28 = .ok (.getfield 57, 3) := by decide +kernel
theorem dX9_feast_31 : decode cX9_feast 31 = .ok (.iload_n 2, 1) := by decide +kernel
theorem dX9_feast_32 : decode cX9_feast 32 = .ok (.aload_n 0, 1) := by decide +kernel
theorem dX9_feast_33 : decode cX9_feast 33 = .ok (.getfield 10, 3) := by decide +kernel
theorem dX9_feast_36 : decode cX9_feast 36 = .ok (.iload_n 2, 1) := by decide +kernel
theorem dX9_feast_37 : decode cX9_feast 37 = .ok (.invokevirtual 154, 3) := by decide +kernel
theorem dX9_feast_40 : decode cX9_feast 40 = .ok (.bipush 48, 2) := by decide +kernel
theorem dX9_feast_42 : decode cX9_feast 42 = .ok (.isub, 1) := by decide +kernel
theorem dX9_feast_43 : decode cX9_feast 43 = .ok (.iastore, 1) := by decide +kernel
theorem dX9_feast_44 : decode cX9_feast 44 = .ok (.iinc 2 1, 3) := by decide +kernel
theorem dX9_feast_47 : decode cX9_feast 47 = .ok (.goto (-31), 3) := by decide +kernel
theorem dX9_feast_50 : decode cX9_feast 50 = .ok (.aload_n 0, 1) := by decide +kernel
theorem dX9_feast_51 : decode cX9_feast 51 = .ok (.getfield 10, 3) := by decide +kernel
theorem dX9_feast_54 : decode cX9_feast 54 = .ok (.iconst 0, 1) := by decide +kernel
theorem dX9_feast_55 : decode cX9_feast 55 = .ok (.putfield 68, 3) := by decide +kernel
theorem dX9_feast_58 : decode cX9_feast 58 = .ok (.iload_n 1, 1) := by decide +kernel
theorem dX9_feast_59 : decode cX9_feast 59 = .ok (.ifCond .eq 10, 3) := by decide +kernel
theorem dX9_feast_62 : decode cX9_feast 62 = .ok (.aload_n 0, 1) := by decide +kernel
theorem dX9_feast_63 : decode cX9_feast 63 = .ok (.invokevirtual 281, 3) := by decide +kernel
theorem dX9_feast_66 : decode cX9_feast 66 = .ok (.goto 4, 3) := by decide +kernel
theorem dX9_feast_69 : decode cX9_feast 69 = .ok (.iconst (-1), 1) := by decide +kernel
theorem dX9_feast_70 : decode cX9_feast 70 = .ok (.ireturn, 1) := by decide +kernel
set_option maxRecDepth 20000 in
theorem dX9_isFeastOnTape_0 : decode cX9_isFeastOnTape 0 = .ok (.aload_n 0, 1) := by decide +kernel
theorem dX9_isFeastOnTape_1 : decode cX9_isFeastOnTape 1 = .ok (.getfield 10, 3) := by decide +kernel
theorem dX9_isFeastOnTape_4 : decode cX9_isFeastOnTape 4 = .ok (.getfield 68, 3) := by decide +kernel
theorem dX9_isFeastOnTape_7 : decode cX9_isFeastOnTape 7 = .ok (.aload_n 0, 1) := by decide +kernel
theorem dX9_isFeastOnTape_8 : decode cX9_isFeastOnTape 8 = .ok (.getfield 28, 3) := by decide +kernel
theorem dX9_isFeastOnTape_11 : decode cX9_isFeastOnTape 11 = .ok (.getfield 102, 3) := by decide +kernel
theorem dX9_isFeastOnTape_14 : decode cX9_isFeastOnTape 14 = .ok (.if_icmp .eq 5, 3) := by decide +kernel
theorem dX9_isFeastOnTape_17 : decode cX9_isFeastOnTape 17 = .ok (.iconst 0, 1) := by decide +kernel
theorem dX9_isFeastOnTape_18 : decode cX9_isFeastOnTape 18 = .ok (.ireturn, 1) := by decide +kernel
theorem dX9_isFeastOnTape_19 : decode cX9_isFeastOnTape 19 = .ok (.iconst 0, 1) := by decide +kernel
theorem dX9_isFeastOnTape_20 : decode cX9_isFeastOnTape 20 = .ok (.istore_n 1, 1) := by decide +kernel
theorem dX9_isFeastOnTape_21 : decode cX9_isFeastOnTape 21 = .ok (.iconst 0, 1) := by decide +kernel
theorem dX9_isFeastOnTape_22 : decode cX9_isFeastOnTape 22 = .ok (.istore_n 2, 1) := by decide +kernel
theorem dX9_isFeastOnTape_23 : decode cX9_isFeastOnTape 23 = .ok (.iload_n 2, 1) := by decide +kernel
theorem dX9_isFeastOnTape_24 : decode cX9_isFeastOnTape 24 = .ok (.aload_n 0, 1) := by decide +kernel
theorem dX9_isFeastOnTape_25 : decode cX9_isFeastOnTape 25 = .ok (.getfield 28, 3) := by decide +kernel
theorem dX9_isFeastOnTape_28 : decode cX9_isFeastOnTape 28 = .ok (.getfield 102, 3) := by decide +kernel
theorem dX9_isFeastOnTape_31 : decode cX9_isFeastOnTape 31 = .ok (.if_icmp .ge 46, 3) := by decide +kernel
theorem dX9_isFeastOnTape_34 : decode cX9_isFeastOnTape 34 = .ok (.aload_n 0, 1) := by decide +kernel
theorem dX9_isFeastOnTape_35 : decode cX9_isFeastOnTape 35 = .ok (.getfield 10, 3) := by decide +kernel
theorem dX9_isFeastOnTape_38 : decode cX9_isFeastOnTape 38 = .ok (.iload_n 2, 1) := by decide +kernel
theorem dX9_isFeastOnTape_39 : decode cX9_isFeastOnTape 39 = .ok (.invokevirtual 154, 3) := by decide +kernel
theorem dX9_isFeastOnTape_42 : decode cX9_isFeastOnTape 42 = .ok (.bipush 48, 2) := by decide +kernel
theorem dX9_isFeastOnTape_44 : decode cX9_isFeastOnTape 44 = .ok (.isub, 1) := by decide +kernel
theorem dX9_isFeastOnTape_45 : decode cX9_isFeastOnTape 45 = .ok (.istore_n 3, 1) := by decide +kernel
theorem dX9_isFeastOnTape_46 : decode cX9_isFeastOnTape 46 = .ok (.aload_n 0, 1) := by decide +kernel
theorem dX9_isFeastOnTape_47 : decode cX9_isFeastOnTape 47 = .ok (.iload_n 3, 1) := by decide +kernel
theorem dX9_isFeastOnTape_48 : decode cX9_isFeastOnTape 48 = .ok (.invokevirtual 134, 3) := by decide +kernel
theorem dX9_isFeastOnTape_51 : decode cX9_isFeastOnTape 51 = .ok (.ifCond .eq 12, 3) := by decide +kernel
theorem dX9_isFeastOnTape_54 : decode cX9_isFeastOnTape 54 = .ok (.iload_n 1, 1) := by decide +kernel
theorem dX9_isFeastOnTape_55 : decode cX9_isFeastOnTape 55 = .ok (.iload_n 3, 1) := by decide +kernel
theorem dX9_isFeastOnTape_56 : decode cX9_isFeastOnTape 56 = .ok (.ishr, 1) := by decide +kernel
theorem dX9_isFeastOnTape_57 : decode cX9_isFeastOnTape 57 = .ok (.iconst 1, 1) := by decide +kernel
theorem dX9_isFeastOnTape_58 : decode cX9_isFeastOnTape 58 = .ok (.iand, 1) := by decide +kernel
theorem dX9_isFeastOnTape_59 : decode cX9_isFeastOnTape 59 = .ok (.iconst 1, 1) := by decide +kernel
theorem dX9_isFeastOnTape_60 : decode cX9_isFeastOnTape 60 = .ok (.if_icmp .ne 5, 3) := by decide +kernel
theorem dX9_isFeastOnTape_63 : decode cX9_isFeastOnTape 63 = .ok (.iconst 0, 1) := by decide +kernel
theorem dX9_isFeastOnTape_64 : decode cX9_isFeastOnTape 64 = .ok (.ireturn, 1) := by decide +kernel
theorem dX9_isFeastOnTape_65 : decode cX9_isFeastOnTape 65 = .ok (.iload_n 1, 1) := by decide +kernel
theorem dX9_isFeastOnTape_66 : decode cX9_isFeastOnTape 66 = .ok (.iconst 1, 1) := by decide +kernel
theorem dX9_isFeastOnTape_67 : decode cX9_isFeastOnTape 67 = .ok (.iload_n 3, 1) := by decide +kernel
theorem dX9_isFeastOnTape_68 : decode cX9_isFeastOnTape 68 = .ok (.ishl, 1) := by decide +kernel
theorem dX9_isFeastOnTape_69 : decode cX9_isFeastOnTape 69 = .ok (.ior, 1) := by decide +kernel
theorem dX9_isFeastOnTape_70 : decode cX9_isFeastOnTape 70 = .ok (.istore_n 1, 1) := by decide +kernel
theorem dX9_isFeastOnTape_71 : decode cX9_isFeastOnTape 71 = .ok (.iinc 2 1, 3) := by decide +kernel
theorem dX9_isFeastOnTape_74 : decode cX9_isFeastOnTape 74 = .ok (.goto (-51), 3) := by decide +kernel
theorem dX9_isFeastOnTape_77 : decode cX9_isFeastOnTape 77 = .ok (.iconst 1, 1) := by decide +kernel
theorem dX9_isFeastOnTape_78 : decode cX9_isFeastOnTape 78 = .ok (.ireturn, 1) := by decide +kernel
set_option maxRecDepth 20000 in
theorem dX9_feastEnd_0 : decode cX9_feastEnd 0 = .ok (.iconst 1, 1) := by decide +kernel
theorem dX9_feastEnd_1 : decode cX9_feastEnd 1 = .ok (.istore_n 1, 1) := by decide +kernel
theorem dX9_feastEnd_2 : decode cX9_feastEnd 2 = .ok (.iload_n 1, 1) := by decide +kernel
theorem dX9_feastEnd_3 : decode cX9_feastEnd 3 = .ok (.bipush 120, 2) := by decide +kernel
theorem dX9_feastEnd_5 : decode cX9_feastEnd 5 = .ok (.if_icmp .ge 56, 3) := by decide +kernel
theorem dX9_feastEnd_8 : decode cX9_feastEnd 8 = .ok (.iconst 1, 1) := by decide +kernel
theorem dX9_feastEnd_9 : decode cX9_feastEnd 9 = .ok (.istore_n 2, 1) := by decide +kernel
theorem dX9_feastEnd_10 : decode cX9_feastEnd 10 = .ok (.iconst 0, 1) := by decide +kernel
theorem dX9_feastEnd_11 : decode cX9_feastEnd 11 = .ok (.istore_n 3, 1) := by decide +kernel
theorem dX9_feastEnd_12 : decode cX9_feastEnd 12 = .ok (.iload_n 3, 1) := by decide +kernel
theorem dX9_feastEnd_13 : decode cX9_feastEnd 13 = .ok (.aload_n 0, 1) := by decide +kernel
theorem dX9_feastEnd_14 : decode cX9_feastEnd 14 = .ok (.getfield 28, 3) := by decide +kernel
theorem dX9_feastEnd_17 : decode cX9_feastEnd 17 = .ok (.getfield 102, 3) := by decide +kernel
theorem dX9_feastEnd_20 : decode cX9_feastEnd 20 = .ok (.if_icmp .ge 29, 3) := by decide +kernel
theorem dX9_feastEnd_23 : decode cX9_feastEnd 23 = .ok (.iload_n 2, 1) := by decide +kernel
theorem dX9_feastEnd_24 : decode cX9_feastEnd 24 = .ok (.ifCond .eq 17, 3) := by decide +kernel
theorem dX9_feastEnd_27 : decode cX9_feastEnd 27 = .ok (.aload_n 0, 1) := by decide +kernel
theorem dX9_feastEnd_28 : decode cX9_feastEnd 28 = .ok (.iload_n 3, 1) := by decide +kernel
theorem dX9_feastEnd_29 : decode cX9_feastEnd 29 = .ok (.iload_n 1, 1) := by decide +kernel
theorem dX9_feastEnd_30 : decode cX9_feastEnd 30 = .ok (.invokevirtual 284, 3) := by decide +kernel
theorem dX9_feastEnd_33 : decode cX9_feastEnd 33 = .ok (.iload_n 3, 1) := by decide +kernel
theorem dX9_feastEnd_34 : decode cX9_feastEnd 34 = .ok (.if_icmp .ne 7, 3) := by decide +kernel
theorem dX9_feastEnd_37 : decode cX9_feastEnd 37 = .ok (.iconst 1, 1) := by decide +kernel
theorem dX9_feastEnd_38 : decode cX9_feastEnd 38 = .ok (.goto 4, 3) := by decide +kernel
theorem dX9_feastEnd_41 : decode cX9_feastEnd 41 = .ok (.iconst 0, 1) := by decide +kernel
theorem dX9_feastEnd_42 : decode cX9_feastEnd 42 = .ok (.istore_n 2, 1) := by decide +kernel
theorem dX9_feastEnd_43 : decode cX9_feastEnd 43 = .ok (.iinc 3 1, 3) := by decide +kernel
theorem dX9_feastEnd_46 : decode cX9_feastEnd 46 = .ok (.goto (-34), 3) := by decide +kernel
theorem dX9_feastEnd_49 : decode cX9_feastEnd 49 = .ok (.iload_n 2, 1) := by decide +kernel
theorem dX9_feastEnd_50 : decode cX9_feastEnd 50 = .ok (.ifCond .eq 5, 3) := by decide +kernel
theorem dX9_feastEnd_53 : decode cX9_feastEnd 53 = .ok (.iload_n 1, 1) := by decide +kernel
theorem dX9_feastEnd_54 : decode cX9_feastEnd 54 = .ok (.ireturn, 1) := by decide +kernel
theorem dX9_feastEnd_55 : decode cX9_feastEnd 55 = .ok (.iinc 1 1, 3) := by decide +kernel
theorem dX9_feastEnd_58 : decode cX9_feastEnd 58 = .ok (.goto (-56), 3) := by decide +kernel
theorem dX9_feastEnd_61 : decode cX9_feastEnd 61 = .ok (.iconst (-1), 1) := by decide +kernel
theorem dX9_feastEnd_62 : decode cX9_feastEnd 62 = .ok (.ireturn, 1) := by decide +kernel
set_option maxRecDepth 20000 in
theorem dX9_placeBehind_0 : decode cX9_placeBehind 0 = .ok (.iload_n 1, 1) := by decide +kernel
theorem dX9_placeBehind_1 : decode cX9_placeBehind 1 = .ok (.istore_n 3, 1) := by decide +kernel
theorem dX9_placeBehind_2 : decode cX9_placeBehind 2 = .ok (.iconst 0, 1) := by decide +kernel
theorem dX9_placeBehind_3 : decode cX9_placeBehind 3 = .ok (.istore 4, 2) := by decide +kernel
theorem dX9_placeBehind_5 : decode cX9_placeBehind 5 = .ok (.iload 4, 2) := by decide +kernel
theorem dX9_placeBehind_7 : decode cX9_placeBehind 7 = .ok (.iload_n 2, 1) := by decide +kernel
theorem dX9_placeBehind_8 : decode cX9_placeBehind 8 = .ok (.if_icmp .ge 24, 3) := by decide +kernel
theorem dX9_placeBehind_11 : decode cX9_placeBehind 11 = .ok (.aload_n 0, 1) := by decide +kernel
theorem dX9_placeBehind_12 : decode cX9_placeBehind 12 = .ok (.iload_n 3, 1) := by decide +kernel
theorem dX9_placeBehind_13 : decode cX9_placeBehind 13 = .ok (.invokevirtual 134, 3) := by decide +kernel
theorem dX9_placeBehind_16 : decode cX9_placeBehind 16 = .ok (.ifCond .eq 10, 3) := by decide +kernel
theorem dX9_placeBehind_19 : decode cX9_placeBehind 19 = .ok (.aload_n 0, 1) := by decide +kernel
theorem dX9_placeBehind_20 : decode cX9_placeBehind 20 = .ok (.getfield 57, 3) := by decide +kernel
theorem dX9_placeBehind_23 : decode cX9_placeBehind 23 = .ok (.iload_n 3, 1) := by decide +kernel
theorem dX9_placeBehind_24 : decode cX9_placeBehind 24 = .ok (.iaload, 1) := by decide +kernel
theorem dX9_placeBehind_25 : decode cX9_placeBehind 25 = .ok (.istore_n 3, 1) := by decide +kernel
theorem dX9_placeBehind_26 : decode cX9_placeBehind 26 = .ok (.iinc 4 1, 3) := by decide +kernel
theorem dX9_placeBehind_29 : decode cX9_placeBehind 29 = .ok (.goto (-24), 3) := by decide +kernel
theorem dX9_placeBehind_32 : decode cX9_placeBehind 32 = .ok (.iload_n 3, 1) := by decide +kernel
theorem dX9_placeBehind_33 : decode cX9_placeBehind 33 = .ok (.ireturn, 1) := by decide +kernel
set_option maxRecDepth 20000 in
theorem dX9_turned_0 : decode cX9_turned 0 = .ok (.aload_n 0, 1) := by decide +kernel
theorem dX9_turned_1 : decode cX9_turned 1 = .ok (.iload_n 1, 1) := by decide +kernel
theorem dX9_turned_2 : decode cX9_turned 2 = .ok (.invokevirtual 134, 3) := by decide +kernel
theorem dX9_turned_5 : decode cX9_turned 5 = .ok (.ifCond .eq 14, 3) := by decide +kernel
theorem dX9_turned_8 : decode cX9_turned 8 = .ok (.iload_n 2, 1) := by decide +kernel
theorem dX9_turned_9 : decode cX9_turned 9 = .ok (.ifCond .lt 10, 3) := by decide +kernel
theorem dX9_turned_12 : decode cX9_turned 12 = .ok (.iload_n 2, 1) := by decide +kernel
theorem dX9_turned_13 : decode cX9_turned 13 = .ok (.sipush 999, 3) := by decide +kernel
theorem dX9_turned_16 : decode cX9_turned 16 = .ok (.if_icmp .le 6, 3) := by decide +kernel
theorem dX9_turned_19 : decode cX9_turned 19 = .ok (.bipush (-2), 2) := by decide +kernel
theorem dX9_turned_21 : decode cX9_turned 21 = .ok (.ireturn, 1) := by decide +kernel
theorem dX9_turned_22 : decode cX9_turned 22 = .ok (.aload_n 0, 1) := by decide +kernel
theorem dX9_turned_23 : decode cX9_turned 23 = .ok (.getfield 87, 3) := by decide +kernel
theorem dX9_turned_26 : decode cX9_turned 26 = .ok (.ifCond .eq 12, 3) := by decide +kernel
theorem dX9_turned_29 : decode cX9_turned 29 = .ok (.aload_n 0, 1) := by decide +kernel
theorem dX9_turned_30 : decode cX9_turned 30 = .ok (.iload_n 1, 1) := by decide +kernel
theorem dX9_turned_31 : decode cX9_turned 31 = .ok (.iload_n 2, 1) := by decide +kernel
theorem dX9_turned_32 : decode cX9_turned 32 = .ok (.invokevirtual 284, 3) := by decide +kernel
theorem dX9_turned_35 : decode cX9_turned 35 = .ok (.goto 4, 3) := by decide +kernel
theorem dX9_turned_38 : decode cX9_turned 38 = .ok (.iconst (-1), 1) := by decide +kernel
theorem dX9_turned_39 : decode cX9_turned 39 = .ok (.ireturn, 1) := by decide +kernel
set_option maxRecDepth 20000 in
theorem dX9_whom_0 : decode cX9_whom 0 = .ok (.aload_n 0, 1) := by decide +kernel
theorem dX9_whom_1 : decode cX9_whom 1 = .ok (.iload_n 1, 1) := by decide +kernel
theorem dX9_whom_2 : decode cX9_whom 2 = .ok (.invokevirtual 134, 3) := by decide +kernel
theorem dX9_whom_5 : decode cX9_whom 5 = .ok (.ifCond .ne 6, 3) := by decide +kernel
theorem dX9_whom_8 : decode cX9_whom 8 = .ok (.bipush (-2), 2) := by decide +kernel
theorem dX9_whom_10 : decode cX9_whom 10 = .ok (.ireturn, 1) := by decide +kernel
theorem dX9_whom_11 : decode cX9_whom 11 = .ok (.aload_n 0, 1) := by decide +kernel
theorem dX9_whom_12 : decode cX9_whom 12 = .ok (.getfield 46, 3) := by decide +kernel
theorem dX9_whom_15 : decode cX9_whom 15 = .ok (.aload_n 0, 1) := by decide +kernel
theorem dX9_whom_16 : decode cX9_whom 16 = .ok (.getfield 28, 3) := by decide +kernel
theorem dX9_whom_19 : decode cX9_whom 19 = .ok (.aload_n 0, 1) := by decide +kernel
theorem dX9_whom_20 : decode cX9_whom 20 = .ok (.getfield 35, 3) := by decide +kernel
theorem dX9_whom_23 : decode cX9_whom 23 = .ok (.invokevirtual 213, 3) := by decide +kernel
theorem dX9_whom_26 : decode cX9_whom 26 = .ok (.aload_n 0, 1) := by decide +kernel
theorem dX9_whom_27 : decode cX9_whom 27 = .ok (.getfield 46, 3) := by decide +kernel
theorem dX9_whom_30 : decode cX9_whom 30 = .ok (.iload_n 1, 1) := by decide +kernel
theorem dX9_whom_31 : decode cX9_whom 31 = .ok (.invokevirtual 287, 3) := by decide +kernel
theorem dX9_whom_34 : decode cX9_whom 34 = .ok (.ireturn, 1) := by decide +kernel
set_option maxRecDepth 20000 in
theorem dX9_edge_0 : decode cX9_edge 0 = .ok (.aload_n 0, 1) := by decide +kernel
theorem dX9_edge_1 : decode cX9_edge 1 = .ok (.iload_n 1, 1) := by decide +kernel
theorem dX9_edge_2 : decode cX9_edge 2 = .ok (.iload_n 2, 1) := by decide +kernel
theorem dX9_edge_3 : decode cX9_edge 3 = .ok (.invokevirtual 143, 3) := by decide +kernel
theorem dX9_edge_6 : decode cX9_edge 6 = .ok (.ifCond .ne 6, 3) := by decide +kernel
theorem dX9_edge_9 : decode cX9_edge 9 = .ok (.bipush (-2), 2) := by decide +kernel
theorem dX9_edge_11 : decode cX9_edge 11 = .ok (.ireturn, 1) := by decide +kernel
theorem dX9_edge_12 : decode cX9_edge 12 = .ok (.aload_n 0, 1) := by decide +kernel
theorem dX9_edge_13 : decode cX9_edge 13 = .ok (.getfield 28, 3) := by decide +kernel
theorem dX9_edge_16 : decode cX9_edge 16 = .ok (.getfield 137, 3) := by decide +kernel
theorem dX9_edge_19 : decode cX9_edge 19 = .ok (.iload_n 1, 1) := by decide +kernel
theorem dX9_edge_20 : decode cX9_edge 20 = .ok (.iaload, 1) := by decide +kernel
theorem dX9_edge_21 : decode cX9_edge 21 = .ok (.iconst (-1), 1) := by decide +kernel
theorem dX9_edge_22 : decode cX9_edge 22 = .ok (.if_icmp .ne 6, 3) := by decide +kernel
theorem dX9_edge_25 : decode cX9_edge 25 = .ok (.bipush (-4), 2) := by decide +kernel
theorem dX9_edge_27 : decode cX9_edge 27 = .ok (.ireturn, 1) := by decide +kernel
theorem dX9_edge_28 : decode cX9_edge 28 = .ok (.aload_n 0, 1) := by decide +kernel
theorem dX9_edge_29 : decode cX9_edge 29 = .ok (.getfield 46, 3) := by decide +kernel
theorem dX9_edge_32 : decode cX9_edge 32 = .ok (.aload_n 0, 1) := by decide +kernel
theorem dX9_edge_33 : decode cX9_edge 33 = .ok (.getfield 28, 3) := by decide +kernel
theorem dX9_edge_36 : decode cX9_edge 36 = .ok (.aload_n 0, 1) := by decide +kernel
theorem dX9_edge_37 : decode cX9_edge 37 = .ok (.getfield 35, 3) := by decide +kernel
theorem dX9_edge_40 : decode cX9_edge 40 = .ok (.invokevirtual 213, 3) := by decide +kernel
theorem dX9_edge_43 : decode cX9_edge 43 = .ok (.aload_n 0, 1) := by decide +kernel
theorem dX9_edge_44 : decode cX9_edge 44 = .ok (.getfield 46, 3) := by decide +kernel
theorem dX9_edge_47 : decode cX9_edge 47 = .ok (.iload_n 1, 1) := by decide +kernel
theorem dX9_edge_48 : decode cX9_edge 48 = .ok (.iload_n 2, 1) := by decide +kernel
theorem dX9_edge_49 : decode cX9_edge 49 = .ok (.invokevirtual 290, 3) := by decide +kernel
theorem dX9_edge_52 : decode cX9_edge 52 = .ok (.ireturn, 1) := by decide +kernel
set_option maxRecDepth 20000 in
theorem dX9_show_0 : decode cX9_show 0 = .ok (.aload_n 0, 1) := by decide +kernel
theorem dX9_show_1 : decode cX9_show 1 = .ok (.iload_n 1, 1) := by decide +kernel
theorem dX9_show_2 : decode cX9_show 2 = .ok (.invokevirtual 134, 3) := by decide +kernel
theorem dX9_show_5 : decode cX9_show 5 = .ok (.ifCond .ne 6, 3) := by decide +kernel
theorem dX9_show_8 : decode cX9_show 8 = .ok (.bipush (-2), 2) := by decide +kernel
theorem dX9_show_10 : decode cX9_show 10 = .ok (.ireturn, 1) := by decide +kernel
theorem dX9_show_11 : decode cX9_show 11 = .ok (.aload_n 0, 1) := by decide +kernel
theorem dX9_show_12 : decode cX9_show 12 = .ok (.getfield 46, 3) := by decide +kernel
theorem dX9_show_15 : decode cX9_show 15 = .ok (.aload_n 0, 1) := by decide +kernel
theorem dX9_show_16 : decode cX9_show 16 = .ok (.getfield 28, 3) := by decide +kernel
theorem dX9_show_19 : decode cX9_show 19 = .ok (.aload_n 0, 1) := by decide +kernel
theorem dX9_show_20 : decode cX9_show 20 = .ok (.getfield 35, 3) := by decide +kernel
theorem dX9_show_23 : decode cX9_show 23 = .ok (.invokevirtual 213, 3) := by decide +kernel
theorem dX9_show_26 : decode cX9_show 26 = .ok (.aload_n 0, 1) := by decide +kernel
theorem dX9_show_27 : decode cX9_show 27 = .ok (.getfield 46, 3) := by decide +kernel
theorem dX9_show_30 : decode cX9_show 30 = .ok (.iload_n 1, 1) := by decide +kernel
theorem dX9_show_31 : decode cX9_show 31 = .ok (.invokevirtual 293, 3) := by decide +kernel
theorem dX9_show_34 : decode cX9_show 34 = .ok (.ireturn, 1) := by decide +kernel
set_option maxRecDepth 20000 in
theorem dX9_book_0 : decode cX9_book 0 = .ok (.aload_n 0, 1) := by decide +kernel
theorem dX9_book_1 : decode cX9_book 1 = .ok (.getfield 53, 3) := by decide +kernel
theorem dX9_book_4 : decode cX9_book 4 = .ok (.aload_n 0, 1) := by decide +kernel
theorem dX9_book_5 : decode cX9_book 5 = .ok (.getfield 10, 3) := by decide +kernel
theorem dX9_book_8 : decode cX9_book 8 = .ok (.invokevirtual 296, 3) := by decide +kernel
theorem dX9_book_11 : decode cX9_book 11 = .ok (.istore_n 1, 1) := by decide +kernel
theorem dX9_book_12 : decode cX9_book 12 = .ok (.aload_n 0, 1) := by decide +kernel
theorem dX9_book_13 : decode cX9_book 13 = .ok (.getfield 10, 3) := by decide +kernel
theorem dX9_book_16 : decode cX9_book 16 = .ok (.iconst 0, 1) := by decide +kernel
theorem dX9_book_17 : decode cX9_book 17 = .ok (.putfield 68, 3) := by decide +kernel
theorem dX9_book_20 : decode cX9_book 20 = .ok (.iload_n 1, 1) := by decide +kernel
theorem dX9_book_21 : decode cX9_book 21 = .ok (.ifCond .ne 7, 3) := by decide +kernel
theorem dX9_book_24 : decode cX9_book 24 = .ok (.sipush (-1000), 3) := by decide +kernel
theorem dX9_book_27 : decode cX9_book 27 = .ok (.ireturn, 1) := by decide +kernel
theorem dX9_book_28 : decode cX9_book 28 = .ok (.aload_n 0, 1) := by decide +kernel
theorem dX9_book_29 : decode cX9_book 29 = .ok (.getfield 53, 3) := by decide +kernel
theorem dX9_book_32 : decode cX9_book 32 = .ok (.aload_n 0, 1) := by decide +kernel
theorem dX9_book_33 : decode cX9_book 33 = .ok (.getfield 28, 3) := by decide +kernel
theorem dX9_book_36 : decode cX9_book 36 = .ok (.aload_n 0, 1) := by decide +kernel
theorem dX9_book_37 : decode cX9_book 37 = .ok (.getfield 35, 3) := by decide +kernel
theorem dX9_book_40 : decode cX9_book 40 = .ok (.getfield 157, 3) := by decide +kernel
theorem dX9_book_43 : decode cX9_book 43 = .ok (.getfield 166, 3) := by decide +kernel
theorem dX9_book_46 : decode cX9_book 46 = .ok (.invokevirtual 300, 3) := by decide +kernel
theorem dX9_book_49 : decode cX9_book 49 = .ok (.istore_n 2, 1) := by decide +kernel
theorem dX9_book_50 : decode cX9_book 50 = .ok (.iload_n 2, 1) := by decide +kernel
theorem dX9_book_51 : decode cX9_book 51 = .ok (.iconst (-1), 1) := by decide +kernel
theorem dX9_book_52 : decode cX9_book 52 = .ok (.if_icmp .ne 13, 3) := by decide +kernel
theorem dX9_book_55 : decode cX9_book 55 = .ok (.aload_n 0, 1) := by decide +kernel
theorem dX9_book_56 : decode cX9_book 56 = .ok (.getfield 53, 3) := by decide +kernel
theorem dX9_book_59 : decode cX9_book 59 = .ok (.getfield 304, 3) := by decide +kernel
theorem dX9_book_62 : decode cX9_book 62 = .ok (.goto 6, 3) := by decide +kernel
theorem dX9_book_65 : decode cX9_book 65 = .ok (.iconst (-1), 1) := by decide +kernel
theorem dX9_book_66 : decode cX9_book 66 = .ok (.iload_n 2, 1) := by decide +kernel
theorem dX9_book_67 : decode cX9_book 67 = .ok (.isub, 1) := by decide +kernel
theorem dX9_book_68 : decode cX9_book 68 = .ok (.ireturn, 1) := by decide +kernel
theorem dX9_count_0 : decode cX9_count 0 = .ok (.iload_n 1, 1) := by decide +kernel
theorem dX9_count_1 : decode cX9_count 1 = .ok (.tableswitch 54 0 2 #[27, 35, 46], 27) := by decide +kernel
theorem dX9_count_28 : decode cX9_count 28 = .ok (.aload_n 0, 1) := by decide +kernel
theorem dX9_count_29 : decode cX9_count 29 = .ok (.getfield 28, 3) := by decide +kernel
theorem dX9_count_32 : decode cX9_count 32 = .ok (.getfield 90, 3) := by decide +kernel
theorem dX9_count_35 : decode cX9_count 35 = .ok (.ireturn, 1) := by decide +kernel
theorem dX9_count_36 : decode cX9_count 36 = .ok (.aload_n 0, 1) := by decide +kernel
theorem dX9_count_37 : decode cX9_count 37 = .ok (.getfield 35, 3) := by decide +kernel
theorem dX9_count_40 : decode cX9_count 40 = .ok (.getfield 175, 3) := by decide +kernel
theorem dX9_count_43 : decode cX9_count 43 = .ok (.getfield 179, 3) := by decide +kernel
theorem dX9_count_46 : decode cX9_count 46 = .ok (.ireturn, 1) := by decide +kernel
theorem dX9_count_47 : decode cX9_count 47 = .ok (.aload_n 0, 1) := by decide +kernel
theorem dX9_count_48 : decode cX9_count 48 = .ok (.getfield 10, 3) := by decide +kernel
theorem dX9_count_51 : decode cX9_count 51 = .ok (.getfield 68, 3) := by decide +kernel
theorem dX9_count_54 : decode cX9_count 54 = .ok (.ireturn, 1) := by decide +kernel
theorem dX9_count_55 : decode cX9_count 55 = .ok (.iconst (-1), 1) := by decide +kernel
theorem dX9_count_56 : decode cX9_count 56 = .ok (.ireturn, 1) := by decide +kernel
theorem dX9_isHouse_0 : decode cX9_isHouse 0 = .ok (.iload_n 1, 1) := by decide +kernel
theorem dX9_isHouse_1 : decode cX9_isHouse 1 = .ok (.ifCond .lt 18, 3) := by decide +kernel
theorem dX9_isHouse_4 : decode cX9_isHouse 4 = .ok (.iload_n 1, 1) := by decide +kernel
theorem dX9_isHouse_5 : decode cX9_isHouse 5 = .ok (.aload_n 0, 1) := by decide +kernel
theorem dX9_isHouse_6 : decode cX9_isHouse 6 = .ok (.getfield 28, 3) := by decide +kernel
theorem dX9_isHouse_9 : decode cX9_isHouse 9 = .ok (.getfield 99, 3) := by decide +kernel
theorem dX9_isHouse_12 : decode cX9_isHouse 12 = .ok (.if_icmp .ge 7, 3) := by decide +kernel
theorem dX9_isHouse_15 : decode cX9_isHouse 15 = .ok (.iconst 1, 1) := by decide +kernel
theorem dX9_isHouse_16 : decode cX9_isHouse 16 = .ok (.goto 4, 3) := by decide +kernel
theorem dX9_isHouse_19 : decode cX9_isHouse 19 = .ok (.iconst 0, 1) := by decide +kernel
theorem dX9_isHouse_20 : decode cX9_isHouse 20 = .ok (.ireturn, 1) := by decide +kernel
theorem dX9_isPerson_0 : decode cX9_isPerson 0 = .ok (.iload_n 1, 1) := by decide +kernel
theorem dX9_isPerson_1 : decode cX9_isPerson 1 = .ok (.ifCond .lt 18, 3) := by decide +kernel
theorem dX9_isPerson_4 : decode cX9_isPerson 4 = .ok (.iload_n 1, 1) := by decide +kernel
theorem dX9_isPerson_5 : decode cX9_isPerson 5 = .ok (.aload_n 0, 1) := by decide +kernel
theorem dX9_isPerson_6 : decode cX9_isPerson 6 = .ok (.getfield 28, 3) := by decide +kernel
theorem dX9_isPerson_9 : decode cX9_isPerson 9 = .ok (.getfield 102, 3) := by decide +kernel
theorem dX9_isPerson_12 : decode cX9_isPerson 12 = .ok (.if_icmp .ge 7, 3) := by decide +kernel
theorem dX9_isPerson_15 : decode cX9_isPerson 15 = .ok (.iconst 1, 1) := by decide +kernel
theorem dX9_isPerson_16 : decode cX9_isPerson 16 = .ok (.goto 4, 3) := by decide +kernel
theorem dX9_isPerson_19 : decode cX9_isPerson 19 = .ok (.iconst 0, 1) := by decide +kernel
theorem dX9_isPerson_20 : decode cX9_isPerson 20 = .ok (.ireturn, 1) := by decide +kernel
set_option maxRecDepth 20000 in
theorem dX9_areTwo_0 : decode cX9_areTwo 0 = .ok (.aload_n 0, 1) := by decide +kernel
theorem dX9_areTwo_1 : decode cX9_areTwo 1 = .ok (.iload_n 1, 1) := by decide +kernel
theorem dX9_areTwo_2 : decode cX9_areTwo 2 = .ok (.invokevirtual 134, 3) := by decide +kernel
theorem dX9_areTwo_5 : decode cX9_areTwo 5 = .ok (.ifCond .eq 20, 3) := by decide +kernel
theorem dX9_areTwo_8 : decode cX9_areTwo 8 = .ok (.aload_n 0, 1) := by decide +kernel
theorem dX9_areTwo_9 : decode cX9_areTwo 9 = .ok (.iload_n 2, 1) := by decide +kernel
theorem dX9_areTwo_10 : decode cX9_areTwo 10 = .ok (.invokevirtual 134, 3) := by decide +kernel
theorem dX9_areTwo_13 : decode cX9_areTwo 13 = .ok (.ifCond .eq 12, 3) := by decide +kernel
theorem dX9_areTwo_16 : decode cX9_areTwo 16 = .ok (.iload_n 1, 1) := by decide +kernel
theorem dX9_areTwo_17 : decode cX9_areTwo 17 = .ok (.iload_n 2, 1) := by decide +kernel
theorem dX9_areTwo_18 : decode cX9_areTwo 18 = .ok (.if_icmp .eq 7, 3) := by decide +kernel
theorem dX9_areTwo_21 : decode cX9_areTwo 21 = .ok (.iconst 1, 1) := by decide +kernel
theorem dX9_areTwo_22 : decode cX9_areTwo 22 = .ok (.goto 4, 3) := by decide +kernel
theorem dX9_areTwo_25 : decode cX9_areTwo 25 = .ok (.iconst 0, 1) := by decide +kernel
theorem dX9_areTwo_26 : decode cX9_areTwo 26 = .ok (.ireturn, 1) := by decide +kernel
theorem dX10_in_0 : decode cX10_in 0 = .ok (.lload_n 0, 1) := by decide +kernel
theorem dX10_in_1 : decode cX10_in 1 = .ok (.lload_n 2, 1) := by decide +kernel
theorem dX10_in_2 : decode cX10_in 2 = .ok (.lcmp, 1) := by decide +kernel
theorem dX10_in_3 : decode cX10_in 3 = .ok (.ifCond .lt 14, 3) := by decide +kernel
theorem dX10_in_6 : decode cX10_in 6 = .ok (.lload_n 0, 1) := by decide +kernel
theorem dX10_in_7 : decode cX10_in 7 = .ok (.lload 4, 2) := by decide +kernel
theorem dX10_in_9 : decode cX10_in 9 = .ok (.lcmp, 1) := by decide +kernel
theorem dX10_in_10 : decode cX10_in 10 = .ok (.ifCond .gt 7, 3) := by decide +kernel
theorem dX10_in_13 : decode cX10_in 13 = .ok (.iconst 1, 1) := by decide +kernel
theorem dX10_in_14 : decode cX10_in 14 = .ok (.goto 4, 3) := by decide +kernel
theorem dX10_in_17 : decode cX10_in 17 = .ok (.iconst 0, 1) := by decide +kernel
theorem dX10_in_18 : decode cX10_in 18 = .ok (.ireturn, 1) := by decide +kernel
theorem dX10_bad_0 : decode cX10_bad 0 = .ok (.aload_n 0, 1) := by decide +kernel
theorem dX10_bad_1 : decode cX10_bad 1 = .ok (.iload_n 1, 1) := by decide +kernel
theorem dX10_bad_2 : decode cX10_bad 2 = .ok (.putfield 3, 3) := by decide +kernel
theorem dX10_bad_5 : decode cX10_bad 5 = .ok (.aload_n 0, 1) := by decide +kernel
theorem dX10_bad_6 : decode cX10_bad 6 = .ok (.aload_n 0, 1) := by decide +kernel
theorem dX10_bad_7 : decode cX10_bad 7 = .ok (.getfield 7, 3) := by decide +kernel
theorem dX10_bad_10 : decode cX10_bad 10 = .ok (.putfield 10, 3) := by decide +kernel
theorem dX10_bad_13 : decode cX10_bad 13 = .ok (.iconst 0, 1) := by decide +kernel
theorem dX10_bad_14 : decode cX10_bad 14 = .ok (.ireturn, 1) := by decide +kernel
theorem dX10_byteAt_0 : decode cX10_byteAt 0 = .ok (.iload_n 1, 1) := by decide +kernel
theorem dX10_byteAt_1 : decode cX10_byteAt 1 = .ok (.aload_n 0, 1) := by decide +kernel
theorem dX10_byteAt_2 : decode cX10_byteAt 2 = .ok (.getfield 13, 3) := by decide +kernel
theorem dX10_byteAt_5 : decode cX10_byteAt 5 = .ok (.if_icmp .ge 16, 3) := by decide +kernel
theorem dX10_byteAt_8 : decode cX10_byteAt 8 = .ok (.aload_n 0, 1) := by decide +kernel
theorem dX10_byteAt_9 : decode cX10_byteAt 9 = .ok (.getfield 16, 3) := by decide +kernel
theorem dX10_byteAt_12 : decode cX10_byteAt 12 = .ok (.iload_n 1, 1) := by decide +kernel
theorem dX10_byteAt_13 : decode cX10_byteAt 13 = .ok (.baload, 1) := by decide +kernel
theorem dX10_byteAt_14 : decode cX10_byteAt 14 = .ok (.sipush 255, 3) := by decide +kernel
theorem dX10_byteAt_17 : decode cX10_byteAt 17 = .ok (.iand, 1) := by decide +kernel
theorem dX10_byteAt_18 : decode cX10_byteAt 18 = .ok (.goto 4, 3) := by decide +kernel
theorem dX10_byteAt_21 : decode cX10_byteAt 21 = .ok (.iconst 0, 1) := by decide +kernel
theorem dX10_byteAt_22 : decode cX10_byteAt 22 = .ok (.ireturn, 1) := by decide +kernel
theorem dX10_isSmall_0 : decode cX10_isSmall 0 = .ok (.iload_n 0, 1) := by decide +kernel
theorem dX10_isSmall_1 : decode cX10_isSmall 1 = .ok (.bipush 97, 2) := by decide +kernel
theorem dX10_isSmall_3 : decode cX10_isSmall 3 = .ok (.if_icmp .lt 13, 3) := by decide +kernel
theorem dX10_isSmall_6 : decode cX10_isSmall 6 = .ok (.iload_n 0, 1) := by decide +kernel
theorem dX10_isSmall_7 : decode cX10_isSmall 7 = .ok (.bipush 122, 2) := by decide +kernel
theorem dX10_isSmall_9 : decode cX10_isSmall 9 = .ok (.if_icmp .gt 7, 3) := by decide +kernel
theorem dX10_isSmall_12 : decode cX10_isSmall 12 = .ok (.iconst 1, 1) := by decide +kernel
theorem dX10_isSmall_13 : decode cX10_isSmall 13 = .ok (.goto 4, 3) := by decide +kernel
theorem dX10_isSmall_16 : decode cX10_isSmall 16 = .ok (.iconst 0, 1) := by decide +kernel
theorem dX10_isSmall_17 : decode cX10_isSmall 17 = .ok (.ireturn, 1) := by decide +kernel
theorem dX10_isDigit_0 : decode cX10_isDigit 0 = .ok (.iload_n 0, 1) := by decide +kernel
theorem dX10_isDigit_1 : decode cX10_isDigit 1 = .ok (.bipush 48, 2) := by decide +kernel
theorem dX10_isDigit_3 : decode cX10_isDigit 3 = .ok (.if_icmp .lt 13, 3) := by decide +kernel
theorem dX10_isDigit_6 : decode cX10_isDigit 6 = .ok (.iload_n 0, 1) := by decide +kernel
theorem dX10_isDigit_7 : decode cX10_isDigit 7 = .ok (.bipush 57, 2) := by decide +kernel
theorem dX10_isDigit_9 : decode cX10_isDigit 9 = .ok (.if_icmp .gt 7, 3) := by decide +kernel
theorem dX10_isDigit_12 : decode cX10_isDigit 12 = .ok (.iconst 1, 1) := by decide +kernel
theorem dX10_isDigit_13 : decode cX10_isDigit 13 = .ok (.goto 4, 3) := by decide +kernel
theorem dX10_isDigit_16 : decode cX10_isDigit 16 = .ok (.iconst 0, 1) := by decide +kernel
theorem dX10_isDigit_17 : decode cX10_isDigit 17 = .ok (.ireturn, 1) := by decide +kernel
set_option maxRecDepth 20000 in
theorem dX10_scan_0 : decode cX10_scan 0 = .ok (.aload_n 0, 1) := by decide +kernel
theorem dX10_scan_1 : decode cX10_scan 1 = .ok (.getfield 20, 3) := by decide +kernel
theorem dX10_scan_4 : decode cX10_scan 4 = .ok (.aload_n 0, 1) := by decide +kernel
theorem dX10_scan_5 : decode cX10_scan 5 = .ok (.getfield 13, 3) := by decide +kernel
theorem dX10_scan_8 : decode cX10_scan 8 = .ok (.if_icmp .ge 44, 3) := by decide +kernel
theorem dX10_scan_11 : decode cX10_scan 11 = .ok (.aload_n 0, 1) := by decide +kernel
theorem dX10_scan_12 : decode cX10_scan 12 = .ok (.getfield 16, 3) := by decide +kernel
theorem dX10_scan_15 : decode cX10_scan 15 = .ok (.aload_n 0, 1) := by decide +kernel
theorem dX10_scan_16 : decode cX10_scan 16 = .ok (.getfield 20, 3) := by decide +kernel
theorem dX10_scan_19 : decode cX10_scan 19 = .ok (.baload, 1) := by decide +kernel
theorem dX10_scan_20 : decode cX10_scan 20 = .ok (.bipush 32, 2) := by decide +kernel
theorem dX10_scan_22 : decode cX10_scan 22 = .ok (.if_icmp .eq 17, 3) := by decide +kernel
theorem dX10_scan_25 : decode cX10_scan 25 = .ok (.aload_n 0, 1) := by decide +kernel
theorem dX10_scan_26 : decode cX10_scan 26 = .ok (.getfield 16, 3) := by decide +kernel
theorem dX10_scan_29 : decode cX10_scan 29 = .ok (.aload_n 0, 1) := by decide +kernel
theorem dX10_scan_30 : decode cX10_scan 30 = .ok (.getfield 20, 3) := by decide +kernel
theorem dX10_scan_33 : decode cX10_scan 33 = .ok (.baload, 1) := by decide +kernel
theorem dX10_scan_34 : decode cX10_scan 34 = .ok (.bipush 10, 2) := by decide +kernel
theorem dX10_scan_36 : decode cX10_scan 36 = .ok (.if_icmp .ne 16, 3) := by decide +kernel
theorem dX10_scan_39 : decode cX10_scan 39 = .ok (.aload_n 0, 1) := by decide +kernel
theorem dX10_scan_40 : decode cX10_scan 40 = .ok (.dup, 1) := by decide +kernel
theorem dX10_scan_41 : decode cX10_scan 41 = .ok (.getfield 20, 3) := by decide +kernel
theorem dX10_scan_44 : decode cX10_scan 44 = .ok (.iconst 1, 1) := by decide +kernel
theorem dX10_scan_45 : decode cX10_scan 45 = .ok (.iadd, 1) := by decide +kernel
theorem dX10_scan_46 : decode cX10_scan 46 = .ok (.putfield 20, 3) := by decide +kernel
theorem dX10_scan_49 : decode cX10_scan 49 = .ok (.goto (-49), 3) := by decide +kernel
theorem dX10_scan_52 : decode cX10_scan 52 = .ok (.aload_n 0, 1) := by decide +kernel
theorem dX10_scan_53 : decode cX10_scan 53 = .ok (.aload_n 0, 1) := by decide +kernel
theorem dX10_scan_54 : decode cX10_scan 54 = .ok (.getfield 20, 3) := by decide +kernel
theorem dX10_scan_57 : decode cX10_scan 57 = .ok (.putfield 7, 3) := by decide +kernel
theorem dX10_scan_60 : decode cX10_scan 60 = .ok (.aload_n 0, 1) := by decide +kernel
theorem dX10_scan_61 : decode cX10_scan 61 = .ok (.aload_n 0, 1) := by decide +kernel
theorem dX10_scan_62 : decode cX10_scan 62 = .ok (.getfield 7, 3) := by decide +kernel
theorem dX10_scan_65 : decode cX10_scan 65 = .ok (.invokevirtual 23, 3) := by decide +kernel
theorem dX10_scan_68 : decode cX10_scan 68 = .ok (.istore_n 1, 1) := by decide +kernel
theorem dX10_scan_69 : decode cX10_scan 69 = .ok (.aload_n 0, 1) := by decide +kernel
theorem dX10_scan_70 : decode cX10_scan 70 = .ok (.getfield 7, 3) := by decide +kernel
theorem dX10_scan_73 : decode cX10_scan 73 = .ok (.aload_n 0, 1) := by decide +kernel
theorem dX10_scan_74 : decode cX10_scan 74 = .ok (.getfield 13, 3) := by decide +kernel
theorem dX10_scan_77 : decode cX10_scan 77 = .ok (.if_icmp .ne 11, 3) := by decide +kernel
theorem dX10_scan_80 : decode cX10_scan 80 = .ok (.aload_n 0, 1) := by decide +kernel
theorem dX10_scan_81 : decode cX10_scan 81 = .ok (.iconst 0, 1) := by decide +kernel
theorem dX10_scan_82 : decode cX10_scan 82 = .ok (.putfield 27, 3) := by decide +kernel
theorem dX10_scan_85 : decode cX10_scan 85 = .ok (.goto 188, 3) := by decide +kernel
theorem dX10_scan_88 : decode cX10_scan 88 = .ok (.iload_n 1, 1) := by decide +kernel
theorem dX10_scan_89 : decode cX10_scan 89 = .ok (.invokestatic 30, 3) := by decide +kernel
theorem dX10_scan_92 : decode cX10_scan 92 = .ok (.ifCond .eq 56, 3) := by decide +kernel
theorem dX10_scan_95 : decode cX10_scan 95 = .ok (.aload_n 0, 1) := by decide +kernel
theorem dX10_scan_96 : decode cX10_scan 96 = .ok (.aload_n 0, 1) := by decide +kernel
theorem dX10_scan_97 : decode cX10_scan 97 = .ok (.getfield 20, 3) := by decide +kernel
theorem dX10_scan_100 : decode cX10_scan 100 = .ok (.invokevirtual 23, 3) := by decide +kernel
theorem dX10_scan_103 : decode cX10_scan 103 = .ok (.invokestatic 30, 3) := by decide +kernel
theorem dX10_scan_106 : decode cX10_scan 106 = .ok (.ifCond .eq 16, 3) := by decide +kernel
theorem dX10_scan_109 : decode cX10_scan 109 = .ok (.aload_n 0, 1) := by decide +kernel
theorem dX10_scan_110 : decode cX10_scan 110 = .ok (.dup, 1) := by decide +kernel
theorem dX10_scan_111 : decode cX10_scan 111 = .ok (.getfield 20, 3) := by decide +kernel
theorem dX10_scan_114 : decode cX10_scan 114 = .ok (.iconst 1, 1) := by decide +kernel
theorem dX10_scan_115 : decode cX10_scan 115 = .ok (.iadd, 1) := by decide +kernel
theorem dX10_scan_116 : decode cX10_scan 116 = .ok (.putfield 20, 3) := by decide +kernel
theorem dX10_scan_119 : decode cX10_scan 119 = .ok (.goto (-24), 3) := by decide +kernel
theorem dX10_scan_122 : decode cX10_scan 122 = .ok (.aload_n 0, 1) := by decide +kernel
theorem dX10_scan_123 : decode cX10_scan 123 = .ok (.aload_n 0, 1) := by decide +kernel
theorem dX10_scan_124 : decode cX10_scan 124 = .ok (.getfield 20, 3) := by decide +kernel
theorem dX10_scan_127 : decode cX10_scan 127 = .ok (.aload_n 0, 1) := by decide +kernel
theorem dX10_scan_128 : decode cX10_scan 128 = .ok (.getfield 7, 3) := by decide +kernel
theorem dX10_scan_131 : decode cX10_scan 131 = .ok (.isub, 1) := by decide +kernel
theorem dX10_scan_132 : decode cX10_scan 132 = .ok (.bipush 8, 2) := by decide +kernel
theorem dX10_scan_134 : decode cX10_scan 134 = .ok (.if_icmp .le 7, 3) := by decide +kernel
theorem dX10_scan_137 : decode cX10_scan 137 = .ok (.iconst 4, 1) := by decide +kernel
theorem dX10_scan_138 : decode cX10_scan 138 = .ok (.goto 4, 3) := by decide +kernel
theorem dX10_scan_141 : decode cX10_scan 141 = .ok (.iconst 1, 1) := by decide +kernel
theorem dX10_scan_142 : decode cX10_scan 142 = .ok (.putfield 27, 3) := by decide +kernel
theorem dX10_scan_145 : decode cX10_scan 145 = .ok (.goto 128, 3) := by decide +kernel
theorem dX10_scan_148 : decode cX10_scan 148 = .ok (.iload_n 1, 1) := by decide +kernel
theorem dX10_scan_149 : decode cX10_scan 149 = .ok (.invokestatic 34, 3) := by decide +kernel
theorem dX10_scan_152 : decode cX10_scan 152 = .ok (.ifCond .eq 96, 3) := by decide +kernel
theorem dX10_scan_155 : decode cX10_scan 155 = .ok (.aload_n 0, 1) := by decide +kernel
theorem dX10_scan_156 : decode cX10_scan 156 = .ok (.iconst 0, 1) := by decide +kernel
theorem dX10_scan_157 : decode cX10_scan 157 = .ok (.putfield 37, 3) := by decide +kernel
theorem dX10_scan_160 : decode cX10_scan 160 = .ok (.aload_n 0, 1) := by decide +kernel
theorem dX10_scan_161 : decode cX10_scan 161 = .ok (.aload_n 0, 1) := by decide +kernel
theorem dX10_scan_162 : decode cX10_scan 162 = .ok (.getfield 20, 3) := by decide +kernel
theorem dX10_scan_165 : decode cX10_scan 165 = .ok (.invokevirtual 23, 3) := by decide +kernel
theorem dX10_scan_168 : decode cX10_scan 168 = .ok (.invokestatic 34, 3) := by decide +kernel
theorem dX10_scan_171 : decode cX10_scan 171 = .ok (.ifCond .eq 52, 3) := by decide +kernel
theorem dX10_scan_174 : decode cX10_scan 174 = .ok (.aload_n 0, 1) := by decide +kernel
theorem dX10_scan_175 : decode cX10_scan 175 = .ok (.getfield 20, 3) := by decide +kernel
theorem dX10_scan_178 : decode cX10_scan 178 = .ok (.aload_n 0, 1) := by decide +kernel
theorem dX10_scan_179 : decode cX10_scan 179 = .ok (.getfield 7, 3) := by decide +kernel
theorem dX10_scan_182 : decode cX10_scan 182 = .ok (.isub, 1) := by decide +kernel
theorem dX10_scan_183 : decode cX10_scan 183 = .ok (.iconst 3, 1) := by decide +kernel
theorem dX10_scan_184 : decode cX10_scan 184 = .ok (.if_icmp .ge 26, 3) := by decide +kernel
theorem dX10_scan_187 : decode cX10_scan 187 = .ok (.aload_n 0, 1) := by decide +kernel
theorem dX10_scan_188 : decode cX10_scan 188 = .ok (.bipush 10, 2) := by decide +kernel
theorem dX10_scan_190 : decode cX10_scan 190 = .ok (.aload_n 0, 1) := by decide +kernel
theorem dX10_scan_191 : decode cX10_scan 191 = .ok (.getfield 37, 3) := by decide +kernel
theorem dX10_scan_194 : decode cX10_scan 194 = .ok (.imul, 1) := by decide +kernel
theorem dX10_scan_195 : decode cX10_scan 195 = .ok (.aload_n 0, 1) := by decide +kernel
theorem dX10_scan_196 : decode cX10_scan 196 = .ok (.aload_n 0, 1) := by decide +kernel
theorem dX10_scan_197 : decode cX10_scan 197 = .ok (.getfield 20, 3) := by decide +kernel
theorem dX10_scan_200 : decode cX10_scan 200 = .ok (.invokevirtual 23, 3) := by decide +kernel
theorem dX10_scan_203 : decode cX10_scan 203 = .ok (.iadd, 1) := by decide +kernel
theorem dX10_scan_204 : decode cX10_scan 204 = .ok (.bipush 48, 2) := by decide +kernel
theorem dX10_scan_206 : decode cX10_scan 206 = .ok (.isub, 1) := by decide +kernel
theorem dX10_scan_207 : decode cX10_scan 207 = .ok (.putfield 37, 3) := by decide +kernel
theorem dX10_scan_210 : decode cX10_scan 210 = .ok (.aload_n 0, 1) := by decide +kernel
theorem dX10_scan_211 : decode cX10_scan 211 = .ok (.dup, 1) := by decide +kernel
theorem dX10_scan_212 : decode cX10_scan 212 = .ok (.getfield 20, 3) := by decide +kernel
theorem dX10_scan_215 : decode cX10_scan 215 = .ok (.iconst 1, 1) := by decide +kernel
theorem dX10_scan_216 : decode cX10_scan 216 = .ok (.iadd, 1) := by decide +kernel
theorem dX10_scan_217 : decode cX10_scan 217 = .ok (.putfield 20, 3) := by decide +kernel
theorem dX10_scan_220 : decode cX10_scan 220 = .ok (.goto (-60), 3) := by decide +kernel
theorem dX10_scan_223 : decode cX10_scan 223 = .ok (.aload_n 0, 1) := by decide +kernel
theorem dX10_scan_224 : decode cX10_scan 224 = .ok (.aload_n 0, 1) := by decide +kernel
theorem dX10_scan_225 : decode cX10_scan 225 = .ok (.getfield 20, 3) := by decide +kernel
theorem dX10_scan_228 : decode cX10_scan 228 = .ok (.aload_n 0, 1) := by decide +kernel
theorem dX10_scan_229 : decode cX10_scan 229 = .ok (.getfield 7, 3) := by decide +kernel
theorem dX10_scan_232 : decode cX10_scan 232 = .ok (.isub, 1) := by decide +kernel
theorem dX10_scan_233 : decode cX10_scan 233 = .ok (.iconst 3, 1) := by decide +kernel
theorem dX10_scan_234 : decode cX10_scan 234 = .ok (.if_icmp .le 7, 3) := by decide +kernel
theorem dX10_scan_237 : decode cX10_scan 237 = .ok (.iconst 4, 1) := by decide +kernel
theorem dX10_scan_238 : decode cX10_scan 238 = .ok (.goto 4, 3) := by decide +kernel
theorem dX10_scan_241 : decode cX10_scan 241 = .ok (.iconst 2, 1) := by decide +kernel
theorem dX10_scan_242 : decode cX10_scan 242 = .ok (.putfield 27, 3) := by decide +kernel
theorem dX10_scan_245 : decode cX10_scan 245 = .ok (.goto 28, 3) := by decide +kernel
theorem dX10_scan_248 : decode cX10_scan 248 = .ok (.aload_n 0, 1) := by decide +kernel
theorem dX10_scan_249 : decode cX10_scan 249 = .ok (.iload_n 1, 1) := by decide +kernel
theorem dX10_scan_250 : decode cX10_scan 250 = .ok (.bipush 59, 2) := by decide +kernel
theorem dX10_scan_252 : decode cX10_scan 252 = .ok (.if_icmp .ne 7, 3) := by decide +kernel
theorem dX10_scan_255 : decode cX10_scan 255 = .ok (.iconst 3, 1) := by decide +kernel
theorem dX10_scan_256 : decode cX10_scan 256 = .ok (.goto 4, 3) := by decide +kernel
theorem dX10_scan_259 : decode cX10_scan 259 = .ok (.iconst 4, 1) := by decide +kernel
theorem dX10_scan_260 : decode cX10_scan 260 = .ok (.putfield 27, 3) := by decide +kernel
theorem dX10_scan_263 : decode cX10_scan 263 = .ok (.aload_n 0, 1) := by decide +kernel
theorem dX10_scan_264 : decode cX10_scan 264 = .ok (.dup, 1) := by decide +kernel
theorem dX10_scan_265 : decode cX10_scan 265 = .ok (.getfield 20, 3) := by decide +kernel
theorem dX10_scan_268 : decode cX10_scan 268 = .ok (.iconst 1, 1) := by decide +kernel
theorem dX10_scan_269 : decode cX10_scan 269 = .ok (.iadd, 1) := by decide +kernel
theorem dX10_scan_270 : decode cX10_scan 270 = .ok (.putfield 20, 3) := by decide +kernel
theorem dX10_scan_273 : decode cX10_scan 273 = .ok (.return_, 1) := by decide +kernel
set_option maxRecDepth 20000 in
theorem dX10_is_0 : decode cX10_is 0 = .ok (.aload_n 0, 1) := by decide +kernel
theorem dX10_is_1 : decode cX10_is 1 = .ok (.getfield 27, 3) := by decide +kernel
theorem dX10_is_4 : decode cX10_is 4 = .ok (.iconst 1, 1) := by decide +kernel
theorem dX10_is_5 : decode cX10_is 5 = .ok (.if_icmp .ne 23, 3) := by decide +kernel
theorem dX10_is_8 : decode cX10_is 8 = .ok (.aload_n 0, 1) := by decide +kernel
theorem dX10_is_9 : decode cX10_is 9 = .ok (.getfield 20, 3) := by decide +kernel
theorem dX10_is_12 : decode cX10_is 12 = .ok (.aload_n 0, 1) := by decide +kernel
theorem dX10_is_13 : decode cX10_is 13 = .ok (.getfield 7, 3) := by decide +kernel
theorem dX10_is_16 : decode cX10_is 16 = .ok (.isub, 1) := by decide +kernel
theorem dX10_is_17 : decode cX10_is 17 = .ok (.aload_n 1, 1) := by decide +kernel
theorem dX10_is_18 : decode cX10_is 18 = .ok (.invokevirtual 40, 3) := by decide +kernel
theorem dX10_is_21 : decode cX10_is 21 = .ok (.if_icmp .ne 7, 3) := by decide +kernel
theorem dX10_is_24 : decode cX10_is 24 = .ok (.iconst 1, 1) := by decide +kernel
theorem dX10_is_25 : decode cX10_is 25 = .ok (.goto 4, 3) := by decide +kernel
theorem dX10_is_28 : decode cX10_is 28 = .ok (.iconst 0, 1) := by decide +kernel
theorem dX10_is_29 : decode cX10_is 29 = .ok (.istore_n 2, 1) := by decide +kernel
theorem dX10_is_30 : decode cX10_is 30 = .ok (.iconst 0, 1) := by decide +kernel
theorem dX10_is_31 : decode cX10_is 31 = .ok (.istore_n 3, 1) := by decide +kernel
theorem dX10_is_32 : decode cX10_is 32 = .ok (.iload_n 3, 1) := by decide +kernel
theorem dX10_is_33 : decode cX10_is 33 = .ok (.aload_n 1, 1) := by decide +kernel
theorem dX10_is_34 : decode cX10_is 34 = .ok (.invokevirtual 40, 3) := by decide +kernel
theorem dX10_is_37 : decode cX10_is 37 = .ok (.if_icmp .ge 38, 3) := by decide +kernel
theorem dX10_is_40 : decode cX10_is 40 = .ok (.iload_n 2, 1) := by decide +kernel
theorem dX10_is_41 : decode cX10_is 41 = .ok (.ifCond .eq 34, 3) := by decide +kernel
theorem dX10_is_44 : decode cX10_is 44 = .ok (.aload_n 0, 1) := by decide +kernel
theorem dX10_is_45 : decode cX10_is 45 = .ok (.getfield 16, 3) := by decide +kernel
theorem dX10_is_48 : decode cX10_is 48 = .ok (.aload_n 0, 1) := by decide +kernel
theorem dX10_is_49 : decode cX10_is 49 = .ok (.getfield 7, 3) := by decide +kernel
theorem dX10_is_52 : decode cX10_is 52 = .ok (.iload_n 3, 1) := by decide +kernel
theorem dX10_is_53 : decode cX10_is 53 = .ok (.iadd, 1) := by decide +kernel
theorem dX10_is_54 : decode cX10_is 54 = .ok (.baload, 1) := by decide +kernel
theorem dX10_is_55 : decode cX10_is 55 = .ok (.aload_n 1, 1) := by decide +kernel
theorem dX10_is_56 : decode cX10_is 56 = .ok (.iload_n 3, 1) := by decide +kernel
theorem dX10_is_57 : decode cX10_is 57 = .ok (.invokevirtual 45, 3) := by decide +kernel
theorem dX10_is_60 : decode cX10_is 60 = .ok (.if_icmp .ne 7, 3) := by decide +kernel
theorem dX10_is_63 : decode cX10_is 63 = .ok (.iconst 1, 1) := by decide +kernel
theorem dX10_is_64 : decode cX10_is 64 = .ok (.goto 4, 3) := by decide +kernel
theorem dX10_is_67 : decode cX10_is 67 = .ok (.iconst 0, 1) := by decide +kernel
theorem dX10_is_68 : decode cX10_is 68 = .ok (.istore_n 2, 1) := by decide +kernel
theorem dX10_is_69 : decode cX10_is 69 = .ok (.iinc 3 1, 3) := by decide +kernel
theorem dX10_is_72 : decode cX10_is 72 = .ok (.goto (-40), 3) := by decide +kernel
theorem dX10_is_75 : decode cX10_is 75 = .ok (.iload_n 2, 1) := by decide +kernel
theorem dX10_is_76 : decode cX10_is 76 = .ok (.ireturn, 1) := by decide +kernel
set_option maxRecDepth 20000 in
theorem dX10_number_0 : decode cX10_number 0 = .ok (.aload_n 0, 1) := by decide +kernel
theorem dX10_number_1 : decode cX10_number 1 = .ok (.getfield 27, 3) := by decide +kernel
theorem dX10_number_4 : decode cX10_number 4 = .ok (.iconst 2, 1) := by decide +kernel
theorem dX10_number_5 : decode cX10_number 5 = .ok (.if_icmp .eq 9, 3) := by decide +kernel
theorem dX10_number_8 : decode cX10_number 8 = .ok (.aload_n 0, 1) := by decide +kernel
theorem dX10_number_9 : decode cX10_number 9 = .ok (.iconst 1, 1) := by decide +kernel
theorem dX10_number_10 : decode cX10_number 10 = .ok (.invokevirtual 49, 3) := by decide +kernel
theorem dX10_number_13 : decode cX10_number 13 = .ok (.ireturn, 1) := by decide +kernel
theorem dX10_number_14 : decode cX10_number 14 = .ok (.aload_n 0, 1) := by decide +kernel
theorem dX10_number_15 : decode cX10_number 15 = .ok (.getfield 37, 3) := by decide +kernel
theorem dX10_number_18 : decode cX10_number 18 = .ok (.i2l, 1) := by decide +kernel
theorem dX10_number_19 : decode cX10_number 19 = .ok (.iload_n 1, 1) := by decide +kernel
theorem dX10_number_20 : decode cX10_number 20 = .ok (.i2l, 1) := by decide +kernel
theorem dX10_number_21 : decode cX10_number 21 = .ok (.iload_n 2, 1) := by decide +kernel
theorem dX10_number_22 : decode cX10_number 22 = .ok (.i2l, 1) := by decide +kernel
theorem dX10_number_23 : decode cX10_number 23 = .ok (.invokestatic 52, 3) := by decide +kernel
theorem dX10_number_26 : decode cX10_number 26 = .ok (.ifCond .ne 9, 3) := by decide +kernel
theorem dX10_number_29 : decode cX10_number 29 = .ok (.aload_n 0, 1) := by decide +kernel
theorem dX10_number_30 : decode cX10_number 30 = .ok (.iconst 2, 1) := by decide +kernel
theorem dX10_number_31 : decode cX10_number 31 = .ok (.invokevirtual 49, 3) := by decide +kernel
theorem dX10_number_34 : decode cX10_number 34 = .ok (.ireturn, 1) := by decide +kernel
theorem dX10_number_35 : decode cX10_number 35 = .ok (.aload_n 0, 1) := by decide +kernel
theorem dX10_number_36 : decode cX10_number 36 = .ok (.aload_n 0, 1) := by decide +kernel
theorem dX10_number_37 : decode cX10_number 37 = .ok (.getfield 37, 3) := by decide +kernel
theorem dX10_number_40 : decode cX10_number 40 = .ok (.putfield 56, 3) := by decide +kernel
theorem dX10_number_43 : decode cX10_number 43 = .ok (.aload_n 0, 1) := by decide +kernel
theorem dX10_number_44 : decode cX10_number 44 = .ok (.invokevirtual 59, 3) := by decide +kernel
theorem dX10_number_47 : decode cX10_number 47 = .ok (.iconst 1, 1) := by decide +kernel
theorem dX10_number_48 : decode cX10_number 48 = .ok (.ireturn, 1) := by decide +kernel
set_option maxRecDepth 20000 in
theorem dX10_name_0 : decode cX10_name 0 = .ok (.lconst 0, 1) := by decide +kernel
theorem dX10_name_1 : decode cX10_name 1 = .ok (.lstore_n 1, 1) := by decide +kernel
theorem dX10_name_2 : decode cX10_name 2 = .ok (.aload_n 0, 1) := by decide +kernel
theorem dX10_name_3 : decode cX10_name 3 = .ok (.getfield 7, 3) := by decide +kernel
theorem dX10_name_6 : decode cX10_name 6 = .ok (.istore_n 3, 1) := by decide +kernel
theorem dX10_name_7 : decode cX10_name 7 = .ok (.iload_n 3, 1) := by decide +kernel
theorem dX10_name_8 : decode cX10_name 8 = .ok (.aload_n 0, 1) := by decide +kernel
theorem dX10_name_9 : decode cX10_name 9 = .ok (.getfield 20, 3) := by decide +kernel
theorem dX10_name_12 : decode cX10_name 12 = .ok (.if_icmp .ge 23, 3) := by decide +kernel
theorem dX10_name_15 : decode cX10_name 15 = .ok (.lload_n 1, 1) := by decide +kernel
theorem dX10_name_16 : decode cX10_name 16 = .ok (.iconst 5, 1) := by decide +kernel
theorem dX10_name_17 : decode cX10_name 17 = .ok (.lshl, 1) := by decide +kernel
theorem dX10_name_18 : decode cX10_name 18 = .ok (.aload_n 0, 1) := by decide +kernel
theorem dX10_name_19 : decode cX10_name 19 = .ok (.iload_n 3, 1) := by decide +kernel
theorem dX10_name_20 : decode cX10_name 20 = .ok (.invokevirtual 23, 3) := by decide +kernel
theorem dX10_name_23 : decode cX10_name 23 = .ok (.bipush 96, 2) := by decide +kernel
theorem dX10_name_25 : decode cX10_name 25 = .ok (.isub, 1) := by decide +kernel
theorem dX10_name_26 : decode cX10_name 26 = .ok (.i2l, 1) := by decide +kernel
theorem dX10_name_27 : decode cX10_name 27 = .ok (.lor, 1) := by decide +kernel
theorem dX10_name_28 : decode cX10_name 28 = .ok (.lstore_n 1, 1) := by decide +kernel
theorem dX10_name_29 : decode cX10_name 29 = .ok (.iinc 3 1, 3) := by decide +kernel
theorem dX10_name_32 : decode cX10_name 32 = .ok (.goto (-25), 3) := by decide +kernel
theorem dX10_name_35 : decode cX10_name 35 = .ok (.lload_n 1, 1) := by decide +kernel
theorem dX10_name_36 : decode cX10_name 36 = .ok (.lreturn, 1) := by decide +kernel
set_option maxRecDepth 20000 in
theorem dX10_find_0 : decode cX10_find 0 = .ok (.iconst 0, 1) := by decide +kernel
theorem dX10_find_1 : decode cX10_find 1 = .ok (.istore_n 3, 1) := by decide +kernel
theorem dX10_find_2 : decode cX10_find 2 = .ok (.iload_n 3, 1) := by decide +kernel
theorem dX10_find_3 : decode cX10_find 3 = .ok (.iload_n 2, 1) := by decide +kernel
theorem dX10_find_4 : decode cX10_find 4 = .ok (.if_icmp .ge 22, 3) := by decide +kernel
theorem dX10_find_7 : decode cX10_find 7 = .ok (.aload_n 1, 1) := by decide +kernel
theorem dX10_find_8 : decode cX10_find 8 = .ok (.iload_n 3, 1) := by decide +kernel
theorem dX10_find_9 : decode cX10_find 9 = .ok (.laload, 1) := by decide +kernel
theorem dX10_find_10 : decode cX10_find 10 = .ok (.aload_n 0, 1) := by decide +kernel
theorem dX10_find_11 : decode cX10_find 11 = .ok (.invokevirtual 63, 3) := by decide +kernel
theorem dX10_find_14 : decode cX10_find 14 = .ok (.lcmp, 1) := by decide +kernel
theorem dX10_find_15 : decode cX10_find 15 = .ok (.ifCond .ne 5, 3) := by decide +kernel
theorem dX10_find_18 : decode cX10_find 18 = .ok (.iload_n 3, 1) := by decide +kernel
theorem dX10_find_19 : decode cX10_find 19 = .ok (.ireturn, 1) := by decide +kernel
theorem dX10_find_20 : decode cX10_find 20 = .ok (.iinc 3 1, 3) := by decide +kernel
theorem dX10_find_23 : decode cX10_find 23 = .ok (.goto (-21), 3) := by decide +kernel
theorem dX10_find_26 : decode cX10_find 26 = .ok (.iconst (-1), 1) := by decide +kernel
theorem dX10_find_27 : decode cX10_find 27 = .ok (.ireturn, 1) := by decide +kernel
set_option maxRecDepth 20000 in
theorem dX10_fresh_0 : decode cX10_fresh 0 = .ok (.aload_n 0, 1) := by decide +kernel
theorem dX10_fresh_1 : decode cX10_fresh 1 = .ok (.getfield 27, 3) := by decide +kernel
theorem dX10_fresh_4 : decode cX10_fresh 4 = .ok (.iconst 1, 1) := by decide +kernel
theorem dX10_fresh_5 : decode cX10_fresh 5 = .ok (.if_icmp .eq 9, 3) := by decide +kernel
theorem dX10_fresh_8 : decode cX10_fresh 8 = .ok (.aload_n 0, 1) := by decide +kernel
theorem dX10_fresh_9 : decode cX10_fresh 9 = .ok (.iconst 1, 1) := by decide +kernel
theorem dX10_fresh_10 : decode cX10_fresh 10 = .ok (.invokevirtual 49, 3) := by decide +kernel
theorem dX10_fresh_13 : decode cX10_fresh 13 = .ok (.ireturn, 1) := by decide +kernel
theorem dX10_fresh_14 : decode cX10_fresh 14 = .ok (.aload_n 0, 1) := by decide +kernel
theorem dX10_fresh_15 : decode cX10_fresh 15 = .ok (.aload_n 1, 1) := by decide +kernel
theorem dX10_fresh_16 : decode cX10_fresh 16 = .ok (.iload_n 2, 1) := by decide +kernel
theorem dX10_fresh_17 : decode cX10_fresh 17 = .ok (.invokevirtual 67, 3) := by decide +kernel
theorem dX10_fresh_20 : decode cX10_fresh 20 = .ok (.iconst (-1), 1) := by decide +kernel
theorem dX10_fresh_21 : decode cX10_fresh 21 = .ok (.if_icmp .eq 9, 3) := by decide +kernel
theorem dX10_fresh_24 : decode cX10_fresh 24 = .ok (.aload_n 0, 1) := by decide +kernel
theorem dX10_fresh_25 : decode cX10_fresh 25 = .ok (.iconst 3, 1) := by decide +kernel
theorem dX10_fresh_26 : decode cX10_fresh 26 = .ok (.invokevirtual 49, 3) := by decide +kernel
theorem dX10_fresh_29 : decode cX10_fresh 29 = .ok (.ireturn, 1) := by decide +kernel
theorem dX10_fresh_30 : decode cX10_fresh 30 = .ok (.aload_n 1, 1) := by decide +kernel
theorem dX10_fresh_31 : decode cX10_fresh 31 = .ok (.iload_n 2, 1) := by decide +kernel
theorem dX10_fresh_32 : decode cX10_fresh 32 = .ok (.aload_n 0, 1) := by decide +kernel
theorem dX10_fresh_33 : decode cX10_fresh 33 = .ok (.invokevirtual 63, 3) := by decide +kernel
theorem dX10_fresh_36 : decode cX10_fresh 36 = .ok (.lastore, 1) := by decide +kernel
theorem dX10_fresh_37 : decode cX10_fresh 37 = .ok (.aload_n 0, 1) := by decide +kernel
theorem dX10_fresh_38 : decode cX10_fresh 38 = .ok (.invokevirtual 59, 3) := by decide +kernel
theorem dX10_fresh_41 : decode cX10_fresh 41 = .ok (.iconst 1, 1) := by decide +kernel
theorem dX10_fresh_42 : decode cX10_fresh 42 = .ok (.ireturn, 1) := by decide +kernel
set_option maxRecDepth 20000 in
theorem dX10_known_0 : decode cX10_known 0 = .ok (.aload_n 0, 1) := by decide +kernel
theorem dX10_known_1 : decode cX10_known 1 = .ok (.getfield 27, 3) := by decide +kernel
theorem dX10_known_4 : decode cX10_known 4 = .ok (.iconst 1, 1) := by decide +kernel
theorem dX10_known_5 : decode cX10_known 5 = .ok (.if_icmp .eq 9, 3) := by decide +kernel
theorem dX10_known_8 : decode cX10_known 8 = .ok (.aload_n 0, 1) := by decide +kernel
theorem dX10_known_9 : decode cX10_known 9 = .ok (.iconst 1, 1) := by decide +kernel
theorem dX10_known_10 : decode cX10_known 10 = .ok (.invokevirtual 49, 3) := by decide +kernel
theorem dX10_known_13 : decode cX10_known 13 = .ok (.ireturn, 1) := by decide +kernel
theorem dX10_known_14 : decode cX10_known 14 = .ok (.aload_n 0, 1) := by decide +kernel
theorem dX10_known_15 : decode cX10_known 15 = .ok (.aload_n 0, 1) := by decide +kernel
theorem dX10_known_16 : decode cX10_known 16 = .ok (.aload_n 1, 1) := by decide +kernel
theorem dX10_known_17 : decode cX10_known 17 = .ok (.iload_n 2, 1) := by decide +kernel
theorem dX10_known_18 : decode cX10_known 18 = .ok (.invokevirtual 67, 3) := by decide +kernel
theorem dX10_known_21 : decode cX10_known 21 = .ok (.putfield 56, 3) := by decide +kernel
theorem dX10_known_24 : decode cX10_known 24 = .ok (.aload_n 0, 1) := by decide +kernel
theorem dX10_known_25 : decode cX10_known 25 = .ok (.getfield 56, 3) := by decide +kernel
theorem dX10_known_28 : decode cX10_known 28 = .ok (.iconst (-1), 1) := by decide +kernel
theorem dX10_known_29 : decode cX10_known 29 = .ok (.if_icmp .ne 9, 3) := by decide +kernel
theorem dX10_known_32 : decode cX10_known 32 = .ok (.aload_n 0, 1) := by decide +kernel
theorem dX10_known_33 : decode cX10_known 33 = .ok (.iconst 5, 1) := by decide +kernel
theorem dX10_known_34 : decode cX10_known 34 = .ok (.invokevirtual 49, 3) := by decide +kernel
theorem dX10_known_37 : decode cX10_known 37 = .ok (.ireturn, 1) := by decide +kernel
theorem dX10_known_38 : decode cX10_known 38 = .ok (.aload_n 0, 1) := by decide +kernel
theorem dX10_known_39 : decode cX10_known 39 = .ok (.invokevirtual 59, 3) := by decide +kernel
theorem dX10_known_42 : decode cX10_known 42 = .ok (.iconst 1, 1) := by decide +kernel
theorem dX10_known_43 : decode cX10_known 43 = .ok (.ireturn, 1) := by decide +kernel
set_option maxRecDepth 20000 in
theorem dX10_open_0 : decode cX10_open 0 = .ok (.aload_n 0, 1) := by decide +kernel
theorem dX10_open_1 : decode cX10_open 1 = .ok (.aload_n 0, 1) := by decide +kernel
theorem dX10_open_2 : decode cX10_open 2 = .ok (.getfield 71, 3) := by decide +kernel
theorem dX10_open_5 : decode cX10_open 5 = .ok (.putfield 13, 3) := by decide +kernel
theorem dX10_open_8 : decode cX10_open 8 = .ok (.aload_n 0, 1) := by decide +kernel
theorem dX10_open_9 : decode cX10_open 9 = .ok (.iconst 0, 1) := by decide +kernel
theorem dX10_open_10 : decode cX10_open 10 = .ok (.putfield 71, 3) := by decide +kernel
theorem dX10_open_13 : decode cX10_open 13 = .ok (.aload_n 0, 1) := by decide +kernel
theorem dX10_open_14 : decode cX10_open 14 = .ok (.iconst 0, 1) := by decide +kernel
theorem dX10_open_15 : decode cX10_open 15 = .ok (.putfield 20, 3) := by decide +kernel
theorem dX10_open_18 : decode cX10_open 18 = .ok (.aload_n 0, 1) := by decide +kernel
theorem dX10_open_19 : decode cX10_open 19 = .ok (.invokevirtual 59, 3) := by decide +kernel
theorem dX10_open_22 : decode cX10_open 22 = .ok (.return_, 1) := by decide +kernel
set_option maxRecDepth 20000 in
theorem dX10_close_0 : decode cX10_close 0 = .ok (.aload_n 0, 1) := by decide +kernel
theorem dX10_close_1 : decode cX10_close 1 = .ok (.getfield 27, 3) := by decide +kernel
theorem dX10_close_4 : decode cX10_close 4 = .ok (.iconst 3, 1) := by decide +kernel
theorem dX10_close_5 : decode cX10_close 5 = .ok (.if_icmp .eq 9, 3) := by decide +kernel
theorem dX10_close_8 : decode cX10_close 8 = .ok (.aload_n 0, 1) := by decide +kernel
theorem dX10_close_9 : decode cX10_close 9 = .ok (.iconst 1, 1) := by decide +kernel
theorem dX10_close_10 : decode cX10_close 10 = .ok (.invokevirtual 49, 3) := by decide +kernel
theorem dX10_close_13 : decode cX10_close 13 = .ok (.ireturn, 1) := by decide +kernel
theorem dX10_close_14 : decode cX10_close 14 = .ok (.aload_n 0, 1) := by decide +kernel
theorem dX10_close_15 : decode cX10_close 15 = .ok (.invokevirtual 59, 3) := by decide +kernel
theorem dX10_close_18 : decode cX10_close 18 = .ok (.iconst 1, 1) := by decide +kernel
theorem dX10_close_19 : decode cX10_close 19 = .ok (.ireturn, 1) := by decide +kernel
theorem dX10_usual_0 : decode cX10_usual 0 = .ok (.iload_n 0, 1) := by decide +kernel
theorem dX10_usual_1 : decode cX10_usual 1 = .ok (.iconst 1, 1) := by decide +kernel
theorem dX10_usual_2 : decode cX10_usual 2 = .ok (.if_icmp .ne 8, 3) := by decide +kernel
theorem dX10_usual_5 : decode cX10_usual 5 = .ok (.bipush 12, 2) := by decide +kernel
theorem dX10_usual_7 : decode cX10_usual 7 = .ok (.goto 26, 3) := by decide +kernel
theorem dX10_usual_10 : decode cX10_usual 10 = .ok (.iload_n 0, 1) := by decide +kernel
theorem dX10_usual_11 : decode cX10_usual 11 = .ok (.iconst 5, 1) := by decide +kernel
theorem dX10_usual_12 : decode cX10_usual 12 = .ok (.if_icmp .ne 7, 3) := by decide +kernel
theorem dX10_usual_15 : decode cX10_usual 15 = .ok (.iconst 0, 1) := by decide +kernel
theorem dX10_usual_16 : decode cX10_usual 16 = .ok (.goto 17, 3) := by decide +kernel
theorem dX10_usual_19 : decode cX10_usual 19 = .ok (.iload_n 0, 1) := by decide +kernel
theorem dX10_usual_20 : decode cX10_usual 20 = .ok (.ifCond .eq 8, 3) := by decide +kernel
theorem dX10_usual_23 : decode cX10_usual 23 = .ok (.iload_n 0, 1) := by decide +kernel
theorem dX10_usual_24 : decode cX10_usual 24 = .ok (.iconst 2, 1) := by decide +kernel
theorem dX10_usual_25 : decode cX10_usual 25 = .ok (.if_icmp .ne 7, 3) := by decide +kernel
theorem dX10_usual_28 : decode cX10_usual 28 = .ok (.iconst 2, 1) := by decide +kernel
theorem dX10_usual_29 : decode cX10_usual 29 = .ok (.goto 4, 3) := by decide +kernel
theorem dX10_usual_32 : decode cX10_usual 32 = .ok (.iconst 1, 1) := by decide +kernel
theorem dX10_usual_33 : decode cX10_usual 33 = .ok (.ireturn, 1) := by decide +kernel
theorem dX10_greatest_0 : decode cX10_greatest 0 = .ok (.iload_n 0, 1) := by decide +kernel
theorem dX10_greatest_1 : decode cX10_greatest 1 = .ok (.tableswitch 50 0 5 #[39, 41, 50, 50, 44, 47], 39) := by decide +kernel
theorem dX10_greatest_40 : decode cX10_greatest 40 = .ok (.iconst 4, 1) := by decide +kernel
theorem dX10_greatest_41 : decode cX10_greatest 41 = .ok (.ireturn, 1) := by decide +kernel
theorem dX10_greatest_42 : decode cX10_greatest 42 = .ok (.bipush 28, 2) := by decide +kernel
theorem dX10_greatest_44 : decode cX10_greatest 44 = .ok (.ireturn, 1) := by decide +kernel
theorem dX10_greatest_45 : decode cX10_greatest 45 = .ok (.bipush 9, 2) := by decide +kernel
theorem dX10_greatest_47 : decode cX10_greatest 47 = .ok (.ireturn, 1) := by decide +kernel
theorem dX10_greatest_48 : decode cX10_greatest 48 = .ok (.bipush 100, 2) := by decide +kernel
theorem dX10_greatest_50 : decode cX10_greatest 50 = .ok (.ireturn, 1) := by decide +kernel
theorem dX10_greatest_51 : decode cX10_greatest 51 = .ok (.bipush 20, 2) := by decide +kernel
theorem dX10_greatest_53 : decode cX10_greatest 53 = .ok (.ireturn, 1) := by decide +kernel
set_option maxRecDepth 20000 in
theorem dX10_readHouse_0 : decode cX10_readHouse 0 = .ok (.aload_n 0, 1) := by decide +kernel
theorem dX10_readHouse_1 : decode cX10_readHouse 1 = .ok (.getfield 74, 3) := by decide +kernel
theorem dX10_readHouse_4 : decode cX10_readHouse 4 = .ok (.iconst 5, 1) := by decide +kernel
theorem dX10_readHouse_5 : decode cX10_readHouse 5 = .ok (.if_icmp .ne 9, 3) := by decide +kernel
theorem dX10_readHouse_8 : decode cX10_readHouse 8 = .ok (.aload_n 0, 1) := by decide +kernel
theorem dX10_readHouse_9 : decode cX10_readHouse 9 = .ok (.iconst 4, 1) := by decide +kernel
theorem dX10_readHouse_10 : decode cX10_readHouse 10 = .ok (.invokevirtual 49, 3) := by decide +kernel
theorem dX10_readHouse_13 : decode cX10_readHouse 13 = .ok (.ireturn, 1) := by decide +kernel
theorem dX10_readHouse_14 : decode cX10_readHouse 14 = .ok (.aload_n 0, 1) := by decide +kernel
theorem dX10_readHouse_15 : decode cX10_readHouse 15 = .ok (.invokevirtual 59, 3) := by decide +kernel
theorem dX10_readHouse_18 : decode cX10_readHouse 18 = .ok (.aload_n 0, 1) := by decide +kernel
theorem dX10_readHouse_19 : decode cX10_readHouse 19 = .ok (.getfield 74, 3) := by decide +kernel
theorem dX10_readHouse_22 : decode cX10_readHouse 22 = .ok (.istore_n 1, 1) := by decide +kernel
theorem dX10_readHouse_23 : decode cX10_readHouse 23 = .ok (.aload_n 0, 1) := by decide +kernel
theorem dX10_readHouse_24 : decode cX10_readHouse 24 = .ok (.aload_n 0, 1) := by decide +kernel
theorem dX10_readHouse_25 : decode cX10_readHouse 25 = .ok (.getfield 77, 3) := by decide +kernel
theorem dX10_readHouse_28 : decode cX10_readHouse 28 = .ok (.iload_n 1, 1) := by decide +kernel
theorem dX10_readHouse_29 : decode cX10_readHouse 29 = .ok (.invokevirtual 81, 3) := by decide +kernel
theorem dX10_readHouse_32 : decode cX10_readHouse 32 = .ok (.ifCond .eq 13, 3) := by decide +kernel
theorem dX10_readHouse_35 : decode cX10_readHouse 35 = .ok (.aload_n 0, 1) := by decide +kernel
theorem dX10_readHouse_36 : decode cX10_readHouse 36 = .ok (.iconst 0, 1) := by decide +kernel
theorem dX10_readHouse_37 : decode cX10_readHouse 37 = .ok (.bipush 99, 2) := by decide +kernel
theorem dX10_readHouse_39 : decode cX10_readHouse 39 = .ok (.invokevirtual 85, 3) := by decide +kernel
theorem dX10_readHouse_42 : decode cX10_readHouse 42 = .ok (.ifCond .ne 5, 3) := by decide +kernel
theorem dX10_readHouse_45 : decode cX10_readHouse 45 = .ok (.iconst 0, 1) := by decide +kernel
theorem dX10_readHouse_46 : decode cX10_readHouse 46 = .ok (.ireturn, 1) := by decide +kernel
theorem dX10_readHouse_47 : decode cX10_readHouse 47 = .ok (.aload_n 0, 1) := by decide +kernel
theorem dX10_readHouse_48 : decode cX10_readHouse 48 = .ok (.getfield 89, 3) := by decide +kernel
theorem dX10_readHouse_51 : decode cX10_readHouse 51 = .ok (.iload_n 1, 1) := by decide +kernel
theorem dX10_readHouse_52 : decode cX10_readHouse 52 = .ok (.aload_n 0, 1) := by decide +kernel
theorem dX10_readHouse_53 : decode cX10_readHouse 53 = .ok (.getfield 56, 3) := by decide +kernel
theorem dX10_readHouse_56 : decode cX10_readHouse 56 = .ok (.iastore, 1) := by decide +kernel
theorem dX10_readHouse_57 : decode cX10_readHouse 57 = .ok (.aload_n 0, 1) := by decide +kernel
theorem dX10_readHouse_58 : decode cX10_readHouse 58 = .ok (.iconst 0, 1) := by decide +kernel
theorem dX10_readHouse_59 : decode cX10_readHouse 59 = .ok (.bipush 20, 2) := by decide +kernel
theorem dX10_readHouse_61 : decode cX10_readHouse 61 = .ok (.invokevirtual 85, 3) := by decide +kernel
theorem dX10_readHouse_64 : decode cX10_readHouse 64 = .ok (.ifCond .ne 5, 3) := by decide +kernel
theorem dX10_readHouse_67 : decode cX10_readHouse 67 = .ok (.iconst 0, 1) := by decide +kernel
theorem dX10_readHouse_68 : decode cX10_readHouse 68 = .ok (.ireturn, 1) := by decide +kernel
theorem dX10_readHouse_69 : decode cX10_readHouse 69 = .ok (.aload_n 0, 1) := by decide +kernel
theorem dX10_readHouse_70 : decode cX10_readHouse 70 = .ok (.getfield 93, 3) := by decide +kernel
theorem dX10_readHouse_73 : decode cX10_readHouse 73 = .ok (.iload_n 1, 1) := by decide +kernel
theorem dX10_readHouse_74 : decode cX10_readHouse 74 = .ok (.aload_n 0, 1) := by decide +kernel
theorem dX10_readHouse_75 : decode cX10_readHouse 75 = .ok (.getfield 56, 3) := by decide +kernel
theorem dX10_readHouse_78 : decode cX10_readHouse 78 = .ok (.iastore, 1) := by decide +kernel
theorem dX10_readHouse_79 : decode cX10_readHouse 79 = .ok (.aload_n 0, 1) := by decide +kernel
theorem dX10_readHouse_80 : decode cX10_readHouse 80 = .ok (.iconst 0, 1) := by decide +kernel
theorem dX10_readHouse_81 : decode cX10_readHouse 81 = .ok (.bipush 100, 2) := by decide +kernel
theorem dX10_readHouse_83 : decode cX10_readHouse 83 = .ok (.invokevirtual 85, 3) := by decide +kernel
theorem dX10_readHouse_86 : decode cX10_readHouse 86 = .ok (.ifCond .ne 5, 3) := by decide +kernel
theorem dX10_readHouse_89 : decode cX10_readHouse 89 = .ok (.iconst 0, 1) := by decide +kernel
theorem dX10_readHouse_90 : decode cX10_readHouse 90 = .ok (.ireturn, 1) := by decide +kernel
theorem dX10_readHouse_91 : decode cX10_readHouse 91 = .ok (.aload_n 0, 1) := by decide +kernel
theorem dX10_readHouse_92 : decode cX10_readHouse 92 = .ok (.getfield 96, 3) := by decide +kernel
theorem dX10_readHouse_95 : decode cX10_readHouse 95 = .ok (.iload_n 1, 1) := by decide +kernel
theorem dX10_readHouse_96 : decode cX10_readHouse 96 = .ok (.aload_n 0, 1) := by decide +kernel
theorem dX10_readHouse_97 : decode cX10_readHouse 97 = .ok (.getfield 56, 3) := by decide +kernel
theorem dX10_readHouse_100 : decode cX10_readHouse 100 = .ok (.iastore, 1) := by decide +kernel
theorem dX10_readHouse_101 : decode cX10_readHouse 101 = .ok (.aload_n 0, 1) := by decide +kernel
theorem dX10_readHouse_102 : decode cX10_readHouse 102 = .ok (.getfield 99, 3) := by decide +kernel
theorem dX10_readHouse_105 : decode cX10_readHouse 105 = .ok (.iload_n 1, 1) := by decide +kernel
theorem dX10_readHouse_106 : decode cX10_readHouse 106 = .ok (.iconst (-1), 1) := by decide +kernel
theorem dX10_readHouse_107 : decode cX10_readHouse 107 = .ok (.iastore, 1) := by decide +kernel
theorem dX10_readHouse_108 : decode cX10_readHouse 108 = .ok (.aload_n 0, 1) := by decide +kernel
theorem dX10_readHouse_109 : decode cX10_readHouse 109 = .ok (.dup, 1) := by decide +kernel
theorem dX10_readHouse_110 : decode cX10_readHouse 110 = .ok (.getfield 74, 3) := by decide +kernel
theorem dX10_readHouse_113 : decode cX10_readHouse 113 = .ok (.iconst 1, 1) := by decide +kernel
theorem dX10_readHouse_114 : decode cX10_readHouse 114 = .ok (.iadd, 1) := by decide +kernel
theorem dX10_readHouse_115 : decode cX10_readHouse 115 = .ok (.putfield 74, 3) := by decide +kernel
theorem dX10_readHouse_118 : decode cX10_readHouse 118 = .ok (.iconst 1, 1) := by decide +kernel
theorem dX10_readHouse_119 : decode cX10_readHouse 119 = .ok (.ireturn, 1) := by decide +kernel
set_option maxRecDepth 20000 in
theorem dX10_readPerson_0 : decode cX10_readPerson 0 = .ok (.aload_n 0, 1) := by decide +kernel
theorem dX10_readPerson_1 : decode cX10_readPerson 1 = .ok (.getfield 102, 3) := by decide +kernel
theorem dX10_readPerson_4 : decode cX10_readPerson 4 = .ok (.iconst 5, 1) := by decide +kernel
theorem dX10_readPerson_5 : decode cX10_readPerson 5 = .ok (.if_icmp .ne 9, 3) := by decide +kernel
theorem dX10_readPerson_8 : decode cX10_readPerson 8 = .ok (.aload_n 0, 1) := by decide +kernel
theorem dX10_readPerson_9 : decode cX10_readPerson 9 = .ok (.iconst 4, 1) := by decide +kernel
theorem dX10_readPerson_10 : decode cX10_readPerson 10 = .ok (.invokevirtual 49, 3) := by decide +kernel
theorem dX10_readPerson_13 : decode cX10_readPerson 13 = .ok (.ireturn, 1) := by decide +kernel
theorem dX10_readPerson_14 : decode cX10_readPerson 14 = .ok (.aload_n 0, 1) := by decide +kernel
theorem dX10_readPerson_15 : decode cX10_readPerson 15 = .ok (.invokevirtual 59, 3) := by decide +kernel
theorem dX10_readPerson_18 : decode cX10_readPerson 18 = .ok (.aload_n 0, 1) := by decide +kernel
theorem dX10_readPerson_19 : decode cX10_readPerson 19 = .ok (.getfield 102, 3) := by decide +kernel
theorem dX10_readPerson_22 : decode cX10_readPerson 22 = .ok (.istore_n 1, 1) := by decide +kernel
theorem dX10_readPerson_23 : decode cX10_readPerson 23 = .ok (.aload_n 0, 1) := by decide +kernel
theorem dX10_readPerson_24 : decode cX10_readPerson 24 = .ok (.aload_n 0, 1) := by decide +kernel
theorem dX10_readPerson_25 : decode cX10_readPerson 25 = .ok (.getfield 105, 3) := by decide +kernel
theorem dX10_readPerson_28 : decode cX10_readPerson 28 = .ok (.iload_n 1, 1) := by decide +kernel
theorem dX10_readPerson_29 : decode cX10_readPerson 29 = .ok (.invokevirtual 81, 3) := by decide +kernel
theorem dX10_readPerson_32 : decode cX10_readPerson 32 = .ok (.ifCond .ne 5, 3) := by decide +kernel
theorem dX10_readPerson_35 : decode cX10_readPerson 35 = .ok (.iconst 0, 1) := by decide +kernel
theorem dX10_readPerson_36 : decode cX10_readPerson 36 = .ok (.ireturn, 1) := by decide +kernel
theorem dX10_readPerson_37 : decode cX10_readPerson 37 = .ok (.aload_n 0, 1) := by decide +kernel
theorem dX10_readPerson_38 : decode cX10_readPerson 38 = .ok (.getfield 108, 3) := by decide +kernel
theorem dX10_readPerson_41 : decode cX10_readPerson 41 = .ok (.iload_n 1, 1) := by decide +kernel
theorem dX10_readPerson_42 : decode cX10_readPerson 42 = .ok (.iconst (-1), 1) := by decide +kernel
theorem dX10_readPerson_43 : decode cX10_readPerson 43 = .ok (.iastore, 1) := by decide +kernel
theorem dX10_readPerson_44 : decode cX10_readPerson 44 = .ok (.aload_n 0, 1) := by decide +kernel
theorem dX10_readPerson_45 : decode cX10_readPerson 45 = .ok (.getfield 111, 3) := by decide +kernel
theorem dX10_readPerson_48 : decode cX10_readPerson 48 = .ok (.iload_n 1, 1) := by decide +kernel
theorem dX10_readPerson_49 : decode cX10_readPerson 49 = .ok (.iconst 0, 1) := by decide +kernel
theorem dX10_readPerson_50 : decode cX10_readPerson 50 = .ok (.iastore, 1) := by decide +kernel
theorem dX10_readPerson_51 : decode cX10_readPerson 51 = .ok (.iconst 0, 1) := by decide +kernel
theorem dX10_readPerson_52 : decode cX10_readPerson 52 = .ok (.istore_n 2, 1) := by decide +kernel
theorem dX10_readPerson_53 : decode cX10_readPerson 53 = .ok (.iload_n 2, 1) := by decide +kernel
theorem dX10_readPerson_54 : decode cX10_readPerson 54 = .ok (.iconst 5, 1) := by decide +kernel
theorem dX10_readPerson_55 : decode cX10_readPerson 55 = .ok (.if_icmp .ge 38, 3) := by decide +kernel
theorem dX10_readPerson_58 : decode cX10_readPerson 58 = .ok (.aload_n 0, 1) := by decide +kernel
theorem dX10_readPerson_59 : decode cX10_readPerson 59 = .ok (.getfield 114, 3) := by decide +kernel
theorem dX10_readPerson_62 : decode cX10_readPerson 62 = .ok (.iconst 5, 1) := by decide +kernel
theorem dX10_readPerson_63 : decode cX10_readPerson 63 = .ok (.iload_n 1, 1) := by decide +kernel
theorem dX10_readPerson_64 : decode cX10_readPerson 64 = .ok (.imul, 1) := by decide +kernel
theorem dX10_readPerson_65 : decode cX10_readPerson 65 = .ok (.iload_n 2, 1) := by decide +kernel
theorem dX10_readPerson_66 : decode cX10_readPerson 66 = .ok (.iadd, 1) := by decide +kernel
theorem dX10_readPerson_67 : decode cX10_readPerson 67 = .ok (.iconst 0, 1) := by decide +kernel
theorem dX10_readPerson_68 : decode cX10_readPerson 68 = .ok (.iastore, 1) := by decide +kernel
theorem dX10_readPerson_69 : decode cX10_readPerson 69 = .ok (.aload_n 0, 1) := by decide +kernel
theorem dX10_readPerson_70 : decode cX10_readPerson 70 = .ok (.dup, 1) := by decide +kernel
theorem dX10_readPerson_71 : decode cX10_readPerson 71 = .ok (.getfield 117, 3) := by decide +kernel
theorem dX10_readPerson_74 : decode cX10_readPerson 74 = .ok (.iconst 1, 1) := by decide +kernel
theorem dX10_readPerson_75 : decode cX10_readPerson 75 = .ok (.iconst 5, 1) := by decide +kernel
theorem dX10_readPerson_76 : decode cX10_readPerson 76 = .ok (.iload_n 1, 1) := by decide +kernel
theorem dX10_readPerson_77 : decode cX10_readPerson 77 = .ok (.imul, 1) := by decide +kernel
theorem dX10_readPerson_78 : decode cX10_readPerson 78 = .ok (.iload_n 2, 1) := by decide +kernel
theorem dX10_readPerson_79 : decode cX10_readPerson 79 = .ok (.iadd, 1) := by decide +kernel
theorem dX10_readPerson_80 : decode cX10_readPerson 80 = .ok (.ishl, 1) := by decide +kernel
theorem dX10_readPerson_81 : decode cX10_readPerson 81 = .ok (.iconst (-1), 1) := by decide +kernel
theorem dX10_readPerson_82 : decode cX10_readPerson 82 = .ok (.ixor, 1) := by decide +kernel
theorem dX10_readPerson_83 : decode cX10_readPerson 83 = .ok (.iand, 1) := by decide +kernel
theorem dX10_readPerson_84 : decode cX10_readPerson 84 = .ok (.putfield 117, 3) := by decide +kernel
theorem dX10_readPerson_87 : decode cX10_readPerson 87 = .ok (.iinc 2 1, 3) := by decide +kernel
theorem dX10_readPerson_90 : decode cX10_readPerson 90 = .ok (.goto (-37), 3) := by decide +kernel
theorem dX10_readPerson_93 : decode cX10_readPerson 93 = .ok (.aload_n 0, 1) := by decide +kernel
theorem dX10_readPerson_94 : decode cX10_readPerson 94 = .ok (.ldc 120, 2) := by decide +kernel
theorem dX10_readPerson_96 : decode cX10_readPerson 96 = .ok (.invokevirtual 122, 3) := by decide +kernel
theorem dX10_readPerson_99 : decode cX10_readPerson 99 = .ok (.ifCond .eq 84, 3) := by decide +kernel
theorem dX10_readPerson_102 : decode cX10_readPerson 102 = .ok (.aload_n 0, 1) := by decide +kernel
theorem dX10_readPerson_103 : decode cX10_readPerson 103 = .ok (.invokevirtual 59, 3) := by decide +kernel
theorem dX10_readPerson_106 : decode cX10_readPerson 106 = .ok (.aload_n 0, 1) := by decide +kernel
theorem dX10_readPerson_107 : decode cX10_readPerson 107 = .ok (.getfield 27, 3) := by decide +kernel
theorem dX10_readPerson_110 : decode cX10_readPerson 110 = .ok (.iconst 1, 1) := by decide +kernel
theorem dX10_readPerson_111 : decode cX10_readPerson 111 = .ok (.if_icmp .eq 9, 3) := by decide +kernel
theorem dX10_readPerson_114 : decode cX10_readPerson 114 = .ok (.aload_n 0, 1) := by decide +kernel
theorem dX10_readPerson_115 : decode cX10_readPerson 115 = .ok (.iconst 1, 1) := by decide +kernel
theorem dX10_readPerson_116 : decode cX10_readPerson 116 = .ok (.invokevirtual 49, 3) := by decide +kernel
theorem dX10_readPerson_119 : decode cX10_readPerson 119 = .ok (.ireturn, 1) := by decide +kernel
theorem dX10_readPerson_120 : decode cX10_readPerson 120 = .ok (.aload_n 0, 1) := by decide +kernel
theorem dX10_readPerson_121 : decode cX10_readPerson 121 = .ok (.aload_n 0, 1) := by decide +kernel
theorem dX10_readPerson_122 : decode cX10_readPerson 122 = .ok (.getfield 77, 3) := by decide +kernel
theorem dX10_readPerson_125 : decode cX10_readPerson 125 = .ok (.aload_n 0, 1) := by decide +kernel
theorem dX10_readPerson_126 : decode cX10_readPerson 126 = .ok (.getfield 74, 3) := by decide +kernel
theorem dX10_readPerson_129 : decode cX10_readPerson 129 = .ok (.invokevirtual 67, 3) := by decide +kernel
theorem dX10_readPerson_132 : decode cX10_readPerson 132 = .ok (.istore_n 2, 1) := by decide +kernel
theorem dX10_readPerson_133 : decode cX10_readPerson 133 = .ok (.iload_n 2, 1) := by decide +kernel
theorem dX10_readPerson_134 : decode cX10_readPerson 134 = .ok (.iconst (-1), 1) := by decide +kernel
theorem dX10_readPerson_135 : decode cX10_readPerson 135 = .ok (.if_icmp .eq 19, 3) := by decide +kernel
theorem dX10_readPerson_138 : decode cX10_readPerson 138 = .ok (.aload_n 0, 1) := by decide +kernel
theorem dX10_readPerson_139 : decode cX10_readPerson 139 = .ok (.getfield 99, 3) := by decide +kernel
theorem dX10_readPerson_142 : decode cX10_readPerson 142 = .ok (.iload_n 2, 1) := by decide +kernel
theorem dX10_readPerson_143 : decode cX10_readPerson 143 = .ok (.iaload, 1) := by decide +kernel
theorem dX10_readPerson_144 : decode cX10_readPerson 144 = .ok (.iconst (-1), 1) := by decide +kernel
theorem dX10_readPerson_145 : decode cX10_readPerson 145 = .ok (.if_icmp .eq 9, 3) := by decide +kernel
theorem dX10_readPerson_148 : decode cX10_readPerson 148 = .ok (.aload_n 0, 1) := by decide +kernel
theorem dX10_readPerson_149 : decode cX10_readPerson 149 = .ok (.iconst 3, 1) := by decide +kernel
theorem dX10_readPerson_150 : decode cX10_readPerson 150 = .ok (.invokevirtual 49, 3) := by decide +kernel
theorem dX10_readPerson_153 : decode cX10_readPerson 153 = .ok (.ireturn, 1) := by decide +kernel
theorem dX10_readPerson_154 : decode cX10_readPerson 154 = .ok (.iload_n 2, 1) := by decide +kernel
theorem dX10_readPerson_155 : decode cX10_readPerson 155 = .ok (.iconst (-1), 1) := by decide +kernel
theorem dX10_readPerson_156 : decode cX10_readPerson 156 = .ok (.if_icmp .ne 9, 3) := by decide +kernel
theorem dX10_readPerson_159 : decode cX10_readPerson 159 = .ok (.aload_n 0, 1) := by decide +kernel
theorem dX10_readPerson_160 : decode cX10_readPerson 160 = .ok (.iconst 5, 1) := by decide +kernel
theorem dX10_readPerson_161 : decode cX10_readPerson 161 = .ok (.invokevirtual 49, 3) := by decide +kernel
theorem dX10_readPerson_164 : decode cX10_readPerson 164 = .ok (.ireturn, 1) := by decide +kernel
theorem dX10_readPerson_165 : decode cX10_readPerson 165 = .ok (.aload_n 0, 1) := by decide +kernel
theorem dX10_readPerson_166 : decode cX10_readPerson 166 = .ok (.getfield 99, 3) := by decide +kernel
theorem dX10_readPerson_169 : decode cX10_readPerson 169 = .ok (.iload_n 2, 1) := by decide +kernel
theorem dX10_readPerson_170 : decode cX10_readPerson 170 = .ok (.iload_n 1, 1) := by decide +kernel
theorem dX10_readPerson_171 : decode cX10_readPerson 171 = .ok (.iastore, 1) := by decide +kernel
theorem dX10_readPerson_172 : decode cX10_readPerson 172 = .ok (.aload_n 0, 1) := by decide +kernel
theorem dX10_readPerson_173 : decode cX10_readPerson 173 = .ok (.getfield 108, 3) := by decide +kernel
theorem dX10_readPerson_176 : decode cX10_readPerson 176 = .ok (.iload_n 1, 1) := by decide +kernel
theorem dX10_readPerson_177 : decode cX10_readPerson 177 = .ok (.iload_n 2, 1) := by decide +kernel
theorem dX10_readPerson_178 : decode cX10_readPerson 178 = .ok (.iastore, 1) := by decide +kernel
theorem dX10_readPerson_179 : decode cX10_readPerson 179 = .ok (.aload_n 0, 1) := by decide +kernel
theorem dX10_readPerson_180 : decode cX10_readPerson 180 = .ok (.invokevirtual 59, 3) := by decide +kernel
theorem dX10_readPerson_183 : decode cX10_readPerson 183 = .ok (.aload_n 0, 1) := by decide +kernel
theorem dX10_readPerson_184 : decode cX10_readPerson 184 = .ok (.dup, 1) := by decide +kernel
theorem dX10_readPerson_185 : decode cX10_readPerson 185 = .ok (.getfield 102, 3) := by decide +kernel
theorem dX10_readPerson_188 : decode cX10_readPerson 188 = .ok (.iconst 1, 1) := by decide +kernel
theorem dX10_readPerson_189 : decode cX10_readPerson 189 = .ok (.iadd, 1) := by decide +kernel
theorem dX10_readPerson_190 : decode cX10_readPerson 190 = .ok (.putfield 102, 3) := by decide +kernel
theorem dX10_readPerson_193 : decode cX10_readPerson 193 = .ok (.iconst 1, 1) := by decide +kernel
theorem dX10_readPerson_194 : decode cX10_readPerson 194 = .ok (.ireturn, 1) := by decide +kernel
set_option maxRecDepth 20000 in
theorem dX10_readTies_0 : decode cX10_readTies 0 = .ok (.aload_n 0, 1) := by decide +kernel
theorem dX10_readTies_1 : decode cX10_readTies 1 = .ok (.invokevirtual 59, 3) := by decide +kernel
theorem dX10_readTies_4 : decode cX10_readTies 4 = .ok (.aload_n 0, 1) := by decide +kernel
theorem dX10_readTies_5 : decode cX10_readTies 5 = .ok (.aload_n 0, 1) := by decide +kernel
theorem dX10_readTies_6 : decode cX10_readTies 6 = .ok (.getfield 105, 3) := by decide +kernel
theorem dX10_readTies_9 : decode cX10_readTies 9 = .ok (.aload_n 0, 1) := by decide +kernel
theorem dX10_readTies_10 : decode cX10_readTies 10 = .ok (.getfield 102, 3) := by decide +kernel
theorem dX10_readTies_13 : decode cX10_readTies 13 = .ok (.invokevirtual 126, 3) := by decide +kernel
theorem dX10_readTies_16 : decode cX10_readTies 16 = .ok (.ifCond .ne 5, 3) := by decide +kernel
theorem dX10_readTies_19 : decode cX10_readTies 19 = .ok (.iconst 0, 1) := by decide +kernel
theorem dX10_readTies_20 : decode cX10_readTies 20 = .ok (.ireturn, 1) := by decide +kernel
theorem dX10_readTies_21 : decode cX10_readTies 21 = .ok (.aload_n 0, 1) := by decide +kernel
theorem dX10_readTies_22 : decode cX10_readTies 22 = .ok (.getfield 56, 3) := by decide +kernel
theorem dX10_readTies_25 : decode cX10_readTies 25 = .ok (.istore_n 1, 1) := by decide +kernel
theorem dX10_readTies_26 : decode cX10_readTies 26 = .ok (.aload_n 0, 1) := by decide +kernel
theorem dX10_readTies_27 : decode cX10_readTies 27 = .ok (.getfield 27, 3) := by decide +kernel
theorem dX10_readTies_30 : decode cX10_readTies 30 = .ok (.iconst 1, 1) := by decide +kernel
theorem dX10_readTies_31 : decode cX10_readTies 31 = .ok (.if_icmp .eq 9, 3) := by decide +kernel
theorem dX10_readTies_34 : decode cX10_readTies 34 = .ok (.aload_n 0, 1) := by decide +kernel
theorem dX10_readTies_35 : decode cX10_readTies 35 = .ok (.iconst 1, 1) := by decide +kernel
theorem dX10_readTies_36 : decode cX10_readTies 36 = .ok (.invokevirtual 49, 3) := by decide +kernel
theorem dX10_readTies_39 : decode cX10_readTies 39 = .ok (.ireturn, 1) := by decide +kernel
theorem dX10_readTies_40 : decode cX10_readTies 40 = .ok (.aload_n 0, 1) := by decide +kernel
theorem dX10_readTies_41 : decode cX10_readTies 41 = .ok (.aload_n 0, 1) := by decide +kernel
theorem dX10_readTies_42 : decode cX10_readTies 42 = .ok (.getfield 105, 3) := by decide +kernel
theorem dX10_readTies_45 : decode cX10_readTies 45 = .ok (.aload_n 0, 1) := by decide +kernel
theorem dX10_readTies_46 : decode cX10_readTies 46 = .ok (.getfield 102, 3) := by decide +kernel
theorem dX10_readTies_49 : decode cX10_readTies 49 = .ok (.invokevirtual 67, 3) := by decide +kernel
theorem dX10_readTies_52 : decode cX10_readTies 52 = .ok (.istore_n 2, 1) := by decide +kernel
theorem dX10_readTies_53 : decode cX10_readTies 53 = .ok (.iload_n 2, 1) := by decide +kernel
theorem dX10_readTies_54 : decode cX10_readTies 54 = .ok (.iconst (-1), 1) := by decide +kernel
theorem dX10_readTies_55 : decode cX10_readTies 55 = .ok (.if_icmp .eq 30, 3) := by decide +kernel
theorem dX10_readTies_58 : decode cX10_readTies 58 = .ok (.iload_n 2, 1) := by decide +kernel
theorem dX10_readTies_59 : decode cX10_readTies 59 = .ok (.iload_n 1, 1) := by decide +kernel
theorem dX10_readTies_60 : decode cX10_readTies 60 = .ok (.if_icmp .eq 19, 3) := by decide +kernel
theorem dX10_readTies_63 : decode cX10_readTies 63 = .ok (.aload_n 0, 1) := by decide +kernel
theorem dX10_readTies_64 : decode cX10_readTies 64 = .ok (.getfield 117, 3) := by decide +kernel
theorem dX10_readTies_67 : decode cX10_readTies 67 = .ok (.iconst 5, 1) := by decide +kernel
theorem dX10_readTies_68 : decode cX10_readTies 68 = .ok (.iload_n 1, 1) := by decide +kernel
theorem dX10_readTies_69 : decode cX10_readTies 69 = .ok (.imul, 1) := by decide +kernel
theorem dX10_readTies_70 : decode cX10_readTies 70 = .ok (.iload_n 2, 1) := by decide +kernel
theorem dX10_readTies_71 : decode cX10_readTies 71 = .ok (.iadd, 1) := by decide +kernel
theorem dX10_readTies_72 : decode cX10_readTies 72 = .ok (.ishr, 1) := by decide +kernel
theorem dX10_readTies_73 : decode cX10_readTies 73 = .ok (.iconst 1, 1) := by decide +kernel
theorem dX10_readTies_74 : decode cX10_readTies 74 = .ok (.iand, 1) := by decide +kernel
theorem dX10_readTies_75 : decode cX10_readTies 75 = .ok (.iconst 1, 1) := by decide +kernel
theorem dX10_readTies_76 : decode cX10_readTies 76 = .ok (.if_icmp .ne 9, 3) := by decide +kernel
theorem dX10_readTies_79 : decode cX10_readTies 79 = .ok (.aload_n 0, 1) := by decide +kernel
theorem dX10_readTies_80 : decode cX10_readTies 80 = .ok (.iconst 3, 1) := by decide +kernel
theorem dX10_readTies_81 : decode cX10_readTies 81 = .ok (.invokevirtual 49, 3) := by decide +kernel
theorem dX10_readTies_84 : decode cX10_readTies 84 = .ok (.ireturn, 1) := by decide +kernel
theorem dX10_readTies_85 : decode cX10_readTies 85 = .ok (.iload_n 2, 1) := by decide +kernel
theorem dX10_readTies_86 : decode cX10_readTies 86 = .ok (.iconst (-1), 1) := by decide +kernel
theorem dX10_readTies_87 : decode cX10_readTies 87 = .ok (.if_icmp .ne 9, 3) := by decide +kernel
theorem dX10_readTies_90 : decode cX10_readTies 90 = .ok (.aload_n 0, 1) := by decide +kernel
theorem dX10_readTies_91 : decode cX10_readTies 91 = .ok (.iconst 5, 1) := by decide +kernel
theorem dX10_readTies_92 : decode cX10_readTies 92 = .ok (.invokevirtual 49, 3) := by decide +kernel
theorem dX10_readTies_95 : decode cX10_readTies 95 = .ok (.ireturn, 1) := by decide +kernel
theorem dX10_readTies_96 : decode cX10_readTies 96 = .ok (.aload_n 0, 1) := by decide +kernel
theorem dX10_readTies_97 : decode cX10_readTies 97 = .ok (.dup, 1) := by decide +kernel
theorem dX10_readTies_98 : decode cX10_readTies 98 = .ok (.getfield 117, 3) := by decide +kernel
theorem dX10_readTies_101 : decode cX10_readTies 101 = .ok (.iconst 1, 1) := by decide +kernel
theorem dX10_readTies_102 : decode cX10_readTies 102 = .ok (.iconst 5, 1) := by decide +kernel
theorem dX10_readTies_103 : decode cX10_readTies 103 = .ok (.iload_n 1, 1) := by decide +kernel
theorem dX10_readTies_104 : decode cX10_readTies 104 = .ok (.imul, 1) := by decide +kernel
theorem dX10_readTies_105 : decode cX10_readTies 105 = .ok (.iload_n 2, 1) := by decide +kernel
theorem dX10_readTies_106 : decode cX10_readTies 106 = .ok (.iadd, 1) := by decide +kernel
theorem dX10_readTies_107 : decode cX10_readTies 107 = .ok (.ishl, 1) := by decide +kernel
theorem dX10_readTies_108 : decode cX10_readTies 108 = .ok (.ior, 1) := by decide +kernel
theorem dX10_readTies_109 : decode cX10_readTies 109 = .ok (.putfield 117, 3) := by decide +kernel
theorem dX10_readTies_112 : decode cX10_readTies 112 = .ok (.aload_n 0, 1) := by decide +kernel
theorem dX10_readTies_113 : decode cX10_readTies 113 = .ok (.invokevirtual 59, 3) := by decide +kernel
theorem dX10_readTies_116 : decode cX10_readTies 116 = .ok (.aload_n 0, 1) := by decide +kernel
theorem dX10_readTies_117 : decode cX10_readTies 117 = .ok (.iconst 0, 1) := by decide +kernel
theorem dX10_readTies_118 : decode cX10_readTies 118 = .ok (.bipush 20, 2) := by decide +kernel
theorem dX10_readTies_120 : decode cX10_readTies 120 = .ok (.invokevirtual 85, 3) := by decide +kernel
theorem dX10_readTies_123 : decode cX10_readTies 123 = .ok (.ifCond .ne 5, 3) := by decide +kernel
theorem dX10_readTies_126 : decode cX10_readTies 126 = .ok (.iconst 0, 1) := by decide +kernel
theorem dX10_readTies_127 : decode cX10_readTies 127 = .ok (.ireturn, 1) := by decide +kernel
theorem dX10_readTies_128 : decode cX10_readTies 128 = .ok (.aload_n 0, 1) := by decide +kernel
theorem dX10_readTies_129 : decode cX10_readTies 129 = .ok (.getfield 114, 3) := by decide +kernel
theorem dX10_readTies_132 : decode cX10_readTies 132 = .ok (.iconst 5, 1) := by decide +kernel
theorem dX10_readTies_133 : decode cX10_readTies 133 = .ok (.iload_n 1, 1) := by decide +kernel
theorem dX10_readTies_134 : decode cX10_readTies 134 = .ok (.imul, 1) := by decide +kernel
theorem dX10_readTies_135 : decode cX10_readTies 135 = .ok (.iload_n 2, 1) := by decide +kernel
theorem dX10_readTies_136 : decode cX10_readTies 136 = .ok (.iadd, 1) := by decide +kernel
theorem dX10_readTies_137 : decode cX10_readTies 137 = .ok (.aload_n 0, 1) := by decide +kernel
theorem dX10_readTies_138 : decode cX10_readTies 138 = .ok (.getfield 56, 3) := by decide +kernel
theorem dX10_readTies_141 : decode cX10_readTies 141 = .ok (.bipush 10, 2) := by decide +kernel
theorem dX10_readTies_143 : decode cX10_readTies 143 = .ok (.isub, 1) := by decide +kernel
theorem dX10_readTies_144 : decode cX10_readTies 144 = .ok (.iastore, 1) := by decide +kernel
theorem dX10_readTies_145 : decode cX10_readTies 145 = .ok (.iconst 1, 1) := by decide +kernel
theorem dX10_readTies_146 : decode cX10_readTies 146 = .ok (.ireturn, 1) := by decide +kernel
set_option maxRecDepth 20000 in
theorem dX10_readWorks_0 : decode cX10_readWorks 0 = .ok (.aload_n 0, 1) := by decide +kernel
theorem dX10_readWorks_1 : decode cX10_readWorks 1 = .ok (.invokevirtual 59, 3) := by decide +kernel
theorem dX10_readWorks_4 : decode cX10_readWorks 4 = .ok (.aload_n 0, 1) := by decide +kernel
theorem dX10_readWorks_5 : decode cX10_readWorks 5 = .ok (.getfield 27, 3) := by decide +kernel
theorem dX10_readWorks_8 : decode cX10_readWorks 8 = .ok (.iconst 1, 1) := by decide +kernel
theorem dX10_readWorks_9 : decode cX10_readWorks 9 = .ok (.if_icmp .eq 9, 3) := by decide +kernel
theorem dX10_readWorks_12 : decode cX10_readWorks 12 = .ok (.aload_n 0, 1) := by decide +kernel
theorem dX10_readWorks_13 : decode cX10_readWorks 13 = .ok (.iconst 1, 1) := by decide +kernel
theorem dX10_readWorks_14 : decode cX10_readWorks 14 = .ok (.invokevirtual 49, 3) := by decide +kernel
theorem dX10_readWorks_17 : decode cX10_readWorks 17 = .ok (.ireturn, 1) := by decide +kernel
theorem dX10_readWorks_18 : decode cX10_readWorks 18 = .ok (.aload_n 0, 1) := by decide +kernel
theorem dX10_readWorks_19 : decode cX10_readWorks 19 = .ok (.aload_n 0, 1) := by decide +kernel
theorem dX10_readWorks_20 : decode cX10_readWorks 20 = .ok (.getfield 105, 3) := by decide +kernel
theorem dX10_readWorks_23 : decode cX10_readWorks 23 = .ok (.aload_n 0, 1) := by decide +kernel
theorem dX10_readWorks_24 : decode cX10_readWorks 24 = .ok (.getfield 102, 3) := by decide +kernel
theorem dX10_readWorks_27 : decode cX10_readWorks 27 = .ok (.invokevirtual 67, 3) := by decide +kernel
theorem dX10_readWorks_30 : decode cX10_readWorks 30 = .ok (.istore_n 1, 1) := by decide +kernel
theorem dX10_readWorks_31 : decode cX10_readWorks 31 = .ok (.iload_n 1, 1) := by decide +kernel
theorem dX10_readWorks_32 : decode cX10_readWorks 32 = .ok (.iconst (-1), 1) := by decide +kernel
theorem dX10_readWorks_33 : decode cX10_readWorks 33 = .ok (.if_icmp .eq 18, 3) := by decide +kernel
theorem dX10_readWorks_36 : decode cX10_readWorks 36 = .ok (.aload_n 0, 1) := by decide +kernel
theorem dX10_readWorks_37 : decode cX10_readWorks 37 = .ok (.getfield 111, 3) := by decide +kernel
theorem dX10_readWorks_40 : decode cX10_readWorks 40 = .ok (.iload_n 1, 1) := by decide +kernel
theorem dX10_readWorks_41 : decode cX10_readWorks 41 = .ok (.iaload, 1) := by decide +kernel
theorem dX10_readWorks_42 : decode cX10_readWorks 42 = .ok (.ifCond .eq 9, 3) := by decide +kernel
theorem dX10_readWorks_45 : decode cX10_readWorks 45 = .ok (.aload_n 0, 1) := by decide +kernel
theorem dX10_readWorks_46 : decode cX10_readWorks 46 = .ok (.iconst 3, 1) := by decide +kernel
theorem dX10_readWorks_47 : decode cX10_readWorks 47 = .ok (.invokevirtual 49, 3) := by decide +kernel
theorem dX10_readWorks_50 : decode cX10_readWorks 50 = .ok (.ireturn, 1) := by decide +kernel
theorem dX10_readWorks_51 : decode cX10_readWorks 51 = .ok (.iload_n 1, 1) := by decide +kernel
theorem dX10_readWorks_52 : decode cX10_readWorks 52 = .ok (.iconst (-1), 1) := by decide +kernel
theorem dX10_readWorks_53 : decode cX10_readWorks 53 = .ok (.if_icmp .ne 9, 3) := by decide +kernel
theorem dX10_readWorks_56 : decode cX10_readWorks 56 = .ok (.aload_n 0, 1) := by decide +kernel
theorem dX10_readWorks_57 : decode cX10_readWorks 57 = .ok (.iconst 5, 1) := by decide +kernel
theorem dX10_readWorks_58 : decode cX10_readWorks 58 = .ok (.invokevirtual 49, 3) := by decide +kernel
theorem dX10_readWorks_61 : decode cX10_readWorks 61 = .ok (.ireturn, 1) := by decide +kernel
theorem dX10_readWorks_62 : decode cX10_readWorks 62 = .ok (.aload_n 0, 1) := by decide +kernel
theorem dX10_readWorks_63 : decode cX10_readWorks 63 = .ok (.invokevirtual 59, 3) := by decide +kernel
theorem dX10_readWorks_66 : decode cX10_readWorks 66 = .ok (.aload_n 0, 1) := by decide +kernel
theorem dX10_readWorks_67 : decode cX10_readWorks 67 = .ok (.iconst 1, 1) := by decide +kernel
theorem dX10_readWorks_68 : decode cX10_readWorks 68 = .ok (.bipush 15, 2) := by decide +kernel
theorem dX10_readWorks_70 : decode cX10_readWorks 70 = .ok (.invokevirtual 85, 3) := by decide +kernel
theorem dX10_readWorks_73 : decode cX10_readWorks 73 = .ok (.ifCond .ne 5, 3) := by decide +kernel
theorem dX10_readWorks_76 : decode cX10_readWorks 76 = .ok (.iconst 0, 1) := by decide +kernel
theorem dX10_readWorks_77 : decode cX10_readWorks 77 = .ok (.ireturn, 1) := by decide +kernel
theorem dX10_readWorks_78 : decode cX10_readWorks 78 = .ok (.aload_n 0, 1) := by decide +kernel
theorem dX10_readWorks_79 : decode cX10_readWorks 79 = .ok (.getfield 111, 3) := by decide +kernel
theorem dX10_readWorks_82 : decode cX10_readWorks 82 = .ok (.iload_n 1, 1) := by decide +kernel
theorem dX10_readWorks_83 : decode cX10_readWorks 83 = .ok (.aload_n 0, 1) := by decide +kernel
theorem dX10_readWorks_84 : decode cX10_readWorks 84 = .ok (.getfield 56, 3) := by decide +kernel
theorem dX10_readWorks_87 : decode cX10_readWorks 87 = .ok (.iastore, 1) := by decide +kernel
theorem dX10_readWorks_88 : decode cX10_readWorks 88 = .ok (.iconst 1, 1) := by decide +kernel
theorem dX10_readWorks_89 : decode cX10_readWorks 89 = .ok (.ireturn, 1) := by decide +kernel
set_option maxRecDepth 20000 in
theorem dX10_wordAt_0 : decode cX10_wordAt 0 = .ok (.aload_n 0, 1) := by decide +kernel
theorem dX10_wordAt_1 : decode cX10_wordAt 1 = .ok (.ldc 129, 2) := by decide +kernel
theorem dX10_wordAt_3 : decode cX10_wordAt 3 = .ok (.invokevirtual 122, 3) := by decide +kernel
theorem dX10_wordAt_6 : decode cX10_wordAt 6 = .ok (.ifCond .eq 7, 3) := by decide +kernel
theorem dX10_wordAt_9 : decode cX10_wordAt 9 = .ok (.iconst 0, 1) := by decide +kernel
theorem dX10_wordAt_10 : decode cX10_wordAt 10 = .ok (.goto 83, 3) := by decide +kernel
theorem dX10_wordAt_13 : decode cX10_wordAt 13 = .ok (.aload_n 0, 1) := by decide +kernel
theorem dX10_wordAt_14 : decode cX10_wordAt 14 = .ok (.ldc 131, 2) := by decide +kernel
theorem dX10_wordAt_16 : decode cX10_wordAt 16 = .ok (.invokevirtual 122, 3) := by decide +kernel
theorem dX10_wordAt_19 : decode cX10_wordAt 19 = .ok (.ifCond .eq 7, 3) := by decide +kernel
theorem dX10_wordAt_22 : decode cX10_wordAt 22 = .ok (.iconst 1, 1) := by decide +kernel
theorem dX10_wordAt_23 : decode cX10_wordAt 23 = .ok (.goto 70, 3) := by decide +kernel
theorem dX10_wordAt_26 : decode cX10_wordAt 26 = .ok (.aload_n 0, 1) := by decide +kernel
theorem dX10_wordAt_27 : decode cX10_wordAt 27 = .ok (.ldc 133, 2) := by decide +kernel
theorem dX10_wordAt_29 : decode cX10_wordAt 29 = .ok (.invokevirtual 122, 3) := by decide +kernel
theorem dX10_wordAt_32 : decode cX10_wordAt 32 = .ok (.ifCond .eq 7, 3) := by decide +kernel
theorem dX10_wordAt_35 : decode cX10_wordAt 35 = .ok (.iconst 2, 1) := by decide +kernel
theorem dX10_wordAt_36 : decode cX10_wordAt 36 = .ok (.goto 57, 3) := by decide +kernel
theorem dX10_wordAt_39 : decode cX10_wordAt 39 = .ok (.aload_n 0, 1) := by decide +kernel
theorem dX10_wordAt_40 : decode cX10_wordAt 40 = .ok (.ldc 135, 2) := by decide +kernel
theorem dX10_wordAt_42 : decode cX10_wordAt 42 = .ok (.invokevirtual 122, 3) := by decide +kernel
theorem dX10_wordAt_45 : decode cX10_wordAt 45 = .ok (.ifCond .eq 7, 3) := by decide +kernel
theorem dX10_wordAt_48 : decode cX10_wordAt 48 = .ok (.iconst 3, 1) := by decide +kernel
theorem dX10_wordAt_49 : decode cX10_wordAt 49 = .ok (.goto 44, 3) := by decide +kernel
theorem dX10_wordAt_52 : decode cX10_wordAt 52 = .ok (.aload_n 0, 1) := by decide +kernel
theorem dX10_wordAt_53 : decode cX10_wordAt 53 = .ok (.ldc 137, 2) := by decide +kernel
theorem dX10_wordAt_55 : decode cX10_wordAt 55 = .ok (.invokevirtual 122, 3) := by decide +kernel
theorem dX10_wordAt_58 : decode cX10_wordAt 58 = .ok (.ifCond .eq 7, 3) := by decide +kernel
theorem dX10_wordAt_61 : decode cX10_wordAt 61 = .ok (.iconst 4, 1) := by decide +kernel
theorem dX10_wordAt_62 : decode cX10_wordAt 62 = .ok (.goto 31, 3) := by decide +kernel
theorem dX10_wordAt_65 : decode cX10_wordAt 65 = .ok (.aload_n 0, 1) := by decide +kernel
theorem dX10_wordAt_66 : decode cX10_wordAt 66 = .ok (.ldc 139, 2) := by decide +kernel
theorem dX10_wordAt_68 : decode cX10_wordAt 68 = .ok (.invokevirtual 122, 3) := by decide +kernel
theorem dX10_wordAt_71 : decode cX10_wordAt 71 = .ok (.ifCond .eq 7, 3) := by decide +kernel
theorem dX10_wordAt_74 : decode cX10_wordAt 74 = .ok (.iconst 5, 1) := by decide +kernel
theorem dX10_wordAt_75 : decode cX10_wordAt 75 = .ok (.goto 18, 3) := by decide +kernel
theorem dX10_wordAt_78 : decode cX10_wordAt 78 = .ok (.aload_n 0, 1) := by decide +kernel
theorem dX10_wordAt_79 : decode cX10_wordAt 79 = .ok (.ldc 141, 2) := by decide +kernel
theorem dX10_wordAt_81 : decode cX10_wordAt 81 = .ok (.invokevirtual 122, 3) := by decide +kernel
theorem dX10_wordAt_84 : decode cX10_wordAt 84 = .ok (.ifCond .eq 8, 3) := by decide +kernel
theorem dX10_wordAt_87 : decode cX10_wordAt 87 = .ok (.bipush 6, 2) := by decide +kernel
theorem dX10_wordAt_89 : decode cX10_wordAt 89 = .ok (.goto 4, 3) := by decide +kernel
theorem dX10_wordAt_92 : decode cX10_wordAt 92 = .ok (.iconst (-1), 1) := by decide +kernel
theorem dX10_wordAt_93 : decode cX10_wordAt 93 = .ok (.ireturn, 1) := by decide +kernel
set_option maxRecDepth 20000 in
theorem dX10_readSmall_0 : decode cX10_readSmall 0 = .ok (.aload_n 0, 1) := by decide +kernel
theorem dX10_readSmall_1 : decode cX10_readSmall 1 = .ok (.invokevirtual 143, 3) := by decide +kernel
theorem dX10_readSmall_4 : decode cX10_readSmall 4 = .ok (.istore_n 1, 1) := by decide +kernel
theorem dX10_readSmall_5 : decode cX10_readSmall 5 = .ok (.iload_n 1, 1) := by decide +kernel
theorem dX10_readSmall_6 : decode cX10_readSmall 6 = .ok (.iconst (-1), 1) := by decide +kernel
theorem dX10_readSmall_7 : decode cX10_readSmall 7 = .ok (.if_icmp .ne 9, 3) := by decide +kernel
theorem dX10_readSmall_10 : decode cX10_readSmall 10 = .ok (.aload_n 0, 1) := by decide +kernel
theorem dX10_readSmall_11 : decode cX10_readSmall 11 = .ok (.iconst 1, 1) := by decide +kernel
theorem dX10_readSmall_12 : decode cX10_readSmall 12 = .ok (.invokevirtual 49, 3) := by decide +kernel
theorem dX10_readSmall_15 : decode cX10_readSmall 15 = .ok (.ireturn, 1) := by decide +kernel
theorem dX10_readSmall_16 : decode cX10_readSmall 16 = .ok (.aload_n 0, 1) := by decide +kernel
theorem dX10_readSmall_17 : decode cX10_readSmall 17 = .ok (.getfield 146, 3) := by decide +kernel
theorem dX10_readSmall_20 : decode cX10_readSmall 20 = .ok (.iload_n 1, 1) := by decide +kernel
theorem dX10_readSmall_21 : decode cX10_readSmall 21 = .ok (.ishr, 1) := by decide +kernel
theorem dX10_readSmall_22 : decode cX10_readSmall 22 = .ok (.iconst 1, 1) := by decide +kernel
theorem dX10_readSmall_23 : decode cX10_readSmall 23 = .ok (.iand, 1) := by decide +kernel
theorem dX10_readSmall_24 : decode cX10_readSmall 24 = .ok (.iconst 1, 1) := by decide +kernel
theorem dX10_readSmall_25 : decode cX10_readSmall 25 = .ok (.if_icmp .ne 9, 3) := by decide +kernel
theorem dX10_readSmall_28 : decode cX10_readSmall 28 = .ok (.aload_n 0, 1) := by decide +kernel
theorem dX10_readSmall_29 : decode cX10_readSmall 29 = .ok (.iconst 3, 1) := by decide +kernel
theorem dX10_readSmall_30 : decode cX10_readSmall 30 = .ok (.invokevirtual 49, 3) := by decide +kernel
theorem dX10_readSmall_33 : decode cX10_readSmall 33 = .ok (.ireturn, 1) := by decide +kernel
theorem dX10_readSmall_34 : decode cX10_readSmall 34 = .ok (.aload_n 0, 1) := by decide +kernel
theorem dX10_readSmall_35 : decode cX10_readSmall 35 = .ok (.dup, 1) := by decide +kernel
theorem dX10_readSmall_36 : decode cX10_readSmall 36 = .ok (.getfield 146, 3) := by decide +kernel
theorem dX10_readSmall_39 : decode cX10_readSmall 39 = .ok (.iconst 1, 1) := by decide +kernel
theorem dX10_readSmall_40 : decode cX10_readSmall 40 = .ok (.iload_n 1, 1) := by decide +kernel
theorem dX10_readSmall_41 : decode cX10_readSmall 41 = .ok (.ishl, 1) := by decide +kernel
theorem dX10_readSmall_42 : decode cX10_readSmall 42 = .ok (.ior, 1) := by decide +kernel
theorem dX10_readSmall_43 : decode cX10_readSmall 43 = .ok (.putfield 146, 3) := by decide +kernel
theorem dX10_readSmall_46 : decode cX10_readSmall 46 = .ok (.aload_n 0, 1) := by decide +kernel
theorem dX10_readSmall_47 : decode cX10_readSmall 47 = .ok (.invokevirtual 59, 3) := by decide +kernel
theorem dX10_readSmall_50 : decode cX10_readSmall 50 = .ok (.iload_n 1, 1) := by decide +kernel
theorem dX10_readSmall_51 : decode cX10_readSmall 51 = .ok (.bipush 6, 2) := by decide +kernel
theorem dX10_readSmall_53 : decode cX10_readSmall 53 = .ok (.if_icmp .ne 10, 3) := by decide +kernel
theorem dX10_readSmall_56 : decode cX10_readSmall 56 = .ok (.aload_n 0, 1) := by decide +kernel
theorem dX10_readSmall_57 : decode cX10_readSmall 57 = .ok (.iconst 1, 1) := by decide +kernel
theorem dX10_readSmall_58 : decode cX10_readSmall 58 = .ok (.putfield 149, 3) := by decide +kernel
theorem dX10_readSmall_61 : decode cX10_readSmall 61 = .ok (.iconst 1, 1) := by decide +kernel
theorem dX10_readSmall_62 : decode cX10_readSmall 62 = .ok (.ireturn, 1) := by decide +kernel
theorem dX10_readSmall_63 : decode cX10_readSmall 63 = .ok (.aload_n 0, 1) := by decide +kernel
theorem dX10_readSmall_64 : decode cX10_readSmall 64 = .ok (.iload_n 1, 1) := by decide +kernel
theorem dX10_readSmall_65 : decode cX10_readSmall 65 = .ok (.ifCond .ne 7, 3) := by decide +kernel
theorem dX10_readSmall_68 : decode cX10_readSmall 68 = .ok (.iconst 1, 1) := by decide +kernel
theorem dX10_readSmall_69 : decode cX10_readSmall 69 = .ok (.goto 4, 3) := by decide +kernel
theorem dX10_readSmall_72 : decode cX10_readSmall 72 = .ok (.iconst 0, 1) := by decide +kernel
theorem dX10_readSmall_73 : decode cX10_readSmall 73 = .ok (.iload_n 1, 1) := by decide +kernel
theorem dX10_readSmall_74 : decode cX10_readSmall 74 = .ok (.invokestatic 153, 3) := by decide +kernel
theorem dX10_readSmall_77 : decode cX10_readSmall 77 = .ok (.invokevirtual 85, 3) := by decide +kernel
theorem dX10_readSmall_80 : decode cX10_readSmall 80 = .ok (.ifCond .ne 5, 3) := by decide +kernel
theorem dX10_readSmall_83 : decode cX10_readSmall 83 = .ok (.iconst 0, 1) := by decide +kernel
theorem dX10_readSmall_84 : decode cX10_readSmall 84 = .ok (.ireturn, 1) := by decide +kernel
theorem dX10_readSmall_85 : decode cX10_readSmall 85 = .ok (.aload_n 0, 1) := by decide +kernel
theorem dX10_readSmall_86 : decode cX10_readSmall 86 = .ok (.getfield 156, 3) := by decide +kernel
theorem dX10_readSmall_89 : decode cX10_readSmall 89 = .ok (.iload_n 1, 1) := by decide +kernel
theorem dX10_readSmall_90 : decode cX10_readSmall 90 = .ok (.aload_n 0, 1) := by decide +kernel
theorem dX10_readSmall_91 : decode cX10_readSmall 91 = .ok (.getfield 56, 3) := by decide +kernel
theorem dX10_readSmall_94 : decode cX10_readSmall 94 = .ok (.iastore, 1) := by decide +kernel
theorem dX10_readSmall_95 : decode cX10_readSmall 95 = .ok (.iconst 1, 1) := by decide +kernel
theorem dX10_readSmall_96 : decode cX10_readSmall 96 = .ok (.ireturn, 1) := by decide +kernel
set_option maxRecDepth 20000 in
theorem dX10_readVillage_0 : decode cX10_readVillage 0 = .ok (.aload_n 0, 1) := by decide +kernel
theorem dX10_readVillage_1 : decode cX10_readVillage 1 = .ok (.iconst 0, 1) := by decide +kernel
theorem dX10_readVillage_2 : decode cX10_readVillage 2 = .ok (.putfield 74, 3) := by decide +kernel
theorem dX10_readVillage_5 : decode cX10_readVillage 5 = .ok (.aload_n 0, 1) := by decide +kernel
theorem dX10_readVillage_6 : decode cX10_readVillage 6 = .ok (.iconst 0, 1) := by decide +kernel
theorem dX10_readVillage_7 : decode cX10_readVillage 7 = .ok (.putfield 102, 3) := by decide +kernel
theorem dX10_readVillage_10 : decode cX10_readVillage 10 = .ok (.aload_n 0, 1) := by decide +kernel
theorem dX10_readVillage_11 : decode cX10_readVillage 11 = .ok (.iconst 0, 1) := by decide +kernel
theorem dX10_readVillage_12 : decode cX10_readVillage 12 = .ok (.putfield 149, 3) := by decide +kernel
theorem dX10_readVillage_15 : decode cX10_readVillage 15 = .ok (.aload_n 0, 1) := by decide +kernel
theorem dX10_readVillage_16 : decode cX10_readVillage 16 = .ok (.iconst 0, 1) := by decide +kernel
theorem dX10_readVillage_17 : decode cX10_readVillage 17 = .ok (.putfield 146, 3) := by decide +kernel
theorem dX10_readVillage_20 : decode cX10_readVillage 20 = .ok (.aload_n 0, 1) := by decide +kernel
theorem dX10_readVillage_21 : decode cX10_readVillage 21 = .ok (.iconst 0, 1) := by decide +kernel
theorem dX10_readVillage_22 : decode cX10_readVillage 22 = .ok (.putfield 117, 3) := by decide +kernel
theorem dX10_readVillage_25 : decode cX10_readVillage 25 = .ok (.aload_n 0, 1) := by decide +kernel
theorem dX10_readVillage_26 : decode cX10_readVillage 26 = .ok (.iconst 0, 1) := by decide +kernel
theorem dX10_readVillage_27 : decode cX10_readVillage 27 = .ok (.putfield 159, 3) := by decide +kernel
theorem dX10_readVillage_30 : decode cX10_readVillage 30 = .ok (.iconst 0, 1) := by decide +kernel
theorem dX10_readVillage_31 : decode cX10_readVillage 31 = .ok (.istore_n 1, 1) := by decide +kernel
theorem dX10_readVillage_32 : decode cX10_readVillage 32 = .ok (.iload_n 1, 1) := by decide +kernel
theorem dX10_readVillage_33 : decode cX10_readVillage 33 = .ok (.bipush 6, 2) := by decide +kernel
theorem dX10_readVillage_35 : decode cX10_readVillage 35 = .ok (.if_icmp .ge 19, 3) := by decide +kernel
theorem dX10_readVillage_38 : decode cX10_readVillage 38 = .ok (.aload_n 0, 1) := by decide +kernel
theorem dX10_readVillage_39 : decode cX10_readVillage 39 = .ok (.getfield 156, 3) := by decide +kernel
theorem dX10_readVillage_42 : decode cX10_readVillage 42 = .ok (.iload_n 1, 1) := by decide +kernel
theorem dX10_readVillage_43 : decode cX10_readVillage 43 = .ok (.iload_n 1, 1) := by decide +kernel
theorem dX10_readVillage_44 : decode cX10_readVillage 44 = .ok (.invokestatic 162, 3) := by decide +kernel
theorem dX10_readVillage_47 : decode cX10_readVillage 47 = .ok (.iastore, 1) := by decide +kernel
theorem dX10_readVillage_48 : decode cX10_readVillage 48 = .ok (.iinc 1 1, 3) := by decide +kernel
theorem dX10_readVillage_51 : decode cX10_readVillage 51 = .ok (.goto (-19), 3) := by decide +kernel
theorem dX10_readVillage_54 : decode cX10_readVillage 54 = .ok (.aload_n 0, 1) := by decide +kernel
theorem dX10_readVillage_55 : decode cX10_readVillage 55 = .ok (.getfield 27, 3) := by decide +kernel
theorem dX10_readVillage_58 : decode cX10_readVillage 58 = .ok (.ifCond .eq 98, 3) := by decide +kernel
theorem dX10_readVillage_61 : decode cX10_readVillage 61 = .ok (.aload_n 0, 1) := by decide +kernel
theorem dX10_readVillage_62 : decode cX10_readVillage 62 = .ok (.ldc 165, 2) := by decide +kernel
theorem dX10_readVillage_64 : decode cX10_readVillage 64 = .ok (.invokevirtual 122, 3) := by decide +kernel
theorem dX10_readVillage_67 : decode cX10_readVillage 67 = .ok (.ifCond .eq 10, 3) := by decide +kernel
theorem dX10_readVillage_70 : decode cX10_readVillage 70 = .ok (.aload_n 0, 1) := by decide +kernel
theorem dX10_readVillage_71 : decode cX10_readVillage 71 = .ok (.invokevirtual 167, 3) := by decide +kernel
theorem dX10_readVillage_74 : decode cX10_readVillage 74 = .ok (.goto 55, 3) := by decide +kernel
theorem dX10_readVillage_77 : decode cX10_readVillage 77 = .ok (.aload_n 0, 1) := by decide +kernel
theorem dX10_readVillage_78 : decode cX10_readVillage 78 = .ok (.ldc 171, 2) := by decide +kernel
theorem dX10_readVillage_80 : decode cX10_readVillage 80 = .ok (.invokevirtual 122, 3) := by decide +kernel
theorem dX10_readVillage_83 : decode cX10_readVillage 83 = .ok (.ifCond .eq 10, 3) := by decide +kernel
theorem dX10_readVillage_86 : decode cX10_readVillage 86 = .ok (.aload_n 0, 1) := by decide +kernel
theorem dX10_readVillage_87 : decode cX10_readVillage 87 = .ok (.invokevirtual 173, 3) := by decide +kernel
theorem dX10_readVillage_90 : decode cX10_readVillage 90 = .ok (.goto 39, 3) := by decide +kernel
theorem dX10_readVillage_93 : decode cX10_readVillage 93 = .ok (.aload_n 0, 1) := by decide +kernel
theorem dX10_readVillage_94 : decode cX10_readVillage 94 = .ok (.ldc 176, 2) := by decide +kernel
theorem dX10_readVillage_96 : decode cX10_readVillage 96 = .ok (.invokevirtual 122, 3) := by decide +kernel
theorem dX10_readVillage_99 : decode cX10_readVillage 99 = .ok (.ifCond .eq 10, 3) := by decide +kernel
theorem dX10_readVillage_102 : decode cX10_readVillage 102 = .ok (.aload_n 0, 1) := by decide +kernel
theorem dX10_readVillage_103 : decode cX10_readVillage 103 = .ok (.invokevirtual 178, 3) := by decide +kernel
theorem dX10_readVillage_106 : decode cX10_readVillage 106 = .ok (.goto 23, 3) := by decide +kernel
theorem dX10_readVillage_109 : decode cX10_readVillage 109 = .ok (.aload_n 0, 1) := by decide +kernel
theorem dX10_readVillage_110 : decode cX10_readVillage 110 = .ok (.ldc 181, 2) := by decide +kernel
theorem dX10_readVillage_112 : decode cX10_readVillage 112 = .ok (.invokevirtual 122, 3) := by decide +kernel
theorem dX10_readVillage_115 : decode cX10_readVillage 115 = .ok (.ifCond .eq 10, 3) := by decide +kernel
theorem dX10_readVillage_118 : decode cX10_readVillage 118 = .ok (.aload_n 0, 1) := by decide +kernel
theorem dX10_readVillage_119 : decode cX10_readVillage 119 = .ok (.invokevirtual 183, 3) := by decide +kernel
theorem dX10_readVillage_122 : decode cX10_readVillage 122 = .ok (.goto 7, 3) := by decide +kernel
theorem dX10_readVillage_125 : decode cX10_readVillage 125 = .ok (.aload_n 0, 1) := by decide +kernel
theorem dX10_readVillage_126 : decode cX10_readVillage 126 = .ok (.invokevirtual 186, 3) := by decide +kernel
theorem dX10_readVillage_129 : decode cX10_readVillage 129 = .ok (.istore_n 1, 1) := by decide +kernel
theorem dX10_readVillage_130 : decode cX10_readVillage 130 = .ok (.iload_n 1, 1) := by decide +kernel
theorem dX10_readVillage_131 : decode cX10_readVillage 131 = .ok (.ifCond .eq 10, 3) := by decide +kernel
theorem dX10_readVillage_134 : decode cX10_readVillage 134 = .ok (.aload_n 0, 1) := by decide +kernel
theorem dX10_readVillage_135 : decode cX10_readVillage 135 = .ok (.invokevirtual 189, 3) := by decide +kernel
theorem dX10_readVillage_138 : decode cX10_readVillage 138 = .ok (.ifCond .ne 5, 3) := by decide +kernel
theorem dX10_readVillage_141 : decode cX10_readVillage 141 = .ok (.iconst 0, 1) := by decide +kernel
theorem dX10_readVillage_142 : decode cX10_readVillage 142 = .ok (.ireturn, 1) := by decide +kernel
theorem dX10_readVillage_143 : decode cX10_readVillage 143 = .ok (.aload_n 0, 1) := by decide +kernel
theorem dX10_readVillage_144 : decode cX10_readVillage 144 = .ok (.dup, 1) := by decide +kernel
theorem dX10_readVillage_145 : decode cX10_readVillage 145 = .ok (.getfield 159, 3) := by decide +kernel
theorem dX10_readVillage_148 : decode cX10_readVillage 148 = .ok (.iconst 1, 1) := by decide +kernel
theorem dX10_readVillage_149 : decode cX10_readVillage 149 = .ok (.iadd, 1) := by decide +kernel
theorem dX10_readVillage_150 : decode cX10_readVillage 150 = .ok (.putfield 159, 3) := by decide +kernel
theorem dX10_readVillage_153 : decode cX10_readVillage 153 = .ok (.goto (-99), 3) := by decide +kernel
theorem dX10_readVillage_156 : decode cX10_readVillage 156 = .ok (.iconst 1, 1) := by decide +kernel
theorem dX10_readVillage_157 : decode cX10_readVillage 157 = .ok (.ireturn, 1) := by decide +kernel
set_option maxRecDepth 20000 in
theorem dX10_init_0 : decode cX10_init 0 = .ok (.aload_n 0, 1) := by decide +kernel
theorem dX10_init_1 : decode cX10_init 1 = .ok (.invokespecial 192, 3) := by decide +kernel
theorem dX10_init_4 : decode cX10_init 4 = .ok (.aload_n 0, 1) := by decide +kernel
theorem dX10_init_5 : decode cX10_init 5 = .ok (.sipush 900, 3) := by decide +kernel
theorem dX10_init_8 : decode cX10_init 8 = .ok (.newarray .byte, 2) := by decide +kernel
theorem dX10_init_10 : decode cX10_init 10 = .ok (.putfield 16, 3) := by decide +kernel
theorem dX10_init_13 : decode cX10_init 13 = .ok (.aload_n 0, 1) := by decide +kernel
theorem dX10_init_14 : decode cX10_init 14 = .ok (.iconst (-1), 1) := by decide +kernel
theorem dX10_init_15 : decode cX10_init 15 = .ok (.putfield 10, 3) := by decide +kernel
theorem dX10_init_18 : decode cX10_init 18 = .ok (.aload_n 0, 1) := by decide +kernel
theorem dX10_init_19 : decode cX10_init 19 = .ok (.bipush 6, 2) := by decide +kernel
theorem dX10_init_21 : decode cX10_init 21 = .ok (.newarray .int, 2) := by decide +kernel
theorem dX10_init_23 : decode cX10_init 23 = .ok (.dup, 1) := by decide +kernel
theorem dX10_init_24 : decode cX10_init 24 = .ok (.iconst 0, 1) := by decide +kernel
theorem dX10_init_25 : decode cX10_init 25 = .ok (.iconst 2, 1) := by decide +kernel
theorem dX10_init_26 : decode cX10_init 26 = .ok (.iastore, 1) := by decide +kernel
theorem dX10_init_27 : decode cX10_init 27 = .ok (.dup, 1) := by decide +kernel
theorem dX10_init_28 : decode cX10_init 28 = .ok (.iconst 1, 1) := by decide +kernel
theorem dX10_init_29 : decode cX10_init 29 = .ok (.bipush 12, 2) := by decide +kernel
theorem dX10_init_31 : decode cX10_init 31 = .ok (.iastore, 1) := by decide +kernel
theorem dX10_init_32 : decode cX10_init 32 = .ok (.dup, 1) := by decide +kernel
theorem dX10_init_33 : decode cX10_init 33 = .ok (.iconst 2, 1) := by decide +kernel
theorem dX10_init_34 : decode cX10_init 34 = .ok (.iconst 2, 1) := by decide +kernel
theorem dX10_init_35 : decode cX10_init 35 = .ok (.iastore, 1) := by decide +kernel
theorem dX10_init_36 : decode cX10_init 36 = .ok (.dup, 1) := by decide +kernel
theorem dX10_init_37 : decode cX10_init 37 = .ok (.iconst 3, 1) := by decide +kernel
theorem dX10_init_38 : decode cX10_init 38 = .ok (.iconst 1, 1) := by decide +kernel
theorem dX10_init_39 : decode cX10_init 39 = .ok (.iastore, 1) := by decide +kernel
theorem dX10_init_40 : decode cX10_init 40 = .ok (.dup, 1) := by decide +kernel
theorem dX10_init_41 : decode cX10_init 41 = .ok (.iconst 4, 1) := by decide +kernel
theorem dX10_init_42 : decode cX10_init 42 = .ok (.iconst 1, 1) := by decide +kernel
theorem dX10_init_43 : decode cX10_init 43 = .ok (.iastore, 1) := by decide +kernel
theorem dX10_init_44 : decode cX10_init 44 = .ok (.dup, 1) := by decide +kernel
theorem dX10_init_45 : decode cX10_init 45 = .ok (.iconst 5, 1) := by decide +kernel
theorem dX10_init_46 : decode cX10_init 46 = .ok (.iconst 0, 1) := by decide +kernel
theorem dX10_init_47 : decode cX10_init 47 = .ok (.iastore, 1) := by decide +kernel
theorem dX10_init_48 : decode cX10_init 48 = .ok (.putfield 197, 3) := by decide +kernel
theorem dX10_init_51 : decode cX10_init 51 = .ok (.aload_n 0, 1) := by decide +kernel
theorem dX10_init_52 : decode cX10_init 52 = .ok (.bipush 6, 2) := by decide +kernel
theorem dX10_init_54 : decode cX10_init 54 = .ok (.newarray .int, 2) := by decide +kernel
theorem dX10_init_56 : decode cX10_init 56 = .ok (.putfield 156, 3) := by decide +kernel
theorem dX10_init_59 : decode cX10_init 59 = .ok (.aload_n 0, 1) := by decide +kernel
theorem dX10_init_60 : decode cX10_init 60 = .ok (.iconst 5, 1) := by decide +kernel
theorem dX10_init_61 : decode cX10_init 61 = .ok (.newarray .int, 2) := by decide +kernel
theorem dX10_init_63 : decode cX10_init 63 = .ok (.putfield 200, 3) := by decide +kernel
theorem dX10_init_66 : decode cX10_init 66 = .ok (.aload_n 0, 1) := by decide +kernel
theorem dX10_init_67 : decode cX10_init 67 = .ok (.iconst 5, 1) := by decide +kernel
theorem dX10_init_68 : decode cX10_init 68 = .ok (.newarray .int, 2) := by decide +kernel
theorem dX10_init_70 : decode cX10_init 70 = .ok (.putfield 203, 3) := by decide +kernel
theorem dX10_init_73 : decode cX10_init 73 = .ok (.aload_n 0, 1) := by decide +kernel
theorem dX10_init_74 : decode cX10_init 74 = .ok (.iconst 5, 1) := by decide +kernel
theorem dX10_init_75 : decode cX10_init 75 = .ok (.newarray .int, 2) := by decide +kernel
theorem dX10_init_77 : decode cX10_init 77 = .ok (.putfield 206, 3) := by decide +kernel
theorem dX10_init_80 : decode cX10_init 80 = .ok (.aload_n 0, 1) := by decide +kernel
theorem dX10_init_81 : decode cX10_init 81 = .ok (.iconst 5, 1) := by decide +kernel
theorem dX10_init_82 : decode cX10_init 82 = .ok (.newarray .int, 2) := by decide +kernel
theorem dX10_init_84 : decode cX10_init 84 = .ok (.putfield 209, 3) := by decide +kernel
theorem dX10_init_87 : decode cX10_init 87 = .ok (.aload_n 0, 1) := by decide +kernel
theorem dX10_init_88 : decode cX10_init 88 = .ok (.iconst 5, 1) := by decide +kernel
theorem dX10_init_89 : decode cX10_init 89 = .ok (.newarray .int, 2) := by decide +kernel
theorem dX10_init_91 : decode cX10_init 91 = .ok (.putfield 212, 3) := by decide +kernel
theorem dX10_init_94 : decode cX10_init 94 = .ok (.aload_n 0, 1) := by decide +kernel
theorem dX10_init_95 : decode cX10_init 95 = .ok (.iconst 5, 1) := by decide +kernel
theorem dX10_init_96 : decode cX10_init 96 = .ok (.newarray .int, 2) := by decide +kernel
theorem dX10_init_98 : decode cX10_init 98 = .ok (.putfield 215, 3) := by decide +kernel
theorem dX10_init_101 : decode cX10_init 101 = .ok (.aload_n 0, 1) := by decide +kernel
theorem dX10_init_102 : decode cX10_init 102 = .ok (.bipush 25, 2) := by decide +kernel
theorem dX10_init_104 : decode cX10_init 104 = .ok (.newarray .int, 2) := by decide +kernel
theorem dX10_init_106 : decode cX10_init 106 = .ok (.putfield 217, 3) := by decide +kernel
theorem dX10_init_109 : decode cX10_init 109 = .ok (.aload_n 0, 1) := by decide +kernel
theorem dX10_init_110 : decode cX10_init 110 = .ok (.iconst 5, 1) := by decide +kernel
theorem dX10_init_111 : decode cX10_init 111 = .ok (.newarray .int, 2) := by decide +kernel
theorem dX10_init_113 : decode cX10_init 113 = .ok (.putfield 89, 3) := by decide +kernel
theorem dX10_init_116 : decode cX10_init 116 = .ok (.aload_n 0, 1) := by decide +kernel
theorem dX10_init_117 : decode cX10_init 117 = .ok (.iconst 5, 1) := by decide +kernel
theorem dX10_init_118 : decode cX10_init 118 = .ok (.newarray .int, 2) := by decide +kernel
theorem dX10_init_120 : decode cX10_init 120 = .ok (.putfield 93, 3) := by decide +kernel
theorem dX10_init_123 : decode cX10_init 123 = .ok (.aload_n 0, 1) := by decide +kernel
theorem dX10_init_124 : decode cX10_init 124 = .ok (.iconst 5, 1) := by decide +kernel
theorem dX10_init_125 : decode cX10_init 125 = .ok (.newarray .int, 2) := by decide +kernel
theorem dX10_init_127 : decode cX10_init 127 = .ok (.putfield 96, 3) := by decide +kernel
theorem dX10_init_130 : decode cX10_init 130 = .ok (.aload_n 0, 1) := by decide +kernel
theorem dX10_init_131 : decode cX10_init 131 = .ok (.iconst 5, 1) := by decide +kernel
theorem dX10_init_132 : decode cX10_init 132 = .ok (.newarray .int, 2) := by decide +kernel
theorem dX10_init_134 : decode cX10_init 134 = .ok (.putfield 99, 3) := by decide +kernel
theorem dX10_init_137 : decode cX10_init 137 = .ok (.aload_n 0, 1) := by decide +kernel
theorem dX10_init_138 : decode cX10_init 138 = .ok (.iconst 5, 1) := by decide +kernel
theorem dX10_init_139 : decode cX10_init 139 = .ok (.newarray .int, 2) := by decide +kernel
theorem dX10_init_141 : decode cX10_init 141 = .ok (.putfield 108, 3) := by decide +kernel
theorem dX10_init_144 : decode cX10_init 144 = .ok (.aload_n 0, 1) := by decide +kernel
theorem dX10_init_145 : decode cX10_init 145 = .ok (.iconst 5, 1) := by decide +kernel
theorem dX10_init_146 : decode cX10_init 146 = .ok (.newarray .int, 2) := by decide +kernel
theorem dX10_init_148 : decode cX10_init 148 = .ok (.putfield 111, 3) := by decide +kernel
theorem dX10_init_151 : decode cX10_init 151 = .ok (.aload_n 0, 1) := by decide +kernel
theorem dX10_init_152 : decode cX10_init 152 = .ok (.bipush 25, 2) := by decide +kernel
theorem dX10_init_154 : decode cX10_init 154 = .ok (.newarray .int, 2) := by decide +kernel
theorem dX10_init_156 : decode cX10_init 156 = .ok (.putfield 114, 3) := by decide +kernel
theorem dX10_init_159 : decode cX10_init 159 = .ok (.aload_n 0, 1) := by decide +kernel
theorem dX10_init_160 : decode cX10_init 160 = .ok (.iconst 5, 1) := by decide +kernel
theorem dX10_init_161 : decode cX10_init 161 = .ok (.newarray .long, 2) := by decide +kernel
theorem dX10_init_163 : decode cX10_init 163 = .ok (.putfield 77, 3) := by decide +kernel
theorem dX10_init_166 : decode cX10_init 166 = .ok (.aload_n 0, 1) := by decide +kernel
theorem dX10_init_167 : decode cX10_init 167 = .ok (.iconst 5, 1) := by decide +kernel
theorem dX10_init_168 : decode cX10_init 168 = .ok (.newarray .long, 2) := by decide +kernel
theorem dX10_init_170 : decode cX10_init 170 = .ok (.putfield 105, 3) := by decide +kernel
theorem dX10_init_173 : decode cX10_init 173 = .ok (.aload_n 0, 1) := by decide +kernel
theorem dX10_init_174 : decode cX10_init 174 = .ok (.bipush 57, 2) := by decide +kernel
theorem dX10_init_176 : decode cX10_init 176 = .ok (.newarray .int, 2) := by decide +kernel
theorem dX10_init_178 : decode cX10_init 178 = .ok (.putfield 219, 3) := by decide +kernel
theorem dX10_init_181 : decode cX10_init 181 = .ok (.aload_n 0, 1) := by decide +kernel
theorem dX10_init_182 : decode cX10_init 182 = .ok (.bipush 57, 2) := by decide +kernel
theorem dX10_init_184 : decode cX10_init 184 = .ok (.newarray .int, 2) := by decide +kernel
theorem dX10_init_186 : decode cX10_init 186 = .ok (.putfield 222, 3) := by decide +kernel
theorem dX10_init_189 : decode cX10_init 189 = .ok (.aload_n 0, 1) := by decide +kernel
theorem dX10_init_190 : decode cX10_init 190 = .ok (.iconst (-1), 1) := by decide +kernel
theorem dX10_init_191 : decode cX10_init 191 = .ok (.putfield 225, 3) := by decide +kernel
theorem dX10_init_194 : decode cX10_init 194 = .ok (.aload_n 0, 1) := by decide +kernel
theorem dX10_init_195 : decode cX10_init 195 = .ok (.iconst (-1), 1) := by decide +kernel
theorem dX10_init_196 : decode cX10_init 196 = .ok (.putfield 228, 3) := by decide +kernel
theorem dX10_init_199 : decode cX10_init 199 = .ok (.aload_n 0, 1) := by decide +kernel
theorem dX10_init_200 : decode cX10_init 200 = .ok (.iconst (-1), 1) := by decide +kernel
theorem dX10_init_201 : decode cX10_init 201 = .ok (.putfield 230, 3) := by decide +kernel
theorem dX10_init_204 : decode cX10_init 204 = .ok (.aload_n 0, 1) := by decide +kernel
theorem dX10_init_205 : decode cX10_init 205 = .ok (.iconst (-1), 1) := by decide +kernel
theorem dX10_init_206 : decode cX10_init 206 = .ok (.putfield 233, 3) := by decide +kernel
theorem dX10_init_209 : decode cX10_init 209 = .ok (.aload_n 0, 1) := by decide +kernel
theorem dX10_init_210 : decode cX10_init 210 = .ok (.iconst 5, 1) := by decide +kernel
theorem dX10_init_211 : decode cX10_init 211 = .ok (.newarray .int, 2) := by decide +kernel
theorem dX10_init_213 : decode cX10_init 213 = .ok (.putfield 236, 3) := by decide +kernel
theorem dX10_init_216 : decode cX10_init 216 = .ok (.aload_n 0, 1) := by decide +kernel
theorem dX10_init_217 : decode cX10_init 217 = .ok (.iconst 5, 1) := by decide +kernel
theorem dX10_init_218 : decode cX10_init 218 = .ok (.newarray .boolean, 2) := by decide +kernel
theorem dX10_init_220 : decode cX10_init 220 = .ok (.putfield 239, 3) := by decide +kernel
theorem dX10_init_223 : decode cX10_init 223 = .ok (.aload_n 0, 1) := by decide +kernel
theorem dX10_init_224 : decode cX10_init 224 = .ok (.sipush 171, 3) := by decide +kernel
theorem dX10_init_227 : decode cX10_init 227 = .ok (.newarray .int, 2) := by decide +kernel
theorem dX10_init_229 : decode cX10_init 229 = .ok (.putfield 243, 3) := by decide +kernel
theorem dX10_init_232 : decode cX10_init 232 = .ok (.aload_n 0, 1) := by decide +kernel
theorem dX10_init_233 : decode cX10_init 233 = .ok (.iconst 3, 1) := by decide +kernel
theorem dX10_init_234 : decode cX10_init 234 = .ok (.newarray .boolean, 2) := by decide +kernel
theorem dX10_init_236 : decode cX10_init 236 = .ok (.putfield 246, 3) := by decide +kernel
theorem dX10_init_239 : decode cX10_init 239 = .ok (.aload_n 0, 1) := by decide +kernel
theorem dX10_init_240 : decode cX10_init 240 = .ok (.iconst 4, 1) := by decide +kernel
theorem dX10_init_241 : decode cX10_init 241 = .ok (.newarray .int, 2) := by decide +kernel
theorem dX10_init_243 : decode cX10_init 243 = .ok (.putfield 249, 3) := by decide +kernel
theorem dX10_init_246 : decode cX10_init 246 = .ok (.aload_n 0, 1) := by decide +kernel
theorem dX10_init_247 : decode cX10_init 247 = .ok (.ldc 252, 2) := by decide +kernel
theorem dX10_init_249 : decode cX10_init 249 = .ok (.newarray .int, 2) := by decide +kernel
theorem dX10_init_251 : decode cX10_init 251 = .ok (.putfield 253, 3) := by decide +kernel
theorem dX10_init_254 : decode cX10_init 254 = .ok (.aload_n 0, 1) := by decide +kernel
theorem dX10_init_255 : decode cX10_init 255 = .ok (.iconst 5, 1) := by decide +kernel
theorem dX10_init_256 : decode cX10_init 256 = .ok (.newarray .int, 2) := by decide +kernel
theorem dX10_init_258 : decode cX10_init 258 = .ok (.putfield 256, 3) := by decide +kernel
theorem dX10_init_261 : decode cX10_init 261 = .ok (.aload_n 0, 1) := by decide +kernel
theorem dX10_init_262 : decode cX10_init 262 = .ok (.sipush 151, 3) := by decide +kernel
theorem dX10_init_265 : decode cX10_init 265 = .ok (.newarray .int, 2) := by decide +kernel
theorem dX10_init_267 : decode cX10_init 267 = .ok (.putfield 259, 3) := by decide +kernel
theorem dX10_init_270 : decode cX10_init 270 = .ok (.aload_n 0, 1) := by decide +kernel
theorem dX10_init_271 : decode cX10_init 271 = .ok (.sipush 151, 3) := by decide +kernel
theorem dX10_init_274 : decode cX10_init 274 = .ok (.newarray .int, 2) := by decide +kernel
theorem dX10_init_276 : decode cX10_init 276 = .ok (.putfield 262, 3) := by decide +kernel
theorem dX10_init_279 : decode cX10_init 279 = .ok (.aload_n 0, 1) := by decide +kernel
theorem dX10_init_280 : decode cX10_init 280 = .ok (.sipush 151, 3) := by decide +kernel
theorem dX10_init_283 : decode cX10_init 283 = .ok (.newarray .int, 2) := by decide +kernel
theorem dX10_init_285 : decode cX10_init 285 = .ok (.putfield 265, 3) := by decide +kernel
theorem dX10_init_288 : decode cX10_init 288 = .ok (.aload_n 0, 1) := by decide +kernel
theorem dX10_init_289 : decode cX10_init 289 = .ok (.getfield 219, 3) := by decide +kernel
theorem dX10_init_292 : decode cX10_init 292 = .ok (.bipush 56, 2) := by decide +kernel
theorem dX10_init_294 : decode cX10_init 294 = .ok (.iconst 1, 1) := by decide +kernel
theorem dX10_init_295 : decode cX10_init 295 = .ok (.iastore, 1) := by decide +kernel
theorem dX10_init_296 : decode cX10_init 296 = .ok (.aload_n 0, 1) := by decide +kernel
theorem dX10_init_297 : decode cX10_init 297 = .ok (.aload_n 0, 1) := by decide +kernel
theorem dX10_init_298 : decode cX10_init 298 = .ok (.getfield 219, 3) := by decide +kernel
theorem dX10_init_301 : decode cX10_init 301 = .ok (.invokevirtual 268, 3) := by decide +kernel
theorem dX10_init_304 : decode cX10_init 304 = .ok (.return_, 1) := by decide +kernel
set_option maxRecDepth 20000 in
theorem dX10_feed_0 : decode cX10_feed 0 = .ok (.aload_n 0, 1) := by decide +kernel
theorem dX10_feed_1 : decode cX10_feed 1 = .ok (.getfield 71, 3) := by decide +kernel
theorem dX10_feed_4 : decode cX10_feed 4 = .ok (.bipush 20, 2) := by decide +kernel
theorem dX10_feed_6 : decode cX10_feed 6 = .ok (.iadd, 1) := by decide +kernel
theorem dX10_feed_7 : decode cX10_feed 7 = .ok (.sipush 900, 3) := by decide +kernel
theorem dX10_feed_10 : decode cX10_feed 10 = .ok (.if_icmp .le 6, 3) := by decide +kernel
theorem dX10_feed_13 : decode cX10_feed 13 = .ok (.bipush (-3), 2) := by decide +kernel
theorem dX10_feed_15 : decode cX10_feed 15 = .ok (.ireturn, 1) := by decide +kernel
theorem dX10_feed_16 : decode cX10_feed 16 = .ok (.aload_n 0, 1) := by decide +kernel
theorem dX10_feed_17 : decode cX10_feed 17 = .ok (.iload_n 1, 1) := by decide +kernel
theorem dX10_feed_18 : decode cX10_feed 18 = .ok (.invokevirtual 272, 3) := by decide +kernel
theorem dX10_feed_21 : decode cX10_feed 21 = .ok (.aload_n 0, 1) := by decide +kernel
theorem dX10_feed_22 : decode cX10_feed 22 = .ok (.iload_n 2, 1) := by decide +kernel
theorem dX10_feed_23 : decode cX10_feed 23 = .ok (.invokevirtual 272, 3) := by decide +kernel
theorem dX10_feed_26 : decode cX10_feed 26 = .ok (.aload_n 0, 1) := by decide +kernel
theorem dX10_feed_27 : decode cX10_feed 27 = .ok (.iload_n 3, 1) := by decide +kernel
theorem dX10_feed_28 : decode cX10_feed 28 = .ok (.invokevirtual 272, 3) := by decide +kernel
theorem dX10_feed_31 : decode cX10_feed 31 = .ok (.aload_n 0, 1) := by decide +kernel
theorem dX10_feed_32 : decode cX10_feed 32 = .ok (.iload 4, 2) := by decide +kernel
theorem dX10_feed_34 : decode cX10_feed 34 = .ok (.invokevirtual 272, 3) := by decide +kernel
theorem dX10_feed_37 : decode cX10_feed 37 = .ok (.aload_n 0, 1) := by decide +kernel
theorem dX10_feed_38 : decode cX10_feed 38 = .ok (.iload 5, 2) := by decide +kernel
theorem dX10_feed_40 : decode cX10_feed 40 = .ok (.invokevirtual 272, 3) := by decide +kernel
theorem dX10_feed_43 : decode cX10_feed 43 = .ok (.aload_n 0, 1) := by decide +kernel
theorem dX10_feed_44 : decode cX10_feed 44 = .ok (.getfield 71, 3) := by decide +kernel
theorem dX10_feed_47 : decode cX10_feed 47 = .ok (.ireturn, 1) := by decide +kernel
theorem dX10_putFour_0 : decode cX10_putFour 0 = .ok (.bipush 24, 2) := by decide +kernel
theorem dX10_putFour_2 : decode cX10_putFour 2 = .ok (.istore_n 2, 1) := by decide +kernel
theorem dX10_putFour_3 : decode cX10_putFour 3 = .ok (.iload_n 2, 1) := by decide +kernel
theorem dX10_putFour_4 : decode cX10_putFour 4 = .ok (.ifCond .lt 32, 3) := by decide +kernel
theorem dX10_putFour_7 : decode cX10_putFour 7 = .ok (.aload_n 0, 1) := by decide +kernel
theorem dX10_putFour_8 : decode cX10_putFour 8 = .ok (.getfield 16, 3) := by decide +kernel
theorem dX10_putFour_11 : decode cX10_putFour 11 = .ok (.aload_n 0, 1) := by decide +kernel
theorem dX10_putFour_12 : decode cX10_putFour 12 = .ok (.getfield 71, 3) := by decide +kernel
theorem dX10_putFour_15 : decode cX10_putFour 15 = .ok (.iload_n 1, 1) := by decide +kernel
theorem dX10_putFour_16 : decode cX10_putFour 16 = .ok (.iload_n 2, 1) := by decide +kernel
theorem dX10_putFour_17 : decode cX10_putFour 17 = .ok (.ishr, 1) := by decide +kernel
theorem dX10_putFour_18 : decode cX10_putFour 18 = .ok (.i2b, 1) := by decide +kernel
theorem dX10_putFour_19 : decode cX10_putFour 19 = .ok (.bastore, 1) := by decide +kernel
theorem dX10_putFour_20 : decode cX10_putFour 20 = .ok (.aload_n 0, 1) := by decide +kernel
theorem dX10_putFour_21 : decode cX10_putFour 21 = .ok (.dup, 1) := by decide +kernel
theorem dX10_putFour_22 : decode cX10_putFour 22 = .ok (.getfield 71, 3) := by decide +kernel
theorem dX10_putFour_25 : decode cX10_putFour 25 = .ok (.iconst 1, 1) := by decide +kernel
theorem dX10_putFour_26 : decode cX10_putFour 26 = .ok (.iadd, 1) := by decide +kernel
theorem dX10_putFour_27 : decode cX10_putFour 27 = .ok (.putfield 71, 3) := by decide +kernel
theorem dX10_putFour_30 : decode cX10_putFour 30 = .ok (.iinc 2 (-8), 3) := by decide +kernel
theorem dX10_putFour_33 : decode cX10_putFour 33 = .ok (.goto (-30), 3) := by decide +kernel
theorem dX10_putFour_36 : decode cX10_putFour 36 = .ok (.return_, 1) := by decide +kernel
set_option maxRecDepth 20000 in
theorem dX10_end_0 : decode cX10_end 0 = .ok (.iload_n 1, 1) := by decide +kernel
theorem dX10_end_1 : decode cX10_end 1 = .ok (.i2l, 1) := by decide +kernel
theorem dX10_end_2 : decode cX10_end 2 = .ok (.lconst 0, 1) := by decide +kernel
theorem dX10_end_3 : decode cX10_end 3 = .ok (.aload_n 0, 1) := by decide +kernel
theorem dX10_end_4 : decode cX10_end 4 = .ok (.getfield 71, 3) := by decide +kernel
theorem dX10_end_7 : decode cX10_end 7 = .ok (.i2l, 1) := by decide +kernel
theorem dX10_end_8 : decode cX10_end 8 = .ok (.invokestatic 52, 3) := by decide +kernel
theorem dX10_end_11 : decode cX10_end 11 = .ok (.ifCond .ne 5, 3) := by decide +kernel
theorem dX10_end_14 : decode cX10_end 14 = .ok (.iconst (-1), 1) := by decide +kernel
theorem dX10_end_15 : decode cX10_end 15 = .ok (.ireturn, 1) := by decide +kernel
theorem dX10_end_16 : decode cX10_end 16 = .ok (.aload_n 0, 1) := by decide +kernel
theorem dX10_end_17 : decode cX10_end 17 = .ok (.iload_n 1, 1) := by decide +kernel
theorem dX10_end_18 : decode cX10_end 18 = .ok (.putfield 71, 3) := by decide +kernel
theorem dX10_end_21 : decode cX10_end 21 = .ok (.iload_n 1, 1) := by decide +kernel
theorem dX10_end_22 : decode cX10_end 22 = .ok (.ireturn, 1) := by decide +kernel
set_option maxRecDepth 20000 in
theorem dX10_village_0 : decode cX10_village 0 = .ok (.aload_n 0, 1) := by decide +kernel
theorem dX10_village_1 : decode cX10_village 1 = .ok (.iconst 0, 1) := by decide +kernel
theorem dX10_village_2 : decode cX10_village 2 = .ok (.putfield 3, 3) := by decide +kernel
theorem dX10_village_5 : decode cX10_village 5 = .ok (.aload_n 0, 1) := by decide +kernel
theorem dX10_village_6 : decode cX10_village 6 = .ok (.iconst (-1), 1) := by decide +kernel
theorem dX10_village_7 : decode cX10_village 7 = .ok (.putfield 10, 3) := by decide +kernel
theorem dX10_village_10 : decode cX10_village 10 = .ok (.aload_n 0, 1) := by decide +kernel
theorem dX10_village_11 : decode cX10_village 11 = .ok (.invokevirtual 276, 3) := by decide +kernel
theorem dX10_village_14 : decode cX10_village 14 = .ok (.aload_n 0, 1) := by decide +kernel
theorem dX10_village_15 : decode cX10_village 15 = .ok (.invokevirtual 279, 3) := by decide +kernel
theorem dX10_village_18 : decode cX10_village 18 = .ok (.ifCond .ne 5, 3) := by decide +kernel
theorem dX10_village_21 : decode cX10_village 21 = .ok (.iconst (-1), 1) := by decide +kernel
theorem dX10_village_22 : decode cX10_village 22 = .ok (.ireturn, 1) := by decide +kernel
theorem dX10_village_23 : decode cX10_village 23 = .ok (.aload_n 0, 1) := by decide +kernel
theorem dX10_village_24 : decode cX10_village 24 = .ok (.aload_n 0, 1) := by decide +kernel
theorem dX10_village_25 : decode cX10_village 25 = .ok (.getfield 74, 3) := by decide +kernel
theorem dX10_village_28 : decode cX10_village 28 = .ok (.putfield 282, 3) := by decide +kernel
theorem dX10_village_31 : decode cX10_village 31 = .ok (.aload_n 0, 1) := by decide +kernel
theorem dX10_village_32 : decode cX10_village 32 = .ok (.aload_n 0, 1) := by decide +kernel
theorem dX10_village_33 : decode cX10_village 33 = .ok (.getfield 102, 3) := by decide +kernel
theorem dX10_village_36 : decode cX10_village 36 = .ok (.putfield 285, 3) := by decide +kernel
theorem dX10_village_39 : decode cX10_village 39 = .ok (.aload_n 0, 1) := by decide +kernel
theorem dX10_village_40 : decode cX10_village 40 = .ok (.aload_n 0, 1) := by decide +kernel
theorem dX10_village_41 : decode cX10_village 41 = .ok (.getfield 149, 3) := by decide +kernel
theorem dX10_village_44 : decode cX10_village 44 = .ok (.putfield 288, 3) := by decide +kernel
theorem dX10_village_47 : decode cX10_village 47 = .ok (.aload_n 0, 1) := by decide +kernel
theorem dX10_village_48 : decode cX10_village 48 = .ok (.aload_n 0, 1) := by decide +kernel
theorem dX10_village_49 : decode cX10_village 49 = .ok (.getfield 159, 3) := by decide +kernel
theorem dX10_village_52 : decode cX10_village 52 = .ok (.putfield 291, 3) := by decide +kernel
theorem dX10_village_55 : decode cX10_village 55 = .ok (.iconst 0, 1) := by decide +kernel
theorem dX10_village_56 : decode cX10_village 56 = .ok (.istore_n 1, 1) := by decide +kernel
theorem dX10_village_57 : decode cX10_village 57 = .ok (.iload_n 1, 1) := by decide +kernel
theorem dX10_village_58 : decode cX10_village 58 = .ok (.bipush 6, 2) := by decide +kernel
theorem dX10_village_60 : decode cX10_village 60 = .ok (.if_icmp .ge 21, 3) := by decide +kernel
theorem dX10_village_63 : decode cX10_village 63 = .ok (.aload_n 0, 1) := by decide +kernel
theorem dX10_village_64 : decode cX10_village 64 = .ok (.getfield 197, 3) := by decide +kernel
theorem dX10_village_67 : decode cX10_village 67 = .ok (.iload_n 1, 1) := by decide +kernel
theorem dX10_village_68 : decode cX10_village 68 = .ok (.aload_n 0, 1) := by decide +kernel
theorem dX10_village_69 : decode cX10_village 69 = .ok (.getfield 156, 3) := by decide +kernel
theorem dX10_village_72 : decode cX10_village 72 = .ok (.iload_n 1, 1) := by decide +kernel
theorem dX10_village_73 : decode cX10_village 73 = .ok (.iaload, 1) := by decide +kernel
theorem dX10_village_74 : decode cX10_village 74 = .ok (.iastore, 1) := by decide +kernel
theorem dX10_village_75 : decode cX10_village 75 = .ok (.iinc 1 1, 3) := by decide +kernel
theorem dX10_village_78 : decode cX10_village 78 = .ok (.goto (-21), 3) := by decide +kernel
theorem dX10_village_81 : decode cX10_village 81 = .ok (.iconst 0, 1) := by decide +kernel
theorem dX10_village_82 : decode cX10_village 82 = .ok (.istore_n 1, 1) := by decide +kernel
theorem dX10_village_83 : decode cX10_village 83 = .ok (.iload_n 1, 1) := by decide +kernel
theorem dX10_village_84 : decode cX10_village 84 = .ok (.aload_n 0, 1) := by decide +kernel
theorem dX10_village_85 : decode cX10_village 85 = .ok (.getfield 282, 3) := by decide +kernel
theorem dX10_village_88 : decode cX10_village 88 = .ok (.if_icmp .ge 57, 3) := by decide +kernel
theorem dX10_village_91 : decode cX10_village 91 = .ok (.aload_n 0, 1) := by decide +kernel
theorem dX10_village_92 : decode cX10_village 92 = .ok (.getfield 200, 3) := by decide +kernel
theorem dX10_village_95 : decode cX10_village 95 = .ok (.iload_n 1, 1) := by decide +kernel
theorem dX10_village_96 : decode cX10_village 96 = .ok (.aload_n 0, 1) := by decide +kernel
theorem dX10_village_97 : decode cX10_village 97 = .ok (.getfield 89, 3) := by decide +kernel
theorem dX10_village_100 : decode cX10_village 100 = .ok (.iload_n 1, 1) := by decide +kernel
theorem dX10_village_101 : decode cX10_village 101 = .ok (.iaload, 1) := by decide +kernel
theorem dX10_village_102 : decode cX10_village 102 = .ok (.iastore, 1) := by decide +kernel
theorem dX10_village_103 : decode cX10_village 103 = .ok (.aload_n 0, 1) := by decide +kernel
theorem dX10_village_104 : decode cX10_village 104 = .ok (.getfield 203, 3) := by decide +kernel
theorem dX10_village_107 : decode cX10_village 107 = .ok (.iload_n 1, 1) := by decide +kernel
theorem dX10_village_108 : decode cX10_village 108 = .ok (.aload_n 0, 1) := by decide +kernel
theorem dX10_village_109 : decode cX10_village 109 = .ok (.getfield 93, 3) := by decide +kernel
theorem dX10_village_112 : decode cX10_village 112 = .ok (.iload_n 1, 1) := by decide +kernel
theorem dX10_village_113 : decode cX10_village 113 = .ok (.iaload, 1) := by decide +kernel
theorem dX10_village_114 : decode cX10_village 114 = .ok (.iastore, 1) := by decide +kernel
theorem dX10_village_115 : decode cX10_village 115 = .ok (.aload_n 0, 1) := by decide +kernel
theorem dX10_village_116 : decode cX10_village 116 = .ok (.getfield 206, 3) := by decide +kernel
theorem dX10_village_119 : decode cX10_village 119 = .ok (.iload_n 1, 1) := by decide +kernel
theorem dX10_village_120 : decode cX10_village 120 = .ok (.aload_n 0, 1) := by decide +kernel
theorem dX10_village_121 : decode cX10_village 121 = .ok (.getfield 96, 3) := by decide +kernel
theorem dX10_village_124 : decode cX10_village 124 = .ok (.iload_n 1, 1) := by decide +kernel
theorem dX10_village_125 : decode cX10_village 125 = .ok (.iaload, 1) := by decide +kernel
theorem dX10_village_126 : decode cX10_village 126 = .ok (.iastore, 1) := by decide +kernel
theorem dX10_village_127 : decode cX10_village 127 = .ok (.aload_n 0, 1) := by decide +kernel
theorem dX10_village_128 : decode cX10_village 128 = .ok (.getfield 209, 3) := by decide +kernel
theorem dX10_village_131 : decode cX10_village 131 = .ok (.iload_n 1, 1) := by decide +kernel
theorem dX10_village_132 : decode cX10_village 132 = .ok (.aload_n 0, 1) := by decide +kernel
theorem dX10_village_133 : decode cX10_village 133 = .ok (.getfield 99, 3) := by decide +kernel
theorem dX10_village_136 : decode cX10_village 136 = .ok (.iload_n 1, 1) := by decide +kernel
theorem dX10_village_137 : decode cX10_village 137 = .ok (.iaload, 1) := by decide +kernel
theorem dX10_village_138 : decode cX10_village 138 = .ok (.iastore, 1) := by decide +kernel
theorem dX10_village_139 : decode cX10_village 139 = .ok (.iinc 1 1, 3) := by decide +kernel
theorem dX10_village_142 : decode cX10_village 142 = .ok (.goto (-59), 3) := by decide +kernel
theorem dX10_village_145 : decode cX10_village 145 = .ok (.iconst 0, 1) := by decide +kernel
theorem dX10_village_146 : decode cX10_village 146 = .ok (.istore_n 1, 1) := by decide +kernel
theorem dX10_village_147 : decode cX10_village 147 = .ok (.iload_n 1, 1) := by decide +kernel
theorem dX10_village_148 : decode cX10_village 148 = .ok (.aload_n 0, 1) := by decide +kernel
theorem dX10_village_149 : decode cX10_village 149 = .ok (.getfield 285, 3) := by decide +kernel
theorem dX10_village_152 : decode cX10_village 152 = .ok (.if_icmp .ge 33, 3) := by decide +kernel
theorem dX10_village_155 : decode cX10_village 155 = .ok (.aload_n 0, 1) := by decide +kernel
theorem dX10_village_156 : decode cX10_village 156 = .ok (.getfield 212, 3) := by decide +kernel
theorem dX10_village_159 : decode cX10_village 159 = .ok (.iload_n 1, 1) := by decide +kernel
theorem dX10_village_160 : decode cX10_village 160 = .ok (.aload_n 0, 1) := by decide +kernel
theorem dX10_village_161 : decode cX10_village 161 = .ok (.getfield 108, 3) := by decide +kernel
theorem dX10_village_164 : decode cX10_village 164 = .ok (.iload_n 1, 1) := by decide +kernel
theorem dX10_village_165 : decode cX10_village 165 = .ok (.iaload, 1) := by decide +kernel
theorem dX10_village_166 : decode cX10_village 166 = .ok (.iastore, 1) := by decide +kernel
theorem dX10_village_167 : decode cX10_village 167 = .ok (.aload_n 0, 1) := by decide +kernel
theorem dX10_village_168 : decode cX10_village 168 = .ok (.getfield 215, 3) := by decide +kernel
theorem dX10_village_171 : decode cX10_village 171 = .ok (.iload_n 1, 1) := by decide +kernel
theorem dX10_village_172 : decode cX10_village 172 = .ok (.aload_n 0, 1) := by decide +kernel
theorem dX10_village_173 : decode cX10_village 173 = .ok (.getfield 111, 3) := by decide +kernel
theorem dX10_village_176 : decode cX10_village 176 = .ok (.iload_n 1, 1) := by decide +kernel
theorem dX10_village_177 : decode cX10_village 177 = .ok (.iaload, 1) := by decide +kernel
theorem dX10_village_178 : decode cX10_village 178 = .ok (.iastore, 1) := by decide +kernel
theorem dX10_village_179 : decode cX10_village 179 = .ok (.iinc 1 1, 3) := by decide +kernel
theorem dX10_village_182 : decode cX10_village 182 = .ok (.goto (-35), 3) := by decide +kernel
theorem dX10_village_185 : decode cX10_village 185 = .ok (.iconst 0, 1) := by decide +kernel
theorem dX10_village_186 : decode cX10_village 186 = .ok (.istore_n 1, 1) := by decide +kernel
theorem dX10_village_187 : decode cX10_village 187 = .ok (.iload_n 1, 1) := by decide +kernel
theorem dX10_village_188 : decode cX10_village 188 = .ok (.bipush 25, 2) := by decide +kernel
theorem dX10_village_190 : decode cX10_village 190 = .ok (.if_icmp .ge 45, 3) := by decide +kernel
theorem dX10_village_193 : decode cX10_village 193 = .ok (.aload_n 0, 1) := by decide +kernel
theorem dX10_village_194 : decode cX10_village 194 = .ok (.getfield 217, 3) := by decide +kernel
theorem dX10_village_197 : decode cX10_village 197 = .ok (.iload_n 1, 1) := by decide +kernel
theorem dX10_village_198 : decode cX10_village 198 = .ok (.iload_n 1, 1) := by decide +kernel
theorem dX10_village_199 : decode cX10_village 199 = .ok (.iconst 5, 1) := by decide +kernel
theorem dX10_village_200 : decode cX10_village 200 = .ok (.idiv, 1) := by decide +kernel
theorem dX10_village_201 : decode cX10_village 201 = .ok (.aload_n 0, 1) := by decide +kernel
theorem dX10_village_202 : decode cX10_village 202 = .ok (.getfield 285, 3) := by decide +kernel
theorem dX10_village_205 : decode cX10_village 205 = .ok (.if_icmp .ge 22, 3) := by decide +kernel
theorem dX10_village_208 : decode cX10_village 208 = .ok (.iload_n 1, 1) := by decide +kernel
theorem dX10_village_209 : decode cX10_village 209 = .ok (.iconst 5, 1) := by decide +kernel
theorem dX10_village_210 : decode cX10_village 210 = .ok (.irem, 1) := by decide +kernel
theorem dX10_village_211 : decode cX10_village 211 = .ok (.aload_n 0, 1) := by decide +kernel
theorem dX10_village_212 : decode cX10_village 212 = .ok (.getfield 285, 3) := by decide +kernel
theorem dX10_village_215 : decode cX10_village 215 = .ok (.if_icmp .ge 12, 3) := by decide +kernel
theorem dX10_village_218 : decode cX10_village 218 = .ok (.aload_n 0, 1) := by decide +kernel
theorem dX10_village_219 : decode cX10_village 219 = .ok (.getfield 114, 3) := by decide +kernel
theorem dX10_village_222 : decode cX10_village 222 = .ok (.iload_n 1, 1) := by decide +kernel
theorem dX10_village_223 : decode cX10_village 223 = .ok (.iaload, 1) := by decide +kernel
theorem dX10_village_224 : decode cX10_village 224 = .ok (.goto 4, 3) := by decide +kernel
theorem dX10_village_227 : decode cX10_village 227 = .ok (.iconst 0, 1) := by decide +kernel
theorem dX10_village_228 : decode cX10_village 228 = .ok (.iastore, 1) := by decide +kernel
theorem dX10_village_229 : decode cX10_village 229 = .ok (.iinc 1 1, 3) := by decide +kernel
theorem dX10_village_232 : decode cX10_village 232 = .ok (.goto (-45), 3) := by decide +kernel
theorem dX10_village_235 : decode cX10_village 235 = .ok (.aload_n 0, 1) := by decide +kernel
theorem dX10_village_236 : decode cX10_village 236 = .ok (.aload_n 0, 1) := by decide +kernel
theorem dX10_village_237 : decode cX10_village 237 = .ok (.getfield 219, 3) := by decide +kernel
theorem dX10_village_240 : decode cX10_village 240 = .ok (.invokevirtual 268, 3) := by decide +kernel
theorem dX10_village_243 : decode cX10_village 243 = .ok (.iconst 0, 1) := by decide +kernel
theorem dX10_village_244 : decode cX10_village 244 = .ok (.istore_n 1, 1) := by decide +kernel
theorem dX10_village_245 : decode cX10_village 245 = .ok (.iload_n 1, 1) := by decide +kernel
theorem dX10_village_246 : decode cX10_village 246 = .ok (.iconst 3, 1) := by decide +kernel
theorem dX10_village_247 : decode cX10_village 247 = .ok (.if_icmp .ge 16, 3) := by decide +kernel
theorem dX10_village_250 : decode cX10_village 250 = .ok (.aload_n 0, 1) := by decide +kernel
theorem dX10_village_251 : decode cX10_village 251 = .ok (.getfield 246, 3) := by decide +kernel
theorem dX10_village_254 : decode cX10_village 254 = .ok (.iload_n 1, 1) := by decide +kernel
theorem dX10_village_255 : decode cX10_village 255 = .ok (.iconst 0, 1) := by decide +kernel
theorem dX10_village_256 : decode cX10_village 256 = .ok (.bastore, 1) := by decide +kernel
theorem dX10_village_257 : decode cX10_village 257 = .ok (.iinc 1 1, 3) := by decide +kernel
theorem dX10_village_260 : decode cX10_village 260 = .ok (.goto (-15), 3) := by decide +kernel
theorem dX10_village_263 : decode cX10_village 263 = .ok (.aload_n 0, 1) := by decide +kernel
theorem dX10_village_264 : decode cX10_village 264 = .ok (.iconst 0, 1) := by decide +kernel
theorem dX10_village_265 : decode cX10_village 265 = .ok (.putfield 294, 3) := by decide +kernel
theorem dX10_village_268 : decode cX10_village 268 = .ok (.aload_n 0, 1) := by decide +kernel
theorem dX10_village_269 : decode cX10_village 269 = .ok (.getfield 291, 3) := by decide +kernel
theorem dX10_village_272 : decode cX10_village 272 = .ok (.ireturn, 1) := by decide +kernel
theorem dX10_fault_0 : decode cX10_fault 0 = .ok (.iload_n 1, 1) := by decide +kernel
theorem dX10_fault_1 : decode cX10_fault 1 = .ok (.ifCond .ne 10, 3) := by decide +kernel
theorem dX10_fault_4 : decode cX10_fault 4 = .ok (.aload_n 0, 1) := by decide +kernel
theorem dX10_fault_5 : decode cX10_fault 5 = .ok (.getfield 3, 3) := by decide +kernel
theorem dX10_fault_8 : decode cX10_fault 8 = .ok (.goto 16, 3) := by decide +kernel
theorem dX10_fault_11 : decode cX10_fault 11 = .ok (.iload_n 1, 1) := by decide +kernel
theorem dX10_fault_12 : decode cX10_fault 12 = .ok (.iconst 1, 1) := by decide +kernel
theorem dX10_fault_13 : decode cX10_fault 13 = .ok (.if_icmp .ne 10, 3) := by decide +kernel
theorem dX10_fault_16 : decode cX10_fault 16 = .ok (.aload_n 0, 1) := by decide +kernel
theorem dX10_fault_17 : decode cX10_fault 17 = .ok (.getfield 10, 3) := by decide +kernel
theorem dX10_fault_20 : decode cX10_fault 20 = .ok (.goto 4, 3) := by decide +kernel
theorem dX10_fault_23 : decode cX10_fault 23 = .ok (.iconst (-1), 1) := by decide +kernel
theorem dX10_fault_24 : decode cX10_fault 24 = .ok (.ireturn, 1) := by decide +kernel
set_option maxRecDepth 20000 in
theorem dX10_told_0 : decode cX10_told 0 = .ok (.iload_n 1, 1) := by decide +kernel
theorem dX10_told_1 : decode cX10_told 1 = .ok (.bipush 10, 2) := by decide +kernel
theorem dX10_told_3 : decode cX10_told 3 = .ok (.irem, 1) := by decide +kernel
theorem dX10_told_4 : decode cX10_told 4 = .ok (.istore_n 2, 1) := by decide +kernel
theorem dX10_told_5 : decode cX10_told 5 = .ok (.iload_n 1, 1) := by decide +kernel
theorem dX10_told_6 : decode cX10_told 6 = .ok (.i2l, 1) := by decide +kernel
theorem dX10_told_7 : decode cX10_told 7 = .ok (.ldc2_w 297, 3) := by decide +kernel
theorem dX10_told_10 : decode cX10_told 10 = .ok (.ldc2_w 299, 3) := by decide +kernel
theorem dX10_told_13 : decode cX10_told 13 = .ok (.invokestatic 52, 3) := by decide +kernel
theorem dX10_told_16 : decode cX10_told 16 = .ok (.ifCond .eq 12, 3) := by decide +kernel
theorem dX10_told_19 : decode cX10_told 19 = .ok (.aload_n 0, 1) := by decide +kernel
theorem dX10_told_20 : decode cX10_told 20 = .ok (.getfield 197, 3) := by decide +kernel
theorem dX10_told_23 : decode cX10_told 23 = .ok (.iload_n 1, 1) := by decide +kernel
theorem dX10_told_24 : decode cX10_told 24 = .ok (.iconst 2, 1) := by decide +kernel
theorem dX10_told_25 : decode cX10_told 25 = .ok (.isub, 1) := by decide +kernel
theorem dX10_told_26 : decode cX10_told 26 = .ok (.iaload, 1) := by decide +kernel
theorem dX10_told_27 : decode cX10_told 27 = .ok (.ireturn, 1) := by decide +kernel
theorem dX10_told_28 : decode cX10_told 28 = .ok (.iload_n 1, 1) := by decide +kernel
theorem dX10_told_29 : decode cX10_told 29 = .ok (.i2l, 1) := by decide +kernel
theorem dX10_told_30 : decode cX10_told 30 = .ok (.ldc2_w 301, 3) := by decide +kernel
theorem dX10_told_33 : decode cX10_told 33 = .ok (.ldc2_w 303, 3) := by decide +kernel
theorem dX10_told_36 : decode cX10_told 36 = .ok (.invokestatic 52, 3) := by decide +kernel
theorem dX10_told_39 : decode cX10_told 39 = .ok (.ifCond .eq 67, 3) := by decide +kernel
theorem dX10_told_42 : decode cX10_told 42 = .ok (.iload_n 2, 1) := by decide +kernel
theorem dX10_told_43 : decode cX10_told 43 = .ok (.aload_n 0, 1) := by decide +kernel
theorem dX10_told_44 : decode cX10_told 44 = .ok (.getfield 282, 3) := by decide +kernel
theorem dX10_told_47 : decode cX10_told 47 = .ok (.if_icmp .lt 7, 3) := by decide +kernel
theorem dX10_told_50 : decode cX10_told 50 = .ok (.iconst (-1), 1) := by decide +kernel
theorem dX10_told_51 : decode cX10_told 51 = .ok (.goto 54, 3) := by decide +kernel
theorem dX10_told_54 : decode cX10_told 54 = .ok (.iload_n 1, 1) := by decide +kernel
theorem dX10_told_55 : decode cX10_told 55 = .ok (.bipush 20, 2) := by decide +kernel
theorem dX10_told_57 : decode cX10_told 57 = .ok (.if_icmp .ge 12, 3) := by decide +kernel
theorem dX10_told_60 : decode cX10_told 60 = .ok (.aload_n 0, 1) := by decide +kernel
theorem dX10_told_61 : decode cX10_told 61 = .ok (.getfield 200, 3) := by decide +kernel
theorem dX10_told_64 : decode cX10_told 64 = .ok (.iload_n 2, 1) := by decide +kernel
theorem dX10_told_65 : decode cX10_told 65 = .ok (.iaload, 1) := by decide +kernel
theorem dX10_told_66 : decode cX10_told 66 = .ok (.goto 39, 3) := by decide +kernel
theorem dX10_told_69 : decode cX10_told 69 = .ok (.iload_n 1, 1) := by decide +kernel
theorem dX10_told_70 : decode cX10_told 70 = .ok (.bipush 30, 2) := by decide +kernel
theorem dX10_told_72 : decode cX10_told 72 = .ok (.if_icmp .ge 12, 3) := by decide +kernel
theorem dX10_told_75 : decode cX10_told 75 = .ok (.aload_n 0, 1) := by decide +kernel
theorem dX10_told_76 : decode cX10_told 76 = .ok (.getfield 203, 3) := by decide +kernel
theorem dX10_told_79 : decode cX10_told 79 = .ok (.iload_n 2, 1) := by decide +kernel
theorem dX10_told_80 : decode cX10_told 80 = .ok (.iaload, 1) := by decide +kernel
theorem dX10_told_81 : decode cX10_told 81 = .ok (.goto 24, 3) := by decide +kernel
theorem dX10_told_84 : decode cX10_told 84 = .ok (.iload_n 1, 1) := by decide +kernel
theorem dX10_told_85 : decode cX10_told 85 = .ok (.bipush 40, 2) := by decide +kernel
theorem dX10_told_87 : decode cX10_told 87 = .ok (.if_icmp .ge 12, 3) := by decide +kernel
theorem dX10_told_90 : decode cX10_told 90 = .ok (.aload_n 0, 1) := by decide +kernel
theorem dX10_told_91 : decode cX10_told 91 = .ok (.getfield 206, 3) := by decide +kernel
theorem dX10_told_94 : decode cX10_told 94 = .ok (.iload_n 2, 1) := by decide +kernel
theorem dX10_told_95 : decode cX10_told 95 = .ok (.iaload, 1) := by decide +kernel
theorem dX10_told_96 : decode cX10_told 96 = .ok (.goto 9, 3) := by decide +kernel
theorem dX10_told_99 : decode cX10_told 99 = .ok (.aload_n 0, 1) := by decide +kernel
theorem dX10_told_100 : decode cX10_told 100 = .ok (.getfield 209, 3) := by decide +kernel
theorem dX10_told_103 : decode cX10_told 103 = .ok (.iload_n 2, 1) := by decide +kernel
theorem dX10_told_104 : decode cX10_told 104 = .ok (.iaload, 1) := by decide +kernel
theorem dX10_told_105 : decode cX10_told 105 = .ok (.ireturn, 1) := by decide +kernel
theorem dX10_told_106 : decode cX10_told 106 = .ok (.iload_n 1, 1) := by decide +kernel
theorem dX10_told_107 : decode cX10_told 107 = .ok (.i2l, 1) := by decide +kernel
theorem dX10_told_108 : decode cX10_told 108 = .ok (.ldc2_w 305, 3) := by decide +kernel
theorem dX10_told_111 : decode cX10_told 111 = .ok (.ldc2_w 307, 3) := by decide +kernel
theorem dX10_told_114 : decode cX10_told 114 = .ok (.invokestatic 52, 3) := by decide +kernel
theorem dX10_told_117 : decode cX10_told 117 = .ok (.ifCond .eq 37, 3) := by decide +kernel
theorem dX10_told_120 : decode cX10_told 120 = .ok (.iload_n 2, 1) := by decide +kernel
theorem dX10_told_121 : decode cX10_told 121 = .ok (.aload_n 0, 1) := by decide +kernel
theorem dX10_told_122 : decode cX10_told 122 = .ok (.getfield 285, 3) := by decide +kernel
theorem dX10_told_125 : decode cX10_told 125 = .ok (.if_icmp .lt 7, 3) := by decide +kernel
theorem dX10_told_128 : decode cX10_told 128 = .ok (.iconst (-1), 1) := by decide +kernel
theorem dX10_told_129 : decode cX10_told 129 = .ok (.goto 24, 3) := by decide +kernel
theorem dX10_told_132 : decode cX10_told 132 = .ok (.iload_n 1, 1) := by decide +kernel
theorem dX10_told_133 : decode cX10_told 133 = .ok (.bipush 60, 2) := by decide +kernel
theorem dX10_told_135 : decode cX10_told 135 = .ok (.if_icmp .ge 12, 3) := by decide +kernel
theorem dX10_told_138 : decode cX10_told 138 = .ok (.aload_n 0, 1) := by decide +kernel
theorem dX10_told_139 : decode cX10_told 139 = .ok (.getfield 212, 3) := by decide +kernel
theorem dX10_told_142 : decode cX10_told 142 = .ok (.iload_n 2, 1) := by decide +kernel
theorem dX10_told_143 : decode cX10_told 143 = .ok (.iaload, 1) := by decide +kernel
theorem dX10_told_144 : decode cX10_told 144 = .ok (.goto 9, 3) := by decide +kernel
theorem dX10_told_147 : decode cX10_told 147 = .ok (.aload_n 0, 1) := by decide +kernel
theorem dX10_told_148 : decode cX10_told 148 = .ok (.getfield 215, 3) := by decide +kernel
theorem dX10_told_151 : decode cX10_told 151 = .ok (.iload_n 2, 1) := by decide +kernel
theorem dX10_told_152 : decode cX10_told 152 = .ok (.iaload, 1) := by decide +kernel
theorem dX10_told_153 : decode cX10_told 153 = .ok (.ireturn, 1) := by decide +kernel
theorem dX10_told_154 : decode cX10_told 154 = .ok (.iload_n 1, 1) := by decide +kernel
theorem dX10_told_155 : decode cX10_told 155 = .ok (.lookupswitch 56 #[(0, 33), (1, 38), (8, 43)], 33) := by decide +kernel
theorem dX10_told_188 : decode cX10_told 188 = .ok (.aload_n 0, 1) := by decide +kernel
theorem dX10_told_189 : decode cX10_told 189 = .ok (.getfield 282, 3) := by decide +kernel
theorem dX10_told_192 : decode cX10_told 192 = .ok (.ireturn, 1) := by decide +kernel
theorem dX10_told_193 : decode cX10_told 193 = .ok (.aload_n 0, 1) := by decide +kernel
theorem dX10_told_194 : decode cX10_told 194 = .ok (.getfield 285, 3) := by decide +kernel
theorem dX10_told_197 : decode cX10_told 197 = .ok (.ireturn, 1) := by decide +kernel
theorem dX10_told_198 : decode cX10_told 198 = .ok (.aload_n 0, 1) := by decide +kernel
theorem dX10_told_199 : decode cX10_told 199 = .ok (.getfield 288, 3) := by decide +kernel
theorem dX10_told_202 : decode cX10_told 202 = .ok (.ifCond .eq 7, 3) := by decide +kernel
theorem dX10_told_205 : decode cX10_told 205 = .ok (.iconst 1, 1) := by decide +kernel
theorem dX10_told_206 : decode cX10_told 206 = .ok (.goto 4, 3) := by decide +kernel
theorem dX10_told_209 : decode cX10_told 209 = .ok (.iconst 0, 1) := by decide +kernel
theorem dX10_told_210 : decode cX10_told 210 = .ok (.ireturn, 1) := by decide +kernel
theorem dX10_told_211 : decode cX10_told 211 = .ok (.iconst (-1), 1) := by decide +kernel
theorem dX10_told_212 : decode cX10_told 212 = .ok (.ireturn, 1) := by decide +kernel
set_option maxRecDepth 20000 in
theorem dX10_isHouse_0 : decode cX10_isHouse 0 = .ok (.iload_n 1, 1) := by decide +kernel
theorem dX10_isHouse_1 : decode cX10_isHouse 1 = .ok (.i2l, 1) := by decide +kernel
theorem dX10_isHouse_2 : decode cX10_isHouse 2 = .ok (.lconst 0, 1) := by decide +kernel
theorem dX10_isHouse_3 : decode cX10_isHouse 3 = .ok (.aload_n 0, 1) := by decide +kernel
theorem dX10_isHouse_4 : decode cX10_isHouse 4 = .ok (.getfield 282, 3) := by decide +kernel
theorem dX10_isHouse_7 : decode cX10_isHouse 7 = .ok (.i2l, 1) := by decide +kernel
theorem dX10_isHouse_8 : decode cX10_isHouse 8 = .ok (.lconst 1, 1) := by decide +kernel
theorem dX10_isHouse_9 : decode cX10_isHouse 9 = .ok (.lsub, 1) := by decide +kernel
theorem dX10_isHouse_10 : decode cX10_isHouse 10 = .ok (.invokestatic 52, 3) := by decide +kernel
theorem dX10_isHouse_13 : decode cX10_isHouse 13 = .ok (.ireturn, 1) := by decide +kernel
set_option maxRecDepth 20000 in
theorem dX10_isPerson_0 : decode cX10_isPerson 0 = .ok (.iload_n 1, 1) := by decide +kernel
theorem dX10_isPerson_1 : decode cX10_isPerson 1 = .ok (.i2l, 1) := by decide +kernel
theorem dX10_isPerson_2 : decode cX10_isPerson 2 = .ok (.lconst 0, 1) := by decide +kernel
theorem dX10_isPerson_3 : decode cX10_isPerson 3 = .ok (.aload_n 0, 1) := by decide +kernel
theorem dX10_isPerson_4 : decode cX10_isPerson 4 = .ok (.getfield 285, 3) := by decide +kernel
theorem dX10_isPerson_7 : decode cX10_isPerson 7 = .ok (.i2l, 1) := by decide +kernel
theorem dX10_isPerson_8 : decode cX10_isPerson 8 = .ok (.lconst 1, 1) := by decide +kernel
theorem dX10_isPerson_9 : decode cX10_isPerson 9 = .ok (.lsub, 1) := by decide +kernel
theorem dX10_isPerson_10 : decode cX10_isPerson 10 = .ok (.invokestatic 52, 3) := by decide +kernel
theorem dX10_isPerson_13 : decode cX10_isPerson 13 = .ok (.ireturn, 1) := by decide +kernel
set_option maxRecDepth 20000 in
theorem dX10_tie_0 : decode cX10_tie 0 = .ok (.aload_n 0, 1) := by decide +kernel
theorem dX10_tie_1 : decode cX10_tie 1 = .ok (.iload_n 1, 1) := by decide +kernel
theorem dX10_tie_2 : decode cX10_tie 2 = .ok (.invokevirtual 309, 3) := by decide +kernel
theorem dX10_tie_5 : decode cX10_tie 5 = .ok (.ifCond .eq 29, 3) := by decide +kernel
theorem dX10_tie_8 : decode cX10_tie 8 = .ok (.aload_n 0, 1) := by decide +kernel
theorem dX10_tie_9 : decode cX10_tie 9 = .ok (.iload_n 2, 1) := by decide +kernel
theorem dX10_tie_10 : decode cX10_tie 10 = .ok (.invokevirtual 309, 3) := by decide +kernel
theorem dX10_tie_13 : decode cX10_tie 13 = .ok (.ifCond .eq 21, 3) := by decide +kernel
theorem dX10_tie_16 : decode cX10_tie 16 = .ok (.iload_n 1, 1) := by decide +kernel
theorem dX10_tie_17 : decode cX10_tie 17 = .ok (.iload_n 2, 1) := by decide +kernel
theorem dX10_tie_18 : decode cX10_tie 18 = .ok (.if_icmp .eq 16, 3) := by decide +kernel
theorem dX10_tie_21 : decode cX10_tie 21 = .ok (.aload_n 0, 1) := by decide +kernel
theorem dX10_tie_22 : decode cX10_tie 22 = .ok (.getfield 217, 3) := by decide +kernel
theorem dX10_tie_25 : decode cX10_tie 25 = .ok (.iconst 5, 1) := by decide +kernel
theorem dX10_tie_26 : decode cX10_tie 26 = .ok (.iload_n 1, 1) := by decide +kernel
theorem dX10_tie_27 : decode cX10_tie 27 = .ok (.imul, 1) := by decide +kernel
theorem dX10_tie_28 : decode cX10_tie 28 = .ok (.iload_n 2, 1) := by decide +kernel
theorem dX10_tie_29 : decode cX10_tie 29 = .ok (.iadd, 1) := by decide +kernel
theorem dX10_tie_30 : decode cX10_tie 30 = .ok (.iaload, 1) := by decide +kernel
theorem dX10_tie_31 : decode cX10_tie 31 = .ok (.goto 6, 3) := by decide +kernel
theorem dX10_tie_34 : decode cX10_tie 34 = .ok (.sipush (-1000), 3) := by decide +kernel
theorem dX10_tie_37 : decode cX10_tie 37 = .ok (.ireturn, 1) := by decide +kernel
theorem dX10_placed_0 : decode cX10_placed 0 = .ok (.iload_n 0, 1) := by decide +kernel
theorem dX10_placed_1 : decode cX10_placed 1 = .ok (.iconst (-1), 1) := by decide +kernel
theorem dX10_placed_2 : decode cX10_placed 2 = .ok (.if_icmp .ne 7, 3) := by decide +kernel
theorem dX10_placed_5 : decode cX10_placed 5 = .ok (.iconst 5, 1) := by decide +kernel
theorem dX10_placed_6 : decode cX10_placed 6 = .ok (.goto 4, 3) := by decide +kernel
theorem dX10_placed_9 : decode cX10_placed 9 = .ok (.iload_n 0, 1) := by decide +kernel
theorem dX10_placed_10 : decode cX10_placed 10 = .ok (.ireturn, 1) := by decide +kernel
set_option maxRecDepth 20000 in
theorem dX10_begin_0 : decode cX10_begin 0 = .ok (.iconst 0, 1) := by decide +kernel
theorem dX10_begin_1 : decode cX10_begin 1 = .ok (.istore_n 2, 1) := by decide +kernel
theorem dX10_begin_2 : decode cX10_begin 2 = .ok (.iload_n 2, 1) := by decide +kernel
theorem dX10_begin_3 : decode cX10_begin 3 = .ok (.bipush 56, 2) := by decide +kernel
theorem dX10_begin_5 : decode cX10_begin 5 = .ok (.if_icmp .ge 13, 3) := by decide +kernel
theorem dX10_begin_8 : decode cX10_begin 8 = .ok (.aload_n 1, 1) := by decide +kernel
theorem dX10_begin_9 : decode cX10_begin 9 = .ok (.iload_n 2, 1) := by decide +kernel
theorem dX10_begin_10 : decode cX10_begin 10 = .ok (.iconst 0, 1) := by decide +kernel
theorem dX10_begin_11 : decode cX10_begin 11 = .ok (.iastore, 1) := by decide +kernel
theorem dX10_begin_12 : decode cX10_begin 12 = .ok (.iinc 2 1, 3) := by decide +kernel
theorem dX10_begin_15 : decode cX10_begin 15 = .ok (.goto (-13), 3) := by decide +kernel
theorem dX10_begin_18 : decode cX10_begin 18 = .ok (.iconst 0, 1) := by decide +kernel
theorem dX10_begin_19 : decode cX10_begin 19 = .ok (.istore_n 2, 1) := by decide +kernel
theorem dX10_begin_20 : decode cX10_begin 20 = .ok (.iload_n 2, 1) := by decide +kernel
theorem dX10_begin_21 : decode cX10_begin 21 = .ok (.aload_n 0, 1) := by decide +kernel
theorem dX10_begin_22 : decode cX10_begin 22 = .ok (.getfield 282, 3) := by decide +kernel
theorem dX10_begin_25 : decode cX10_begin 25 = .ok (.if_icmp .ge 33, 3) := by decide +kernel
theorem dX10_begin_28 : decode cX10_begin 28 = .ok (.aload_n 1, 1) := by decide +kernel
theorem dX10_begin_29 : decode cX10_begin 29 = .ok (.bipush 20, 2) := by decide +kernel
theorem dX10_begin_31 : decode cX10_begin 31 = .ok (.iload_n 2, 1) := by decide +kernel
theorem dX10_begin_32 : decode cX10_begin 32 = .ok (.iadd, 1) := by decide +kernel
theorem dX10_begin_33 : decode cX10_begin 33 = .ok (.aload_n 0, 1) := by decide +kernel
theorem dX10_begin_34 : decode cX10_begin 34 = .ok (.getfield 200, 3) := by decide +kernel
theorem dX10_begin_37 : decode cX10_begin 37 = .ok (.iload_n 2, 1) := by decide +kernel
theorem dX10_begin_38 : decode cX10_begin 38 = .ok (.iaload, 1) := by decide +kernel
theorem dX10_begin_39 : decode cX10_begin 39 = .ok (.iastore, 1) := by decide +kernel
theorem dX10_begin_40 : decode cX10_begin 40 = .ok (.aload_n 1, 1) := by decide +kernel
theorem dX10_begin_41 : decode cX10_begin 41 = .ok (.bipush 25, 2) := by decide +kernel
theorem dX10_begin_43 : decode cX10_begin 43 = .ok (.iload_n 2, 1) := by decide +kernel
theorem dX10_begin_44 : decode cX10_begin 44 = .ok (.iadd, 1) := by decide +kernel
theorem dX10_begin_45 : decode cX10_begin 45 = .ok (.aload_n 0, 1) := by decide +kernel
theorem dX10_begin_46 : decode cX10_begin 46 = .ok (.getfield 206, 3) := by decide +kernel
theorem dX10_begin_49 : decode cX10_begin 49 = .ok (.iload_n 2, 1) := by decide +kernel
theorem dX10_begin_50 : decode cX10_begin 50 = .ok (.iaload, 1) := by decide +kernel
theorem dX10_begin_51 : decode cX10_begin 51 = .ok (.iastore, 1) := by decide +kernel
theorem dX10_begin_52 : decode cX10_begin 52 = .ok (.iinc 2 1, 3) := by decide +kernel
theorem dX10_begin_55 : decode cX10_begin 55 = .ok (.goto (-35), 3) := by decide +kernel
theorem dX10_begin_58 : decode cX10_begin 58 = .ok (.iconst 0, 1) := by decide +kernel
theorem dX10_begin_59 : decode cX10_begin 59 = .ok (.istore_n 2, 1) := by decide +kernel
theorem dX10_begin_60 : decode cX10_begin 60 = .ok (.iload_n 2, 1) := by decide +kernel
theorem dX10_begin_61 : decode cX10_begin 61 = .ok (.iconst 5, 1) := by decide +kernel
theorem dX10_begin_62 : decode cX10_begin 62 = .ok (.if_icmp .ge 71, 3) := by decide +kernel
theorem dX10_begin_65 : decode cX10_begin 65 = .ok (.aload_n 1, 1) := by decide +kernel
theorem dX10_begin_66 : decode cX10_begin 66 = .ok (.iconst 0, 1) := by decide +kernel
theorem dX10_begin_67 : decode cX10_begin 67 = .ok (.iload_n 2, 1) := by decide +kernel
theorem dX10_begin_68 : decode cX10_begin 68 = .ok (.iadd, 1) := by decide +kernel
theorem dX10_begin_69 : decode cX10_begin 69 = .ok (.iload_n 2, 1) := by decide +kernel
theorem dX10_begin_70 : decode cX10_begin 70 = .ok (.aload_n 0, 1) := by decide +kernel
theorem dX10_begin_71 : decode cX10_begin 71 = .ok (.getfield 285, 3) := by decide +kernel
theorem dX10_begin_74 : decode cX10_begin 74 = .ok (.if_icmp .ge 15, 3) := by decide +kernel
theorem dX10_begin_77 : decode cX10_begin 77 = .ok (.aload_n 0, 1) := by decide +kernel
theorem dX10_begin_78 : decode cX10_begin 78 = .ok (.getfield 212, 3) := by decide +kernel
theorem dX10_begin_81 : decode cX10_begin 81 = .ok (.iload_n 2, 1) := by decide +kernel
theorem dX10_begin_82 : decode cX10_begin 82 = .ok (.iaload, 1) := by decide +kernel
theorem dX10_begin_83 : decode cX10_begin 83 = .ok (.invokestatic 312, 3) := by decide +kernel
theorem dX10_begin_86 : decode cX10_begin 86 = .ok (.goto 4, 3) := by decide +kernel
theorem dX10_begin_89 : decode cX10_begin 89 = .ok (.iconst 5, 1) := by decide +kernel
theorem dX10_begin_90 : decode cX10_begin 90 = .ok (.iastore, 1) := by decide +kernel
theorem dX10_begin_91 : decode cX10_begin 91 = .ok (.aload_n 1, 1) := by decide +kernel
theorem dX10_begin_92 : decode cX10_begin 92 = .ok (.bipush 30, 2) := by decide +kernel
theorem dX10_begin_94 : decode cX10_begin 94 = .ok (.iload_n 2, 1) := by decide +kernel
theorem dX10_begin_95 : decode cX10_begin 95 = .ok (.iadd, 1) := by decide +kernel
theorem dX10_begin_96 : decode cX10_begin 96 = .ok (.bipush 31, 2) := by decide +kernel
theorem dX10_begin_98 : decode cX10_begin 98 = .ok (.iastore, 1) := by decide +kernel
theorem dX10_begin_99 : decode cX10_begin 99 = .ok (.iconst 0, 1) := by decide +kernel
theorem dX10_begin_100 : decode cX10_begin 100 = .ok (.istore_n 3, 1) := by decide +kernel
theorem dX10_begin_101 : decode cX10_begin 101 = .ok (.iload_n 3, 1) := by decide +kernel
theorem dX10_begin_102 : decode cX10_begin 102 = .ok (.iconst 4, 1) := by decide +kernel
theorem dX10_begin_103 : decode cX10_begin 103 = .ok (.if_icmp .ge 24, 3) := by decide +kernel
theorem dX10_begin_106 : decode cX10_begin 106 = .ok (.aload_n 1, 1) := by decide +kernel
theorem dX10_begin_107 : decode cX10_begin 107 = .ok (.bipush 35, 2) := by decide +kernel
theorem dX10_begin_109 : decode cX10_begin 109 = .ok (.iconst 4, 1) := by decide +kernel
theorem dX10_begin_110 : decode cX10_begin 110 = .ok (.iload_n 2, 1) := by decide +kernel
theorem dX10_begin_111 : decode cX10_begin 111 = .ok (.imul, 1) := by decide +kernel
theorem dX10_begin_112 : decode cX10_begin 112 = .ok (.iadd, 1) := by decide +kernel
theorem dX10_begin_113 : decode cX10_begin 113 = .ok (.iload_n 3, 1) := by decide +kernel
theorem dX10_begin_114 : decode cX10_begin 114 = .ok (.iadd, 1) := by decide +kernel
theorem dX10_begin_115 : decode cX10_begin 115 = .ok (.aload_n 1, 1) := by decide +kernel
theorem dX10_begin_116 : decode cX10_begin 116 = .ok (.iconst 0, 1) := by decide +kernel
theorem dX10_begin_117 : decode cX10_begin 117 = .ok (.iload_n 2, 1) := by decide +kernel
theorem dX10_begin_118 : decode cX10_begin 118 = .ok (.iadd, 1) := by decide +kernel
theorem dX10_begin_119 : decode cX10_begin 119 = .ok (.iaload, 1) := by decide +kernel
theorem dX10_begin_120 : decode cX10_begin 120 = .ok (.iastore, 1) := by decide +kernel
theorem dX10_begin_121 : decode cX10_begin 121 = .ok (.iinc 3 1, 3) := by decide +kernel
theorem dX10_begin_124 : decode cX10_begin 124 = .ok (.goto (-23), 3) := by decide +kernel
theorem dX10_begin_127 : decode cX10_begin 127 = .ok (.iinc 2 1, 3) := by decide +kernel
theorem dX10_begin_130 : decode cX10_begin 130 = .ok (.goto (-70), 3) := by decide +kernel
theorem dX10_begin_133 : decode cX10_begin 133 = .ok (.return_, 1) := by decide +kernel
theorem dX10_after_0 : decode cX10_after 0 = .ok (.aload_n 0, 1) := by decide +kernel
theorem dX10_after_1 : decode cX10_after 1 = .ok (.getfield 225, 3) := by decide +kernel
theorem dX10_after_4 : decode cX10_after 4 = .ok (.iconst (-1), 1) := by decide +kernel
theorem dX10_after_5 : decode cX10_after 5 = .ok (.if_icmp .ne 12, 3) := by decide +kernel
theorem dX10_after_8 : decode cX10_after 8 = .ok (.aload_n 0, 1) := by decide +kernel
theorem dX10_after_9 : decode cX10_after 9 = .ok (.getfield 197, 3) := by decide +kernel
theorem dX10_after_12 : decode cX10_after 12 = .ok (.iconst 1, 1) := by decide +kernel
theorem dX10_after_13 : decode cX10_after 13 = .ok (.iaload, 1) := by decide +kernel
theorem dX10_after_14 : decode cX10_after 14 = .ok (.goto 7, 3) := by decide +kernel
theorem dX10_after_17 : decode cX10_after 17 = .ok (.aload_n 0, 1) := by decide +kernel
theorem dX10_after_18 : decode cX10_after 18 = .ok (.getfield 225, 3) := by decide +kernel
theorem dX10_after_21 : decode cX10_after 21 = .ok (.ireturn, 1) := by decide +kernel
theorem dX10_goesByLast_0 : decode cX10_goesByLast 0 = .ok (.aload_n 0, 1) := by decide +kernel
theorem dX10_goesByLast_1 : decode cX10_goesByLast 1 = .ok (.getfield 315, 3) := by decide +kernel
theorem dX10_goesByLast_4 : decode cX10_goesByLast 4 = .ok (.ifCond .eq 10, 3) := by decide +kernel
theorem dX10_goesByLast_7 : decode cX10_goesByLast 7 = .ok (.aload_n 0, 1) := by decide +kernel
theorem dX10_goesByLast_8 : decode cX10_goesByLast 8 = .ok (.getfield 318, 3) := by decide +kernel
theorem dX10_goesByLast_11 : decode cX10_goesByLast 11 = .ok (.goto 7, 3) := by decide +kernel
theorem dX10_goesByLast_14 : decode cX10_goesByLast 14 = .ok (.aload_n 0, 1) := by decide +kernel
theorem dX10_goesByLast_15 : decode cX10_goesByLast 15 = .ok (.getfield 288, 3) := by decide +kernel
theorem dX10_goesByLast_18 : decode cX10_goesByLast 18 = .ok (.ireturn, 1) := by decide +kernel
theorem dX10_worthAt_0 : decode cX10_worthAt 0 = .ok (.aload_n 0, 1) := by decide +kernel
theorem dX10_worthAt_1 : decode cX10_worthAt 1 = .ok (.getfield 233, 3) := by decide +kernel
theorem dX10_worthAt_4 : decode cX10_worthAt 4 = .ok (.iload_n 1, 1) := by decide +kernel
theorem dX10_worthAt_5 : decode cX10_worthAt 5 = .ok (.if_icmp .ne 15, 3) := by decide +kernel
theorem dX10_worthAt_8 : decode cX10_worthAt 8 = .ok (.iload_n 1, 1) := by decide +kernel
theorem dX10_worthAt_9 : decode cX10_worthAt 9 = .ok (.iconst (-1), 1) := by decide +kernel
theorem dX10_worthAt_10 : decode cX10_worthAt 10 = .ok (.if_icmp .eq 10, 3) := by decide +kernel
theorem dX10_worthAt_13 : decode cX10_worthAt 13 = .ok (.aload_n 0, 1) := by decide +kernel
theorem dX10_worthAt_14 : decode cX10_worthAt 14 = .ok (.getfield 230, 3) := by decide +kernel
theorem dX10_worthAt_17 : decode cX10_worthAt 17 = .ok (.goto 9, 3) := by decide +kernel
theorem dX10_worthAt_20 : decode cX10_worthAt 20 = .ok (.aload_n 0, 1) := by decide +kernel
theorem dX10_worthAt_21 : decode cX10_worthAt 21 = .ok (.getfield 203, 3) := by decide +kernel
theorem dX10_worthAt_24 : decode cX10_worthAt 24 = .ok (.iload_n 1, 1) := by decide +kernel
theorem dX10_worthAt_25 : decode cX10_worthAt 25 = .ok (.iaload, 1) := by decide +kernel
theorem dX10_worthAt_26 : decode cX10_worthAt 26 = .ok (.ireturn, 1) := by decide +kernel
theorem dX10_isGuest_0 : decode cX10_isGuest 0 = .ok (.aload_n 1, 1) := by decide +kernel
theorem dX10_isGuest_1 : decode cX10_isGuest 1 = .ok (.iconst 0, 1) := by decide +kernel
theorem dX10_isGuest_2 : decode cX10_isGuest 2 = .ok (.iload_n 2, 1) := by decide +kernel
theorem dX10_isGuest_3 : decode cX10_isGuest 3 = .ok (.iadd, 1) := by decide +kernel
theorem dX10_isGuest_4 : decode cX10_isGuest 4 = .ok (.iaload, 1) := by decide +kernel
theorem dX10_isGuest_5 : decode cX10_isGuest 5 = .ok (.iload_n 3, 1) := by decide +kernel
theorem dX10_isGuest_6 : decode cX10_isGuest 6 = .ok (.if_icmp .ne 17, 3) := by decide +kernel
theorem dX10_isGuest_9 : decode cX10_isGuest 9 = .ok (.aload_n 0, 1) := by decide +kernel
theorem dX10_isGuest_10 : decode cX10_isGuest 10 = .ok (.getfield 209, 3) := by decide +kernel
theorem dX10_isGuest_13 : decode cX10_isGuest 13 = .ok (.iload_n 3, 1) := by decide +kernel
theorem dX10_isGuest_14 : decode cX10_isGuest 14 = .ok (.iaload, 1) := by decide +kernel
theorem dX10_isGuest_15 : decode cX10_isGuest 15 = .ok (.iload_n 2, 1) := by decide +kernel
theorem dX10_isGuest_16 : decode cX10_isGuest 16 = .ok (.if_icmp .eq 7, 3) := by decide +kernel
theorem dX10_isGuest_19 : decode cX10_isGuest 19 = .ok (.iconst 1, 1) := by decide +kernel
theorem dX10_isGuest_20 : decode cX10_isGuest 20 = .ok (.goto 4, 3) := by decide +kernel
theorem dX10_isGuest_23 : decode cX10_isGuest 23 = .ok (.iconst 0, 1) := by decide +kernel
theorem dX10_isGuest_24 : decode cX10_isGuest 24 = .ok (.ireturn, 1) := by decide +kernel
set_option maxRecDepth 20000 in
theorem dX10_guests_0 : decode cX10_guests 0 = .ok (.iconst 0, 1) := by decide +kernel
theorem dX10_guests_1 : decode cX10_guests 1 = .ok (.istore_n 3, 1) := by decide +kernel
theorem dX10_guests_2 : decode cX10_guests 2 = .ok (.iconst 0, 1) := by decide +kernel
theorem dX10_guests_3 : decode cX10_guests 3 = .ok (.istore 4, 2) := by decide +kernel
theorem dX10_guests_5 : decode cX10_guests 5 = .ok (.iload 4, 2) := by decide +kernel
theorem dX10_guests_7 : decode cX10_guests 7 = .ok (.aload_n 0, 1) := by decide +kernel
theorem dX10_guests_8 : decode cX10_guests 8 = .ok (.getfield 285, 3) := by decide +kernel
theorem dX10_guests_11 : decode cX10_guests 11 = .ok (.if_icmp .ge 28, 3) := by decide +kernel
theorem dX10_guests_14 : decode cX10_guests 14 = .ok (.iload_n 3, 1) := by decide +kernel
theorem dX10_guests_15 : decode cX10_guests 15 = .ok (.aload_n 0, 1) := by decide +kernel
theorem dX10_guests_16 : decode cX10_guests 16 = .ok (.aload_n 1, 1) := by decide +kernel
theorem dX10_guests_17 : decode cX10_guests 17 = .ok (.iload 4, 2) := by decide +kernel
theorem dX10_guests_19 : decode cX10_guests 19 = .ok (.iload_n 2, 1) := by decide +kernel
theorem dX10_guests_20 : decode cX10_guests 20 = .ok (.invokevirtual 321, 3) := by decide +kernel
theorem dX10_guests_23 : decode cX10_guests 23 = .ok (.ifCond .eq 7, 3) := by decide +kernel
theorem dX10_guests_26 : decode cX10_guests 26 = .ok (.iconst 1, 1) := by decide +kernel
theorem dX10_guests_27 : decode cX10_guests 27 = .ok (.goto 4, 3) := by decide +kernel
theorem dX10_guests_30 : decode cX10_guests 30 = .ok (.iconst 0, 1) := by decide +kernel
theorem dX10_guests_31 : decode cX10_guests 31 = .ok (.iadd, 1) := by decide +kernel
theorem dX10_guests_32 : decode cX10_guests 32 = .ok (.istore_n 3, 1) := by decide +kernel
theorem dX10_guests_33 : decode cX10_guests 33 = .ok (.iinc 4 1, 3) := by decide +kernel
theorem dX10_guests_36 : decode cX10_guests 36 = .ok (.goto (-31), 3) := by decide +kernel
theorem dX10_guests_39 : decode cX10_guests 39 = .ok (.iload_n 3, 1) := by decide +kernel
theorem dX10_guests_40 : decode cX10_guests 40 = .ok (.ireturn, 1) := by decide +kernel
set_option maxRecDepth 20000 in
theorem dX10_has_0 : decode cX10_has 0 = .ok (.iconst (-1), 1) := by decide +kernel
theorem dX10_has_1 : decode cX10_has 1 = .ok (.istore_n 3, 1) := by decide +kernel
theorem dX10_has_2 : decode cX10_has 2 = .ok (.iconst 0, 1) := by decide +kernel
theorem dX10_has_3 : decode cX10_has 3 = .ok (.istore 4, 2) := by decide +kernel
theorem dX10_has_5 : decode cX10_has 5 = .ok (.iload 4, 2) := by decide +kernel
theorem dX10_has_7 : decode cX10_has 7 = .ok (.aload_n 0, 1) := by decide +kernel
theorem dX10_has_8 : decode cX10_has 8 = .ok (.getfield 285, 3) := by decide +kernel
theorem dX10_has_11 : decode cX10_has 11 = .ok (.if_icmp .ge 94, 3) := by decide +kernel
theorem dX10_has_14 : decode cX10_has 14 = .ok (.aload_n 0, 1) := by decide +kernel
theorem dX10_has_15 : decode cX10_has 15 = .ok (.aload_n 1, 1) := by decide +kernel
theorem dX10_has_16 : decode cX10_has 16 = .ok (.iload 4, 2) := by decide +kernel
theorem dX10_has_18 : decode cX10_has 18 = .ok (.iload_n 2, 1) := by decide +kernel
theorem dX10_has_19 : decode cX10_has 19 = .ok (.invokevirtual 321, 3) := by decide +kernel
theorem dX10_has_22 : decode cX10_has 22 = .ok (.ifCond .eq 77, 3) := by decide +kernel
theorem dX10_has_25 : decode cX10_has 25 = .ok (.aload_n 1, 1) := by decide +kernel
theorem dX10_has_26 : decode cX10_has 26 = .ok (.iconst 5, 1) := by decide +kernel
theorem dX10_has_27 : decode cX10_has 27 = .ok (.iload 4, 2) := by decide +kernel
theorem dX10_has_29 : decode cX10_has 29 = .ok (.iadd, 1) := by decide +kernel
theorem dX10_has_30 : decode cX10_has 30 = .ok (.iaload, 1) := by decide +kernel
theorem dX10_has_31 : decode cX10_has 31 = .ok (.aload_n 0, 1) := by decide +kernel
theorem dX10_has_32 : decode cX10_has 32 = .ok (.invokevirtual 325, 3) := by decide +kernel
theorem dX10_has_35 : decode cX10_has 35 = .ok (.if_icmp .lt 6, 3) := by decide +kernel
theorem dX10_has_38 : decode cX10_has 38 = .ok (.goto 61, 3) := by decide +kernel
theorem dX10_has_41 : decode cX10_has 41 = .ok (.iload_n 3, 1) := by decide +kernel
theorem dX10_has_42 : decode cX10_has 42 = .ok (.iconst (-1), 1) := by decide +kernel
theorem dX10_has_43 : decode cX10_has 43 = .ok (.if_icmp .eq 41, 3) := by decide +kernel
theorem dX10_has_46 : decode cX10_has 46 = .ok (.aload_n 0, 1) := by decide +kernel
theorem dX10_has_47 : decode cX10_has 47 = .ok (.invokevirtual 327, 3) := by decide +kernel
theorem dX10_has_50 : decode cX10_has 50 = .ok (.ifCond .eq 20, 3) := by decide +kernel
theorem dX10_has_53 : decode cX10_has 53 = .ok (.aload_n 1, 1) := by decide +kernel
theorem dX10_has_54 : decode cX10_has 54 = .ok (.iconst 5, 1) := by decide +kernel
theorem dX10_has_55 : decode cX10_has 55 = .ok (.iload 4, 2) := by decide +kernel
theorem dX10_has_57 : decode cX10_has 57 = .ok (.iadd, 1) := by decide +kernel
theorem dX10_has_58 : decode cX10_has 58 = .ok (.iaload, 1) := by decide +kernel
theorem dX10_has_59 : decode cX10_has 59 = .ok (.aload_n 1, 1) := by decide +kernel
theorem dX10_has_60 : decode cX10_has 60 = .ok (.iconst 5, 1) := by decide +kernel
theorem dX10_has_61 : decode cX10_has 61 = .ok (.iload_n 3, 1) := by decide +kernel
theorem dX10_has_62 : decode cX10_has 62 = .ok (.iadd, 1) := by decide +kernel
theorem dX10_has_63 : decode cX10_has 63 = .ok (.iaload, 1) := by decide +kernel
theorem dX10_has_64 : decode cX10_has 64 = .ok (.if_icmp .gt 24, 3) := by decide +kernel
theorem dX10_has_67 : decode cX10_has 67 = .ok (.goto 17, 3) := by decide +kernel
theorem dX10_has_70 : decode cX10_has 70 = .ok (.aload_n 1, 1) := by decide +kernel
theorem dX10_has_71 : decode cX10_has 71 = .ok (.iconst 5, 1) := by decide +kernel
theorem dX10_has_72 : decode cX10_has 72 = .ok (.iload 4, 2) := by decide +kernel
theorem dX10_has_74 : decode cX10_has 74 = .ok (.iadd, 1) := by decide +kernel
theorem dX10_has_75 : decode cX10_has 75 = .ok (.iaload, 1) := by decide +kernel
theorem dX10_has_76 : decode cX10_has 76 = .ok (.aload_n 1, 1) := by decide +kernel
theorem dX10_has_77 : decode cX10_has 77 = .ok (.iconst 5, 1) := by decide +kernel
theorem dX10_has_78 : decode cX10_has 78 = .ok (.iload_n 3, 1) := by decide +kernel
theorem dX10_has_79 : decode cX10_has 79 = .ok (.iadd, 1) := by decide +kernel
theorem dX10_has_80 : decode cX10_has 80 = .ok (.iaload, 1) := by decide +kernel
theorem dX10_has_81 : decode cX10_has 81 = .ok (.if_icmp .le 7, 3) := by decide +kernel
theorem dX10_has_84 : decode cX10_has 84 = .ok (.iconst 1, 1) := by decide +kernel
theorem dX10_has_85 : decode cX10_has 85 = .ok (.goto 4, 3) := by decide +kernel
theorem dX10_has_88 : decode cX10_has 88 = .ok (.iconst 0, 1) := by decide +kernel
theorem dX10_has_89 : decode cX10_has 89 = .ok (.istore 5, 2) := by decide +kernel
theorem dX10_has_91 : decode cX10_has 91 = .ok (.iload 5, 2) := by decide +kernel
theorem dX10_has_93 : decode cX10_has 93 = .ok (.ifCond .eq 6, 3) := by decide +kernel
theorem dX10_has_96 : decode cX10_has 96 = .ok (.iload 4, 2) := by decide +kernel
theorem dX10_has_98 : decode cX10_has 98 = .ok (.istore_n 3, 1) := by decide +kernel
theorem dX10_has_99 : decode cX10_has 99 = .ok (.iinc 4 1, 3) := by decide +kernel
theorem dX10_has_102 : decode cX10_has 102 = .ok (.goto (-97), 3) := by decide +kernel
theorem dX10_has_105 : decode cX10_has 105 = .ok (.iload_n 3, 1) := by decide +kernel
theorem dX10_has_106 : decode cX10_has 106 = .ok (.iconst (-1), 1) := by decide +kernel
theorem dX10_has_107 : decode cX10_has 107 = .ok (.if_icmp .eq 7, 3) := by decide +kernel
theorem dX10_has_110 : decode cX10_has 110 = .ok (.iload_n 3, 1) := by decide +kernel
theorem dX10_has_111 : decode cX10_has 111 = .ok (.goto 37, 3) := by decide +kernel
theorem dX10_has_114 : decode cX10_has 114 = .ok (.aload_n 0, 1) := by decide +kernel
theorem dX10_has_115 : decode cX10_has 115 = .ok (.getfield 209, 3) := by decide +kernel
theorem dX10_has_118 : decode cX10_has 118 = .ok (.iload_n 2, 1) := by decide +kernel
theorem dX10_has_119 : decode cX10_has 119 = .ok (.iaload, 1) := by decide +kernel
theorem dX10_has_120 : decode cX10_has 120 = .ok (.iconst (-1), 1) := by decide +kernel
theorem dX10_has_121 : decode cX10_has 121 = .ok (.if_icmp .eq 26, 3) := by decide +kernel
theorem dX10_has_124 : decode cX10_has 124 = .ok (.aload_n 1, 1) := by decide +kernel
theorem dX10_has_125 : decode cX10_has 125 = .ok (.iconst 0, 1) := by decide +kernel
theorem dX10_has_126 : decode cX10_has 126 = .ok (.aload_n 0, 1) := by decide +kernel
theorem dX10_has_127 : decode cX10_has 127 = .ok (.getfield 209, 3) := by decide +kernel
theorem dX10_has_130 : decode cX10_has 130 = .ok (.iload_n 2, 1) := by decide +kernel
theorem dX10_has_131 : decode cX10_has 131 = .ok (.iaload, 1) := by decide +kernel
theorem dX10_has_132 : decode cX10_has 132 = .ok (.iadd, 1) := by decide +kernel
theorem dX10_has_133 : decode cX10_has 133 = .ok (.iaload, 1) := by decide +kernel
theorem dX10_has_134 : decode cX10_has 134 = .ok (.iload_n 2, 1) := by decide +kernel
theorem dX10_has_135 : decode cX10_has 135 = .ok (.if_icmp .ne 12, 3) := by decide +kernel
theorem dX10_has_138 : decode cX10_has 138 = .ok (.aload_n 0, 1) := by decide +kernel
theorem dX10_has_139 : decode cX10_has 139 = .ok (.getfield 209, 3) := by decide +kernel
theorem dX10_has_142 : decode cX10_has 142 = .ok (.iload_n 2, 1) := by decide +kernel
theorem dX10_has_143 : decode cX10_has 143 = .ok (.iaload, 1) := by decide +kernel
theorem dX10_has_144 : decode cX10_has 144 = .ok (.goto 4, 3) := by decide +kernel
theorem dX10_has_147 : decode cX10_has 147 = .ok (.iconst (-1), 1) := by decide +kernel
theorem dX10_has_148 : decode cX10_has 148 = .ok (.ireturn, 1) := by decide +kernel
theorem dX10_works_0 : decode cX10_works 0 = .ok (.aload_n 0, 1) := by decide +kernel
theorem dX10_works_1 : decode cX10_works 1 = .ok (.getfield 215, 3) := by decide +kernel
theorem dX10_works_4 : decode cX10_works 4 = .ok (.iload_n 2, 1) := by decide +kernel
theorem dX10_works_5 : decode cX10_works 5 = .ok (.iaload, 1) := by decide +kernel
theorem dX10_works_6 : decode cX10_works 6 = .ok (.aload_n 1, 1) := by decide +kernel
theorem dX10_works_7 : decode cX10_works 7 = .ok (.bipush 55, 2) := by decide +kernel
theorem dX10_works_9 : decode cX10_works 9 = .ok (.iaload, 1) := by decide +kernel
theorem dX10_works_10 : decode cX10_works 10 = .ok (.iconst 4, 1) := by decide +kernel
theorem dX10_works_11 : decode cX10_works 11 = .ok (.irem, 1) := by decide +kernel
theorem dX10_works_12 : decode cX10_works 12 = .ok (.ishr, 1) := by decide +kernel
theorem dX10_works_13 : decode cX10_works 13 = .ok (.iconst 1, 1) := by decide +kernel
theorem dX10_works_14 : decode cX10_works 14 = .ok (.iand, 1) := by decide +kernel
theorem dX10_works_15 : decode cX10_works 15 = .ok (.iconst 1, 1) := by decide +kernel
theorem dX10_works_16 : decode cX10_works 16 = .ok (.if_icmp .ne 7, 3) := by decide +kernel
theorem dX10_works_19 : decode cX10_works 19 = .ok (.iconst 1, 1) := by decide +kernel
theorem dX10_works_20 : decode cX10_works 20 = .ok (.goto 4, 3) := by decide +kernel
theorem dX10_works_23 : decode cX10_works 23 = .ok (.iconst 0, 1) := by decide +kernel
theorem dX10_works_24 : decode cX10_works 24 = .ok (.ireturn, 1) := by decide +kernel
theorem dX10_draw_0 : decode cX10_draw 0 = .ok (.ldc2_w 330, 3) := by decide +kernel
theorem dX10_draw_3 : decode cX10_draw 3 = .ok (.aload_n 0, 1) := by decide +kernel
theorem dX10_draw_4 : decode cX10_draw 4 = .ok (.bipush 56, 2) := by decide +kernel
theorem dX10_draw_6 : decode cX10_draw 6 = .ok (.iaload, 1) := by decide +kernel
theorem dX10_draw_7 : decode cX10_draw 7 = .ok (.i2l, 1) := by decide +kernel
theorem dX10_draw_8 : decode cX10_draw 8 = .ok (.lmul, 1) := by decide +kernel
theorem dX10_draw_9 : decode cX10_draw 9 = .ok (.ldc2_w 332, 3) := by decide +kernel
theorem dX10_draw_12 : decode cX10_draw 12 = .ok (.ladd, 1) := by decide +kernel
theorem dX10_draw_13 : decode cX10_draw 13 = .ok (.ldc2_w 334, 3) := by decide +kernel
theorem dX10_draw_16 : decode cX10_draw 16 = .ok (.lrem, 1) := by decide +kernel
theorem dX10_draw_17 : decode cX10_draw 17 = .ok (.lstore_n 2, 1) := by decide +kernel
theorem dX10_draw_18 : decode cX10_draw 18 = .ok (.aload_n 0, 1) := by decide +kernel
theorem dX10_draw_19 : decode cX10_draw 19 = .ok (.bipush 56, 2) := by decide +kernel
theorem dX10_draw_21 : decode cX10_draw 21 = .ok (.lload_n 2, 1) := by decide +kernel
theorem dX10_draw_22 : decode cX10_draw 22 = .ok (.l2i, 1) := by decide +kernel
theorem dX10_draw_23 : decode cX10_draw 23 = .ok (.iastore, 1) := by decide +kernel
theorem dX10_draw_24 : decode cX10_draw 24 = .ok (.lload_n 2, 1) := by decide +kernel
theorem dX10_draw_25 : decode cX10_draw 25 = .ok (.ldc2_w 336, 3) := by decide +kernel
theorem dX10_draw_28 : decode cX10_draw 28 = .ok (.ldiv, 1) := by decide +kernel
theorem dX10_draw_29 : decode cX10_draw 29 = .ok (.iload_n 1, 1) := by decide +kernel
theorem dX10_draw_30 : decode cX10_draw 30 = .ok (.i2l, 1) := by decide +kernel
theorem dX10_draw_31 : decode cX10_draw 31 = .ok (.lrem, 1) := by decide +kernel
theorem dX10_draw_32 : decode cX10_draw 32 = .ok (.l2i, 1) := by decide +kernel
theorem dX10_draw_33 : decode cX10_draw 33 = .ok (.ireturn, 1) := by decide +kernel
set_option maxRecDepth 20000 in
theorem dX10_planWishes_0 : decode cX10_planWishes 0 = .ok (.iconst 0, 1) := by decide +kernel
theorem dX10_planWishes_1 : decode cX10_planWishes 1 = .ok (.istore_n 2, 1) := by decide +kernel
theorem dX10_planWishes_2 : decode cX10_planWishes 2 = .ok (.iload_n 2, 1) := by decide +kernel
theorem dX10_planWishes_3 : decode cX10_planWishes 3 = .ok (.aload_n 0, 1) := by decide +kernel
theorem dX10_planWishes_4 : decode cX10_planWishes 4 = .ok (.getfield 285, 3) := by decide +kernel
theorem dX10_planWishes_7 : decode cX10_planWishes 7 = .ok (.if_icmp .ge 43, 3) := by decide +kernel
theorem dX10_planWishes_10 : decode cX10_planWishes 10 = .ok (.aload_n 0, 1) := by decide +kernel
theorem dX10_planWishes_11 : decode cX10_planWishes 11 = .ok (.getfield 236, 3) := by decide +kernel
theorem dX10_planWishes_14 : decode cX10_planWishes 14 = .ok (.iload_n 2, 1) := by decide +kernel
theorem dX10_planWishes_15 : decode cX10_planWishes 15 = .ok (.aload_n 0, 1) := by decide +kernel
theorem dX10_planWishes_16 : decode cX10_planWishes 16 = .ok (.aload_n 1, 1) := by decide +kernel
theorem dX10_planWishes_17 : decode cX10_planWishes 17 = .ok (.iload_n 2, 1) := by decide +kernel
theorem dX10_planWishes_18 : decode cX10_planWishes 18 = .ok (.invokevirtual 338, 3) := by decide +kernel
theorem dX10_planWishes_21 : decode cX10_planWishes 21 = .ok (.ifCond .eq 7, 3) := by decide +kernel
theorem dX10_planWishes_24 : decode cX10_planWishes 24 = .ok (.iconst 5, 1) := by decide +kernel
theorem dX10_planWishes_25 : decode cX10_planWishes 25 = .ok (.goto 18, 3) := by decide +kernel
theorem dX10_planWishes_28 : decode cX10_planWishes 28 = .ok (.aload_n 1, 1) := by decide +kernel
theorem dX10_planWishes_29 : decode cX10_planWishes 29 = .ok (.bipush 35, 2) := by decide +kernel
theorem dX10_planWishes_31 : decode cX10_planWishes 31 = .ok (.iconst 4, 1) := by decide +kernel
theorem dX10_planWishes_32 : decode cX10_planWishes 32 = .ok (.iload_n 2, 1) := by decide +kernel
theorem dX10_planWishes_33 : decode cX10_planWishes 33 = .ok (.imul, 1) := by decide +kernel
theorem dX10_planWishes_34 : decode cX10_planWishes 34 = .ok (.iadd, 1) := by decide +kernel
theorem dX10_planWishes_35 : decode cX10_planWishes 35 = .ok (.aload_n 1, 1) := by decide +kernel
theorem dX10_planWishes_36 : decode cX10_planWishes 36 = .ok (.bipush 55, 2) := by decide +kernel
theorem dX10_planWishes_38 : decode cX10_planWishes 38 = .ok (.iaload, 1) := by decide +kernel
theorem dX10_planWishes_39 : decode cX10_planWishes 39 = .ok (.iconst 4, 1) := by decide +kernel
theorem dX10_planWishes_40 : decode cX10_planWishes 40 = .ok (.irem, 1) := by decide +kernel
theorem dX10_planWishes_41 : decode cX10_planWishes 41 = .ok (.iadd, 1) := by decide +kernel
theorem dX10_planWishes_42 : decode cX10_planWishes 42 = .ok (.iaload, 1) := by decide +kernel
theorem dX10_planWishes_43 : decode cX10_planWishes 43 = .ok (.iastore, 1) := by decide +kernel
theorem dX10_planWishes_44 : decode cX10_planWishes 44 = .ok (.iinc 2 1, 3) := by decide +kernel
theorem dX10_planWishes_47 : decode cX10_planWishes 47 = .ok (.goto (-45), 3) := by decide +kernel
theorem dX10_planWishes_50 : decode cX10_planWishes 50 = .ok (.return_, 1) := by decide +kernel
set_option maxRecDepth 20000 in
theorem dX10_strolls_0 : decode cX10_strolls 0 = .ok (.iconst 0, 1) := by decide +kernel
theorem dX10_strolls_1 : decode cX10_strolls 1 = .ok (.istore_n 2, 1) := by decide +kernel
theorem dX10_strolls_2 : decode cX10_strolls 2 = .ok (.iload_n 2, 1) := by decide +kernel
theorem dX10_strolls_3 : decode cX10_strolls 3 = .ok (.aload_n 0, 1) := by decide +kernel
theorem dX10_strolls_4 : decode cX10_strolls 4 = .ok (.getfield 285, 3) := by decide +kernel
theorem dX10_strolls_7 : decode cX10_strolls 7 = .ok (.if_icmp .ge 75, 3) := by decide +kernel
theorem dX10_strolls_10 : decode cX10_strolls 10 = .ok (.aload_n 0, 1) := by decide +kernel
theorem dX10_strolls_11 : decode cX10_strolls 11 = .ok (.getfield 197, 3) := by decide +kernel
theorem dX10_strolls_14 : decode cX10_strolls 14 = .ok (.iconst 5, 1) := by decide +kernel
theorem dX10_strolls_15 : decode cX10_strolls 15 = .ok (.iaload, 1) := by decide +kernel
theorem dX10_strolls_16 : decode cX10_strolls 16 = .ok (.ifCond .le 66, 3) := by decide +kernel
theorem dX10_strolls_19 : decode cX10_strolls 19 = .ok (.aload_n 1, 1) := by decide +kernel
theorem dX10_strolls_20 : decode cX10_strolls 20 = .ok (.bipush 100, 2) := by decide +kernel
theorem dX10_strolls_22 : decode cX10_strolls 22 = .ok (.invokestatic 342, 3) := by decide +kernel
theorem dX10_strolls_25 : decode cX10_strolls 25 = .ok (.aload_n 0, 1) := by decide +kernel
theorem dX10_strolls_26 : decode cX10_strolls 26 = .ok (.getfield 197, 3) := by decide +kernel
theorem dX10_strolls_29 : decode cX10_strolls 29 = .ok (.iconst 5, 1) := by decide +kernel
theorem dX10_strolls_30 : decode cX10_strolls 30 = .ok (.iaload, 1) := by decide +kernel
theorem dX10_strolls_31 : decode cX10_strolls 31 = .ok (.if_icmp .ge 45, 3) := by decide +kernel
theorem dX10_strolls_34 : decode cX10_strolls 34 = .ok (.aload_n 0, 1) := by decide +kernel
theorem dX10_strolls_35 : decode cX10_strolls 35 = .ok (.aload_n 1, 1) := by decide +kernel
theorem dX10_strolls_36 : decode cX10_strolls 36 = .ok (.iload_n 2, 1) := by decide +kernel
theorem dX10_strolls_37 : decode cX10_strolls 37 = .ok (.invokevirtual 338, 3) := by decide +kernel
theorem dX10_strolls_40 : decode cX10_strolls 40 = .ok (.ifCond .eq 6, 3) := by decide +kernel
theorem dX10_strolls_43 : decode cX10_strolls 43 = .ok (.goto 33, 3) := by decide +kernel
theorem dX10_strolls_46 : decode cX10_strolls 46 = .ok (.aload_n 1, 1) := by decide +kernel
theorem dX10_strolls_47 : decode cX10_strolls 47 = .ok (.aload_n 0, 1) := by decide +kernel
theorem dX10_strolls_48 : decode cX10_strolls 48 = .ok (.getfield 282, 3) := by decide +kernel
theorem dX10_strolls_51 : decode cX10_strolls 51 = .ok (.iconst 1, 1) := by decide +kernel
theorem dX10_strolls_52 : decode cX10_strolls 52 = .ok (.iadd, 1) := by decide +kernel
theorem dX10_strolls_53 : decode cX10_strolls 53 = .ok (.invokestatic 342, 3) := by decide +kernel
theorem dX10_strolls_56 : decode cX10_strolls 56 = .ok (.istore_n 3, 1) := by decide +kernel
theorem dX10_strolls_57 : decode cX10_strolls 57 = .ok (.aload_n 0, 1) := by decide +kernel
theorem dX10_strolls_58 : decode cX10_strolls 58 = .ok (.getfield 236, 3) := by decide +kernel
theorem dX10_strolls_61 : decode cX10_strolls 61 = .ok (.iload_n 2, 1) := by decide +kernel
theorem dX10_strolls_62 : decode cX10_strolls 62 = .ok (.iload_n 3, 1) := by decide +kernel
theorem dX10_strolls_63 : decode cX10_strolls 63 = .ok (.aload_n 0, 1) := by decide +kernel
theorem dX10_strolls_64 : decode cX10_strolls 64 = .ok (.getfield 282, 3) := by decide +kernel
theorem dX10_strolls_67 : decode cX10_strolls 67 = .ok (.if_icmp .ne 7, 3) := by decide +kernel
theorem dX10_strolls_70 : decode cX10_strolls 70 = .ok (.iconst 5, 1) := by decide +kernel
theorem dX10_strolls_71 : decode cX10_strolls 71 = .ok (.goto 4, 3) := by decide +kernel
theorem dX10_strolls_74 : decode cX10_strolls 74 = .ok (.iload_n 3, 1) := by decide +kernel
theorem dX10_strolls_75 : decode cX10_strolls 75 = .ok (.iastore, 1) := by decide +kernel
theorem dX10_strolls_76 : decode cX10_strolls 76 = .ok (.iinc 2 1, 3) := by decide +kernel
theorem dX10_strolls_79 : decode cX10_strolls 79 = .ok (.goto (-77), 3) := by decide +kernel
theorem dX10_strolls_82 : decode cX10_strolls 82 = .ok (.return_, 1) := by decide +kernel
set_option maxRecDepth 20000 in
theorem dX10_comes_0 : decode cX10_comes 0 = .ok (.aload_n 0, 1) := by decide +kernel
theorem dX10_comes_1 : decode cX10_comes 1 = .ok (.getfield 236, 3) := by decide +kernel
theorem dX10_comes_4 : decode cX10_comes 4 = .ok (.iload_n 2, 1) := by decide +kernel
theorem dX10_comes_5 : decode cX10_comes 5 = .ok (.iaload, 1) := by decide +kernel
theorem dX10_comes_6 : decode cX10_comes 6 = .ok (.istore_n 3, 1) := by decide +kernel
theorem dX10_comes_7 : decode cX10_comes 7 = .ok (.iload_n 3, 1) := by decide +kernel
theorem dX10_comes_8 : decode cX10_comes 8 = .ok (.iconst 5, 1) := by decide +kernel
theorem dX10_comes_9 : decode cX10_comes 9 = .ok (.if_icmp .ne 4, 3) := by decide +kernel
theorem dX10_comes_12 : decode cX10_comes 12 = .ok (.return_, 1) := by decide +kernel
theorem dX10_comes_13 : decode cX10_comes 13 = .ok (.aload_n 0, 1) := by decide +kernel
theorem dX10_comes_14 : decode cX10_comes 14 = .ok (.getfield 212, 3) := by decide +kernel
theorem dX10_comes_17 : decode cX10_comes 17 = .ok (.iload_n 2, 1) := by decide +kernel
theorem dX10_comes_18 : decode cX10_comes 18 = .ok (.iaload, 1) := by decide +kernel
theorem dX10_comes_19 : decode cX10_comes 19 = .ok (.iload_n 3, 1) := by decide +kernel
theorem dX10_comes_20 : decode cX10_comes 20 = .ok (.if_icmp .eq 62, 3) := by decide +kernel
theorem dX10_comes_23 : decode cX10_comes 23 = .ok (.aload_n 0, 1) := by decide +kernel
theorem dX10_comes_24 : decode cX10_comes 24 = .ok (.aload_n 1, 1) := by decide +kernel
theorem dX10_comes_25 : decode cX10_comes 25 = .ok (.iload_n 3, 1) := by decide +kernel
theorem dX10_comes_26 : decode cX10_comes 26 = .ok (.invokevirtual 346, 3) := by decide +kernel
theorem dX10_comes_29 : decode cX10_comes 29 = .ok (.istore 4, 2) := by decide +kernel
theorem dX10_comes_31 : decode cX10_comes 31 = .ok (.aload_n 0, 1) := by decide +kernel
theorem dX10_comes_32 : decode cX10_comes 32 = .ok (.aload_n 1, 1) := by decide +kernel
theorem dX10_comes_33 : decode cX10_comes 33 = .ok (.iload_n 3, 1) := by decide +kernel
theorem dX10_comes_34 : decode cX10_comes 34 = .ok (.invokevirtual 349, 3) := by decide +kernel
theorem dX10_comes_37 : decode cX10_comes 37 = .ok (.aload_n 0, 1) := by decide +kernel
theorem dX10_comes_38 : decode cX10_comes 38 = .ok (.getfield 228, 3) := by decide +kernel
theorem dX10_comes_41 : decode cX10_comes 41 = .ok (.iconst (-1), 1) := by decide +kernel
theorem dX10_comes_42 : decode cX10_comes 42 = .ok (.if_icmp .ne 12, 3) := by decide +kernel
theorem dX10_comes_45 : decode cX10_comes 45 = .ok (.aload_n 0, 1) := by decide +kernel
theorem dX10_comes_46 : decode cX10_comes 46 = .ok (.getfield 197, 3) := by decide +kernel
theorem dX10_comes_49 : decode cX10_comes 49 = .ok (.iconst 0, 1) := by decide +kernel
theorem dX10_comes_50 : decode cX10_comes 50 = .ok (.iaload, 1) := by decide +kernel
theorem dX10_comes_51 : decode cX10_comes 51 = .ok (.goto 7, 3) := by decide +kernel
theorem dX10_comes_54 : decode cX10_comes 54 = .ok (.aload_n 0, 1) := by decide +kernel
theorem dX10_comes_55 : decode cX10_comes 55 = .ok (.getfield 228, 3) := by decide +kernel
theorem dX10_comes_58 : decode cX10_comes 58 = .ok (.if_icmp .ge 23, 3) := by decide +kernel
theorem dX10_comes_61 : decode cX10_comes 61 = .ok (.iload 4, 2) := by decide +kernel
theorem dX10_comes_63 : decode cX10_comes 63 = .ok (.iconst (-1), 1) := by decide +kernel
theorem dX10_comes_64 : decode cX10_comes 64 = .ok (.if_icmp .eq 18, 3) := by decide +kernel
theorem dX10_comes_67 : decode cX10_comes 67 = .ok (.aload_n 1, 1) := by decide +kernel
theorem dX10_comes_68 : decode cX10_comes 68 = .ok (.bipush 30, 2) := by decide +kernel
theorem dX10_comes_70 : decode cX10_comes 70 = .ok (.iload 4, 2) := by decide +kernel
theorem dX10_comes_72 : decode cX10_comes 72 = .ok (.iadd, 1) := by decide +kernel
theorem dX10_comes_73 : decode cX10_comes 73 = .ok (.iaload, 1) := by decide +kernel
theorem dX10_comes_74 : decode cX10_comes 74 = .ok (.iload_n 2, 1) := by decide +kernel
theorem dX10_comes_75 : decode cX10_comes 75 = .ok (.ishr, 1) := by decide +kernel
theorem dX10_comes_76 : decode cX10_comes 76 = .ok (.iconst 1, 1) := by decide +kernel
theorem dX10_comes_77 : decode cX10_comes 77 = .ok (.iand, 1) := by decide +kernel
theorem dX10_comes_78 : decode cX10_comes 78 = .ok (.ifCond .ne 4, 3) := by decide +kernel
theorem dX10_comes_81 : decode cX10_comes 81 = .ok (.return_, 1) := by decide +kernel
theorem dX10_comes_82 : decode cX10_comes 82 = .ok (.aload_n 1, 1) := by decide +kernel
theorem dX10_comes_83 : decode cX10_comes 83 = .ok (.iconst 0, 1) := by decide +kernel
theorem dX10_comes_84 : decode cX10_comes 84 = .ok (.iload_n 2, 1) := by decide +kernel
theorem dX10_comes_85 : decode cX10_comes 85 = .ok (.iadd, 1) := by decide +kernel
theorem dX10_comes_86 : decode cX10_comes 86 = .ok (.iload_n 3, 1) := by decide +kernel
theorem dX10_comes_87 : decode cX10_comes 87 = .ok (.iastore, 1) := by decide +kernel
theorem dX10_comes_88 : decode cX10_comes 88 = .ok (.return_, 1) := by decide +kernel
set_option maxRecDepth 20000 in
theorem dX10_goQuarter_0 : decode cX10_goQuarter 0 = .ok (.iconst 0, 1) := by decide +kernel
theorem dX10_goQuarter_1 : decode cX10_goQuarter 1 = .ok (.istore_n 2, 1) := by decide +kernel
theorem dX10_goQuarter_2 : decode cX10_goQuarter 2 = .ok (.iload_n 2, 1) := by decide +kernel
theorem dX10_goQuarter_3 : decode cX10_goQuarter 3 = .ok (.aload_n 0, 1) := by decide +kernel
theorem dX10_goQuarter_4 : decode cX10_goQuarter 4 = .ok (.getfield 285, 3) := by decide +kernel
theorem dX10_goQuarter_7 : decode cX10_goQuarter 7 = .ok (.if_icmp .ge 76, 3) := by decide +kernel
theorem dX10_goQuarter_10 : decode cX10_goQuarter 10 = .ok (.aload_n 0, 1) := by decide +kernel
theorem dX10_goQuarter_11 : decode cX10_goQuarter 11 = .ok (.getfield 239, 3) := by decide +kernel
theorem dX10_goQuarter_14 : decode cX10_goQuarter 14 = .ok (.iload_n 2, 1) := by decide +kernel
theorem dX10_goQuarter_15 : decode cX10_goQuarter 15 = .ok (.aload_n 0, 1) := by decide +kernel
theorem dX10_goQuarter_16 : decode cX10_goQuarter 16 = .ok (.getfield 236, 3) := by decide +kernel
theorem dX10_goQuarter_19 : decode cX10_goQuarter 19 = .ok (.iload_n 2, 1) := by decide +kernel
theorem dX10_goQuarter_20 : decode cX10_goQuarter 20 = .ok (.iaload, 1) := by decide +kernel
theorem dX10_goQuarter_21 : decode cX10_goQuarter 21 = .ok (.aload_n 1, 1) := by decide +kernel
theorem dX10_goQuarter_22 : decode cX10_goQuarter 22 = .ok (.iconst 0, 1) := by decide +kernel
theorem dX10_goQuarter_23 : decode cX10_goQuarter 23 = .ok (.iload_n 2, 1) := by decide +kernel
theorem dX10_goQuarter_24 : decode cX10_goQuarter 24 = .ok (.iadd, 1) := by decide +kernel
theorem dX10_goQuarter_25 : decode cX10_goQuarter 25 = .ok (.iaload, 1) := by decide +kernel
theorem dX10_goQuarter_26 : decode cX10_goQuarter 26 = .ok (.if_icmp .eq 7, 3) := by decide +kernel
theorem dX10_goQuarter_29 : decode cX10_goQuarter 29 = .ok (.iconst 1, 1) := by decide +kernel
theorem dX10_goQuarter_30 : decode cX10_goQuarter 30 = .ok (.goto 4, 3) := by decide +kernel
theorem dX10_goQuarter_33 : decode cX10_goQuarter 33 = .ok (.iconst 0, 1) := by decide +kernel
theorem dX10_goQuarter_34 : decode cX10_goQuarter 34 = .ok (.bastore, 1) := by decide +kernel
theorem dX10_goQuarter_35 : decode cX10_goQuarter 35 = .ok (.aload_n 0, 1) := by decide +kernel
theorem dX10_goQuarter_36 : decode cX10_goQuarter 36 = .ok (.getfield 239, 3) := by decide +kernel
theorem dX10_goQuarter_39 : decode cX10_goQuarter 39 = .ok (.iload_n 2, 1) := by decide +kernel
theorem dX10_goQuarter_40 : decode cX10_goQuarter 40 = .ok (.baload, 1) := by decide +kernel
theorem dX10_goQuarter_41 : decode cX10_goQuarter 41 = .ok (.ifCond .eq 18, 3) := by decide +kernel
theorem dX10_goQuarter_44 : decode cX10_goQuarter 44 = .ok (.aload_n 1, 1) := by decide +kernel
theorem dX10_goQuarter_45 : decode cX10_goQuarter 45 = .ok (.iconst 0, 1) := by decide +kernel
theorem dX10_goQuarter_46 : decode cX10_goQuarter 46 = .ok (.iload_n 2, 1) := by decide +kernel
theorem dX10_goQuarter_47 : decode cX10_goQuarter 47 = .ok (.iadd, 1) := by decide +kernel
theorem dX10_goQuarter_48 : decode cX10_goQuarter 48 = .ok (.iconst 5, 1) := by decide +kernel
theorem dX10_goQuarter_49 : decode cX10_goQuarter 49 = .ok (.iastore, 1) := by decide +kernel
theorem dX10_goQuarter_50 : decode cX10_goQuarter 50 = .ok (.aload_n 1, 1) := by decide +kernel
theorem dX10_goQuarter_51 : decode cX10_goQuarter 51 = .ok (.iconst 5, 1) := by decide +kernel
theorem dX10_goQuarter_52 : decode cX10_goQuarter 52 = .ok (.iload_n 2, 1) := by decide +kernel
theorem dX10_goQuarter_53 : decode cX10_goQuarter 53 = .ok (.iadd, 1) := by decide +kernel
theorem dX10_goQuarter_54 : decode cX10_goQuarter 54 = .ok (.iconst 0, 1) := by decide +kernel
theorem dX10_goQuarter_55 : decode cX10_goQuarter 55 = .ok (.iastore, 1) := by decide +kernel
theorem dX10_goQuarter_56 : decode cX10_goQuarter 56 = .ok (.goto 21, 3) := by decide +kernel
theorem dX10_goQuarter_59 : decode cX10_goQuarter 59 = .ok (.aload_n 1, 1) := by decide +kernel
theorem dX10_goQuarter_60 : decode cX10_goQuarter 60 = .ok (.iconst 0, 1) := by decide +kernel
theorem dX10_goQuarter_61 : decode cX10_goQuarter 61 = .ok (.iload_n 2, 1) := by decide +kernel
theorem dX10_goQuarter_62 : decode cX10_goQuarter 62 = .ok (.iadd, 1) := by decide +kernel
theorem dX10_goQuarter_63 : decode cX10_goQuarter 63 = .ok (.iaload, 1) := by decide +kernel
theorem dX10_goQuarter_64 : decode cX10_goQuarter 64 = .ok (.iconst 5, 1) := by decide +kernel
theorem dX10_goQuarter_65 : decode cX10_goQuarter 65 = .ok (.if_icmp .eq 12, 3) := by decide +kernel
theorem dX10_goQuarter_68 : decode cX10_goQuarter 68 = .ok (.aload_n 1, 1) := by decide +kernel
theorem dX10_goQuarter_69 : decode cX10_goQuarter 69 = .ok (.iconst 5, 1) := by decide +kernel
theorem dX10_goQuarter_70 : decode cX10_goQuarter 70 = .ok (.iload_n 2, 1) := by decide +kernel
theorem dX10_goQuarter_71 : decode cX10_goQuarter 71 = .ok (.iadd, 1) := by decide +kernel
theorem dX10_goQuarter_72 : decode cX10_goQuarter 72 = .ok (.dup2, 1) := by decide +kernel
theorem dX10_goQuarter_73 : decode cX10_goQuarter 73 = .ok (.iaload, 1) := by decide +kernel
theorem dX10_goQuarter_74 : decode cX10_goQuarter 74 = .ok (.iconst 1, 1) := by decide +kernel
theorem dX10_goQuarter_75 : decode cX10_goQuarter 75 = .ok (.iadd, 1) := by decide +kernel
theorem dX10_goQuarter_76 : decode cX10_goQuarter 76 = .ok (.iastore, 1) := by decide +kernel
theorem dX10_goQuarter_77 : decode cX10_goQuarter 77 = .ok (.iinc 2 1, 3) := by decide +kernel
theorem dX10_goQuarter_80 : decode cX10_goQuarter 80 = .ok (.goto (-78), 3) := by decide +kernel
theorem dX10_goQuarter_83 : decode cX10_goQuarter 83 = .ok (.iconst 0, 1) := by decide +kernel
theorem dX10_goQuarter_84 : decode cX10_goQuarter 84 = .ok (.istore_n 2, 1) := by decide +kernel
theorem dX10_goQuarter_85 : decode cX10_goQuarter 85 = .ok (.iload_n 2, 1) := by decide +kernel
theorem dX10_goQuarter_86 : decode cX10_goQuarter 86 = .ok (.aload_n 0, 1) := by decide +kernel
theorem dX10_goQuarter_87 : decode cX10_goQuarter 87 = .ok (.getfield 285, 3) := by decide +kernel
theorem dX10_goQuarter_90 : decode cX10_goQuarter 90 = .ok (.if_icmp .ge 24, 3) := by decide +kernel
theorem dX10_goQuarter_93 : decode cX10_goQuarter 93 = .ok (.aload_n 0, 1) := by decide +kernel
theorem dX10_goQuarter_94 : decode cX10_goQuarter 94 = .ok (.getfield 239, 3) := by decide +kernel
theorem dX10_goQuarter_97 : decode cX10_goQuarter 97 = .ok (.iload_n 2, 1) := by decide +kernel
theorem dX10_goQuarter_98 : decode cX10_goQuarter 98 = .ok (.baload, 1) := by decide +kernel
theorem dX10_goQuarter_99 : decode cX10_goQuarter 99 = .ok (.ifCond .eq 9, 3) := by decide +kernel
theorem dX10_goQuarter_102 : decode cX10_goQuarter 102 = .ok (.aload_n 0, 1) := by decide +kernel
theorem dX10_goQuarter_103 : decode cX10_goQuarter 103 = .ok (.aload_n 1, 1) := by decide +kernel
theorem dX10_goQuarter_104 : decode cX10_goQuarter 104 = .ok (.iload_n 2, 1) := by decide +kernel
theorem dX10_goQuarter_105 : decode cX10_goQuarter 105 = .ok (.invokevirtual 352, 3) := by decide +kernel
theorem dX10_goQuarter_108 : decode cX10_goQuarter 108 = .ok (.iinc 2 1, 3) := by decide +kernel
theorem dX10_goQuarter_111 : decode cX10_goQuarter 111 = .ok (.goto (-26), 3) := by decide +kernel
theorem dX10_goQuarter_114 : decode cX10_goQuarter 114 = .ok (.iconst 0, 1) := by decide +kernel
theorem dX10_goQuarter_115 : decode cX10_goQuarter 115 = .ok (.istore_n 2, 1) := by decide +kernel
theorem dX10_goQuarter_116 : decode cX10_goQuarter 116 = .ok (.iload_n 2, 1) := by decide +kernel
theorem dX10_goQuarter_117 : decode cX10_goQuarter 117 = .ok (.aload_n 0, 1) := by decide +kernel
theorem dX10_goQuarter_118 : decode cX10_goQuarter 118 = .ok (.getfield 285, 3) := by decide +kernel
theorem dX10_goQuarter_121 : decode cX10_goQuarter 121 = .ok (.if_icmp .ge 21, 3) := by decide +kernel
theorem dX10_goQuarter_124 : decode cX10_goQuarter 124 = .ok (.aload_n 1, 1) := by decide +kernel
theorem dX10_goQuarter_125 : decode cX10_goQuarter 125 = .ok (.bipush 10, 2) := by decide +kernel
theorem dX10_goQuarter_127 : decode cX10_goQuarter 127 = .ok (.iload_n 2, 1) := by decide +kernel
theorem dX10_goQuarter_128 : decode cX10_goQuarter 128 = .ok (.iadd, 1) := by decide +kernel
theorem dX10_goQuarter_129 : decode cX10_goQuarter 129 = .ok (.aload_n 0, 1) := by decide +kernel
theorem dX10_goQuarter_130 : decode cX10_goQuarter 130 = .ok (.aload_n 1, 1) := by decide +kernel
theorem dX10_goQuarter_131 : decode cX10_goQuarter 131 = .ok (.iload_n 2, 1) := by decide +kernel
theorem dX10_goQuarter_132 : decode cX10_goQuarter 132 = .ok (.invokevirtual 356, 3) := by decide +kernel
theorem dX10_goQuarter_135 : decode cX10_goQuarter 135 = .ok (.iastore, 1) := by decide +kernel
theorem dX10_goQuarter_136 : decode cX10_goQuarter 136 = .ok (.iinc 2 1, 3) := by decide +kernel
theorem dX10_goQuarter_139 : decode cX10_goQuarter 139 = .ok (.goto (-23), 3) := by decide +kernel
theorem dX10_goQuarter_142 : decode cX10_goQuarter 142 = .ok (.iconst 0, 1) := by decide +kernel
theorem dX10_goQuarter_143 : decode cX10_goQuarter 143 = .ok (.istore_n 2, 1) := by decide +kernel
theorem dX10_goQuarter_144 : decode cX10_goQuarter 144 = .ok (.iload_n 2, 1) := by decide +kernel
theorem dX10_goQuarter_145 : decode cX10_goQuarter 145 = .ok (.aload_n 0, 1) := by decide +kernel
theorem dX10_goQuarter_146 : decode cX10_goQuarter 146 = .ok (.getfield 282, 3) := by decide +kernel
theorem dX10_goQuarter_149 : decode cX10_goQuarter 149 = .ok (.if_icmp .ge 133, 3) := by decide +kernel
theorem dX10_goQuarter_152 : decode cX10_goQuarter 152 = .ok (.aload_n 0, 1) := by decide +kernel
theorem dX10_goQuarter_153 : decode cX10_goQuarter 153 = .ok (.aload_n 1, 1) := by decide +kernel
theorem dX10_goQuarter_154 : decode cX10_goQuarter 154 = .ok (.iload_n 2, 1) := by decide +kernel
theorem dX10_goQuarter_155 : decode cX10_goQuarter 155 = .ok (.invokevirtual 346, 3) := by decide +kernel
theorem dX10_goQuarter_158 : decode cX10_goQuarter 158 = .ok (.istore_n 3, 1) := by decide +kernel
theorem dX10_goQuarter_159 : decode cX10_goQuarter 159 = .ok (.iload_n 3, 1) := by decide +kernel
theorem dX10_goQuarter_160 : decode cX10_goQuarter 160 = .ok (.iconst (-1), 1) := by decide +kernel
theorem dX10_goQuarter_161 : decode cX10_goQuarter 161 = .ok (.if_icmp .ne 6, 3) := by decide +kernel
theorem dX10_goQuarter_164 : decode cX10_goQuarter 164 = .ok (.goto 112, 3) := by decide +kernel
theorem dX10_goQuarter_167 : decode cX10_goQuarter 167 = .ok (.aload_n 0, 1) := by decide +kernel
theorem dX10_goQuarter_168 : decode cX10_goQuarter 168 = .ok (.getfield 197, 3) := by decide +kernel
theorem dX10_goQuarter_171 : decode cX10_goQuarter 171 = .ok (.iconst 4, 1) := by decide +kernel
theorem dX10_goQuarter_172 : decode cX10_goQuarter 172 = .ok (.iaload, 1) := by decide +kernel
theorem dX10_goQuarter_173 : decode cX10_goQuarter 173 = .ok (.aload_n 1, 1) := by decide +kernel
theorem dX10_goQuarter_174 : decode cX10_goQuarter 174 = .ok (.bipush 20, 2) := by decide +kernel
theorem dX10_goQuarter_176 : decode cX10_goQuarter 176 = .ok (.iload_n 2, 1) := by decide +kernel
theorem dX10_goQuarter_177 : decode cX10_goQuarter 177 = .ok (.iadd, 1) := by decide +kernel
theorem dX10_goQuarter_178 : decode cX10_goQuarter 178 = .ok (.iaload, 1) := by decide +kernel
theorem dX10_goQuarter_179 : decode cX10_goQuarter 179 = .ok (.invokestatic 359, 3) := by decide +kernel
theorem dX10_goQuarter_182 : decode cX10_goQuarter 182 = .ok (.istore 4, 2) := by decide +kernel
theorem dX10_goQuarter_184 : decode cX10_goQuarter 184 = .ok (.aload_n 1, 1) := by decide +kernel
theorem dX10_goQuarter_185 : decode cX10_goQuarter 185 = .ok (.bipush 10, 2) := by decide +kernel
theorem dX10_goQuarter_187 : decode cX10_goQuarter 187 = .ok (.iload_n 3, 1) := by decide +kernel
theorem dX10_goQuarter_188 : decode cX10_goQuarter 188 = .ok (.iadd, 1) := by decide +kernel
theorem dX10_goQuarter_189 : decode cX10_goQuarter 189 = .ok (.dup2, 1) := by decide +kernel
theorem dX10_goQuarter_190 : decode cX10_goQuarter 190 = .ok (.iaload, 1) := by decide +kernel
theorem dX10_goQuarter_191 : decode cX10_goQuarter 191 = .ok (.aload_n 0, 1) := by decide +kernel
theorem dX10_goQuarter_192 : decode cX10_goQuarter 192 = .ok (.iload_n 2, 1) := by decide +kernel
theorem dX10_goQuarter_193 : decode cX10_goQuarter 193 = .ok (.invokevirtual 365, 3) := by decide +kernel
theorem dX10_goQuarter_196 : decode cX10_goQuarter 196 = .ok (.aload_n 1, 1) := by decide +kernel
theorem dX10_goQuarter_197 : decode cX10_goQuarter 197 = .ok (.bipush 25, 2) := by decide +kernel
theorem dX10_goQuarter_199 : decode cX10_goQuarter 199 = .ok (.iload_n 2, 1) := by decide +kernel
theorem dX10_goQuarter_200 : decode cX10_goQuarter 200 = .ok (.iadd, 1) := by decide +kernel
theorem dX10_goQuarter_201 : decode cX10_goQuarter 201 = .ok (.iaload, 1) := by decide +kernel
theorem dX10_goQuarter_202 : decode cX10_goQuarter 202 = .ok (.imul, 1) := by decide +kernel
theorem dX10_goQuarter_203 : decode cX10_goQuarter 203 = .ok (.bipush 100, 2) := by decide +kernel
theorem dX10_goQuarter_205 : decode cX10_goQuarter 205 = .ok (.idiv, 1) := by decide +kernel
theorem dX10_goQuarter_206 : decode cX10_goQuarter 206 = .ok (.iload 4, 2) := by decide +kernel
theorem dX10_goQuarter_208 : decode cX10_goQuarter 208 = .ok (.iadd, 1) := by decide +kernel
theorem dX10_goQuarter_209 : decode cX10_goQuarter 209 = .ok (.iadd, 1) := by decide +kernel
theorem dX10_goQuarter_210 : decode cX10_goQuarter 210 = .ok (.iastore, 1) := by decide +kernel
theorem dX10_goQuarter_211 : decode cX10_goQuarter 211 = .ok (.aload_n 1, 1) := by decide +kernel
theorem dX10_goQuarter_212 : decode cX10_goQuarter 212 = .ok (.bipush 20, 2) := by decide +kernel
theorem dX10_goQuarter_214 : decode cX10_goQuarter 214 = .ok (.iload_n 2, 1) := by decide +kernel
theorem dX10_goQuarter_215 : decode cX10_goQuarter 215 = .ok (.iadd, 1) := by decide +kernel
theorem dX10_goQuarter_216 : decode cX10_goQuarter 216 = .ok (.dup2, 1) := by decide +kernel
theorem dX10_goQuarter_217 : decode cX10_goQuarter 217 = .ok (.iaload, 1) := by decide +kernel
theorem dX10_goQuarter_218 : decode cX10_goQuarter 218 = .ok (.iload 4, 2) := by decide +kernel
theorem dX10_goQuarter_220 : decode cX10_goQuarter 220 = .ok (.isub, 1) := by decide +kernel
theorem dX10_goQuarter_221 : decode cX10_goQuarter 221 = .ok (.iastore, 1) := by decide +kernel
theorem dX10_goQuarter_222 : decode cX10_goQuarter 222 = .ok (.aload_n 1, 1) := by decide +kernel
theorem dX10_goQuarter_223 : decode cX10_goQuarter 223 = .ok (.bipush 25, 2) := by decide +kernel
theorem dX10_goQuarter_225 : decode cX10_goQuarter 225 = .ok (.iload_n 2, 1) := by decide +kernel
theorem dX10_goQuarter_226 : decode cX10_goQuarter 226 = .ok (.iadd, 1) := by decide +kernel
theorem dX10_goQuarter_227 : decode cX10_goQuarter 227 = .ok (.iload_n 3, 1) := by decide +kernel
theorem dX10_goQuarter_228 : decode cX10_goQuarter 228 = .ok (.aload_n 0, 1) := by decide +kernel
theorem dX10_goQuarter_229 : decode cX10_goQuarter 229 = .ok (.getfield 209, 3) := by decide +kernel
theorem dX10_goQuarter_232 : decode cX10_goQuarter 232 = .ok (.iload_n 2, 1) := by decide +kernel
theorem dX10_goQuarter_233 : decode cX10_goQuarter 233 = .ok (.iaload, 1) := by decide +kernel
theorem dX10_goQuarter_234 : decode cX10_goQuarter 234 = .ok (.if_icmp .ne 24, 3) := by decide +kernel
theorem dX10_goQuarter_237 : decode cX10_goQuarter 237 = .ok (.bipush 100, 2) := by decide +kernel
theorem dX10_goQuarter_239 : decode cX10_goQuarter 239 = .ok (.aload_n 1, 1) := by decide +kernel
theorem dX10_goQuarter_240 : decode cX10_goQuarter 240 = .ok (.bipush 25, 2) := by decide +kernel
theorem dX10_goQuarter_242 : decode cX10_goQuarter 242 = .ok (.iload_n 2, 1) := by decide +kernel
theorem dX10_goQuarter_243 : decode cX10_goQuarter 243 = .ok (.iadd, 1) := by decide +kernel
theorem dX10_goQuarter_244 : decode cX10_goQuarter 244 = .ok (.iaload, 1) := by decide +kernel
theorem dX10_goQuarter_245 : decode cX10_goQuarter 245 = .ok (.aload_n 0, 1) := by decide +kernel
theorem dX10_goQuarter_246 : decode cX10_goQuarter 246 = .ok (.getfield 197, 3) := by decide +kernel
theorem dX10_goQuarter_249 : decode cX10_goQuarter 249 = .ok (.iconst 3, 1) := by decide +kernel
theorem dX10_goQuarter_250 : decode cX10_goQuarter 250 = .ok (.iaload, 1) := by decide +kernel
theorem dX10_goQuarter_251 : decode cX10_goQuarter 251 = .ok (.iadd, 1) := by decide +kernel
theorem dX10_goQuarter_252 : decode cX10_goQuarter 252 = .ok (.invokestatic 359, 3) := by decide +kernel
theorem dX10_goQuarter_255 : decode cX10_goQuarter 255 = .ok (.goto 20, 3) := by decide +kernel
theorem dX10_goQuarter_258 : decode cX10_goQuarter 258 = .ok (.iconst 0, 1) := by decide +kernel
theorem dX10_goQuarter_259 : decode cX10_goQuarter 259 = .ok (.aload_n 1, 1) := by decide +kernel
theorem dX10_goQuarter_260 : decode cX10_goQuarter 260 = .ok (.bipush 25, 2) := by decide +kernel
theorem dX10_goQuarter_262 : decode cX10_goQuarter 262 = .ok (.iload_n 2, 1) := by decide +kernel
theorem dX10_goQuarter_263 : decode cX10_goQuarter 263 = .ok (.iadd, 1) := by decide +kernel
theorem dX10_goQuarter_264 : decode cX10_goQuarter 264 = .ok (.iaload, 1) := by decide +kernel
theorem dX10_goQuarter_265 : decode cX10_goQuarter 265 = .ok (.aload_n 0, 1) := by decide +kernel
theorem dX10_goQuarter_266 : decode cX10_goQuarter 266 = .ok (.getfield 197, 3) := by decide +kernel
theorem dX10_goQuarter_269 : decode cX10_goQuarter 269 = .ok (.iconst 2, 1) := by decide +kernel
theorem dX10_goQuarter_270 : decode cX10_goQuarter 270 = .ok (.iaload, 1) := by decide +kernel
theorem dX10_goQuarter_271 : decode cX10_goQuarter 271 = .ok (.isub, 1) := by decide +kernel
theorem dX10_goQuarter_272 : decode cX10_goQuarter 272 = .ok (.invokestatic 368, 3) := by decide +kernel
theorem dX10_goQuarter_275 : decode cX10_goQuarter 275 = .ok (.iastore, 1) := by decide +kernel
theorem dX10_goQuarter_276 : decode cX10_goQuarter 276 = .ok (.iinc 2 1, 3) := by decide +kernel
theorem dX10_goQuarter_279 : decode cX10_goQuarter 279 = .ok (.goto (-135), 3) := by decide +kernel
theorem dX10_goQuarter_282 : decode cX10_goQuarter 282 = .ok (.iconst 0, 1) := by decide +kernel
theorem dX10_goQuarter_283 : decode cX10_goQuarter 283 = .ok (.istore_n 2, 1) := by decide +kernel
theorem dX10_goQuarter_284 : decode cX10_goQuarter 284 = .ok (.iload_n 2, 1) := by decide +kernel
theorem dX10_goQuarter_285 : decode cX10_goQuarter 285 = .ok (.aload_n 0, 1) := by decide +kernel
theorem dX10_goQuarter_286 : decode cX10_goQuarter 286 = .ok (.getfield 285, 3) := by decide +kernel
theorem dX10_goQuarter_289 : decode cX10_goQuarter 289 = .ok (.if_icmp .ge 24, 3) := by decide +kernel
theorem dX10_goQuarter_292 : decode cX10_goQuarter 292 = .ok (.aload_n 1, 1) := by decide +kernel
theorem dX10_goQuarter_293 : decode cX10_goQuarter 293 = .ok (.bipush 15, 2) := by decide +kernel
theorem dX10_goQuarter_295 : decode cX10_goQuarter 295 = .ok (.iload_n 2, 1) := by decide +kernel
theorem dX10_goQuarter_296 : decode cX10_goQuarter 296 = .ok (.iadd, 1) := by decide +kernel
theorem dX10_goQuarter_297 : decode cX10_goQuarter 297 = .ok (.dup2, 1) := by decide +kernel
theorem dX10_goQuarter_298 : decode cX10_goQuarter 298 = .ok (.iaload, 1) := by decide +kernel
theorem dX10_goQuarter_299 : decode cX10_goQuarter 299 = .ok (.aload_n 1, 1) := by decide +kernel
theorem dX10_goQuarter_300 : decode cX10_goQuarter 300 = .ok (.bipush 10, 2) := by decide +kernel
theorem dX10_goQuarter_302 : decode cX10_goQuarter 302 = .ok (.iload_n 2, 1) := by decide +kernel
theorem dX10_goQuarter_303 : decode cX10_goQuarter 303 = .ok (.iadd, 1) := by decide +kernel
theorem dX10_goQuarter_304 : decode cX10_goQuarter 304 = .ok (.iaload, 1) := by decide +kernel
theorem dX10_goQuarter_305 : decode cX10_goQuarter 305 = .ok (.iadd, 1) := by decide +kernel
theorem dX10_goQuarter_306 : decode cX10_goQuarter 306 = .ok (.iastore, 1) := by decide +kernel
theorem dX10_goQuarter_307 : decode cX10_goQuarter 307 = .ok (.iinc 2 1, 3) := by decide +kernel
theorem dX10_goQuarter_310 : decode cX10_goQuarter 310 = .ok (.goto (-26), 3) := by decide +kernel
theorem dX10_goQuarter_313 : decode cX10_goQuarter 313 = .ok (.aload_n 1, 1) := by decide +kernel
theorem dX10_goQuarter_314 : decode cX10_goQuarter 314 = .ok (.bipush 55, 2) := by decide +kernel
theorem dX10_goQuarter_316 : decode cX10_goQuarter 316 = .ok (.dup2, 1) := by decide +kernel
theorem dX10_goQuarter_317 : decode cX10_goQuarter 317 = .ok (.iaload, 1) := by decide +kernel
theorem dX10_goQuarter_318 : decode cX10_goQuarter 318 = .ok (.iconst 1, 1) := by decide +kernel
theorem dX10_goQuarter_319 : decode cX10_goQuarter 319 = .ok (.iadd, 1) := by decide +kernel
theorem dX10_goQuarter_320 : decode cX10_goQuarter 320 = .ok (.iastore, 1) := by decide +kernel
theorem dX10_goQuarter_321 : decode cX10_goQuarter 321 = .ok (.return_, 1) := by decide +kernel
theorem dX10_tiesOf_0 : decode cX10_tiesOf 0 = .ok (.iconst 0, 1) := by decide +kernel
theorem dX10_tiesOf_1 : decode cX10_tiesOf 1 = .ok (.istore_n 3, 1) := by decide +kernel
theorem dX10_tiesOf_2 : decode cX10_tiesOf 2 = .ok (.iconst 0, 1) := by decide +kernel
theorem dX10_tiesOf_3 : decode cX10_tiesOf 3 = .ok (.istore 4, 2) := by decide +kernel
theorem dX10_tiesOf_5 : decode cX10_tiesOf 5 = .ok (.iload 4, 2) := by decide +kernel
theorem dX10_tiesOf_7 : decode cX10_tiesOf 7 = .ok (.aload_n 0, 1) := by decide +kernel
theorem dX10_tiesOf_8 : decode cX10_tiesOf 8 = .ok (.getfield 285, 3) := by decide +kernel
theorem dX10_tiesOf_11 : decode cX10_tiesOf 11 = .ok (.if_icmp .ge 56, 3) := by decide +kernel
theorem dX10_tiesOf_14 : decode cX10_tiesOf 14 = .ok (.aload_n 1, 1) := by decide +kernel
theorem dX10_tiesOf_15 : decode cX10_tiesOf 15 = .ok (.iconst 0, 1) := by decide +kernel
theorem dX10_tiesOf_16 : decode cX10_tiesOf 16 = .ok (.iload_n 2, 1) := by decide +kernel
theorem dX10_tiesOf_17 : decode cX10_tiesOf 17 = .ok (.iadd, 1) := by decide +kernel
theorem dX10_tiesOf_18 : decode cX10_tiesOf 18 = .ok (.iaload, 1) := by decide +kernel
theorem dX10_tiesOf_19 : decode cX10_tiesOf 19 = .ok (.iconst 5, 1) := by decide +kernel
theorem dX10_tiesOf_20 : decode cX10_tiesOf 20 = .ok (.if_icmp .eq 47, 3) := by decide +kernel
theorem dX10_tiesOf_23 : decode cX10_tiesOf 23 = .ok (.iload_n 3, 1) := by decide +kernel
theorem dX10_tiesOf_24 : decode cX10_tiesOf 24 = .ok (.iload 4, 2) := by decide +kernel
theorem dX10_tiesOf_26 : decode cX10_tiesOf 26 = .ok (.iload_n 2, 1) := by decide +kernel
theorem dX10_tiesOf_27 : decode cX10_tiesOf 27 = .ok (.if_icmp .eq 31, 3) := by decide +kernel
theorem dX10_tiesOf_30 : decode cX10_tiesOf 30 = .ok (.aload_n 1, 1) := by decide +kernel
theorem dX10_tiesOf_31 : decode cX10_tiesOf 31 = .ok (.iconst 0, 1) := by decide +kernel
theorem dX10_tiesOf_32 : decode cX10_tiesOf 32 = .ok (.iload 4, 2) := by decide +kernel
theorem dX10_tiesOf_34 : decode cX10_tiesOf 34 = .ok (.iadd, 1) := by decide +kernel
theorem dX10_tiesOf_35 : decode cX10_tiesOf 35 = .ok (.iaload, 1) := by decide +kernel
theorem dX10_tiesOf_36 : decode cX10_tiesOf 36 = .ok (.aload_n 1, 1) := by decide +kernel
theorem dX10_tiesOf_37 : decode cX10_tiesOf 37 = .ok (.iconst 0, 1) := by decide +kernel
theorem dX10_tiesOf_38 : decode cX10_tiesOf 38 = .ok (.iload_n 2, 1) := by decide +kernel
theorem dX10_tiesOf_39 : decode cX10_tiesOf 39 = .ok (.iadd, 1) := by decide +kernel
theorem dX10_tiesOf_40 : decode cX10_tiesOf 40 = .ok (.iaload, 1) := by decide +kernel
theorem dX10_tiesOf_41 : decode cX10_tiesOf 41 = .ok (.if_icmp .ne 17, 3) := by decide +kernel
theorem dX10_tiesOf_44 : decode cX10_tiesOf 44 = .ok (.aload_n 0, 1) := by decide +kernel
theorem dX10_tiesOf_45 : decode cX10_tiesOf 45 = .ok (.getfield 217, 3) := by decide +kernel
theorem dX10_tiesOf_48 : decode cX10_tiesOf 48 = .ok (.iconst 5, 1) := by decide +kernel
theorem dX10_tiesOf_49 : decode cX10_tiesOf 49 = .ok (.iload_n 2, 1) := by decide +kernel
theorem dX10_tiesOf_50 : decode cX10_tiesOf 50 = .ok (.imul, 1) := by decide +kernel
theorem dX10_tiesOf_51 : decode cX10_tiesOf 51 = .ok (.iload 4, 2) := by decide +kernel
theorem dX10_tiesOf_53 : decode cX10_tiesOf 53 = .ok (.iadd, 1) := by decide +kernel
theorem dX10_tiesOf_54 : decode cX10_tiesOf 54 = .ok (.iaload, 1) := by decide +kernel
theorem dX10_tiesOf_55 : decode cX10_tiesOf 55 = .ok (.goto 4, 3) := by decide +kernel
theorem dX10_tiesOf_58 : decode cX10_tiesOf 58 = .ok (.iconst 0, 1) := by decide +kernel
theorem dX10_tiesOf_59 : decode cX10_tiesOf 59 = .ok (.iadd, 1) := by decide +kernel
theorem dX10_tiesOf_60 : decode cX10_tiesOf 60 = .ok (.istore_n 3, 1) := by decide +kernel
theorem dX10_tiesOf_61 : decode cX10_tiesOf 61 = .ok (.iinc 4 1, 3) := by decide +kernel
theorem dX10_tiesOf_64 : decode cX10_tiesOf 64 = .ok (.goto (-59), 3) := by decide +kernel
theorem dX10_tiesOf_67 : decode cX10_tiesOf 67 = .ok (.iload_n 3, 1) := by decide +kernel
theorem dX10_tiesOf_68 : decode cX10_tiesOf 68 = .ok (.ireturn, 1) := by decide +kernel
theorem dX10_placeOf_0 : decode cX10_placeOf 0 = .ok (.iload_n 0, 1) := by decide +kernel
theorem dX10_placeOf_1 : decode cX10_placeOf 1 = .ok (.bipush 111, 2) := by decide +kernel
theorem dX10_placeOf_3 : decode cX10_placeOf 3 = .ok (.if_icmp .ne 7, 3) := by decide +kernel
theorem dX10_placeOf_6 : decode cX10_placeOf 6 = .ok (.iconst 5, 1) := by decide +kernel
theorem dX10_placeOf_7 : decode cX10_placeOf 7 = .ok (.goto 7, 3) := by decide +kernel
theorem dX10_placeOf_10 : decode cX10_placeOf 10 = .ok (.iload_n 0, 1) := by decide +kernel
theorem dX10_placeOf_11 : decode cX10_placeOf 11 = .ok (.bipush 48, 2) := by decide +kernel
theorem dX10_placeOf_13 : decode cX10_placeOf 13 = .ok (.isub, 1) := by decide +kernel
theorem dX10_placeOf_14 : decode cX10_placeOf 14 = .ok (.ireturn, 1) := by decide +kernel
set_option maxRecDepth 20000 in
theorem dX10_plan_0 : decode cX10_plan 0 = .ok (.aload_n 0, 1) := by decide +kernel
theorem dX10_plan_1 : decode cX10_plan 1 = .ok (.getfield 71, 3) := by decide +kernel
theorem dX10_plan_4 : decode cX10_plan 4 = .ok (.istore_n 2, 1) := by decide +kernel
theorem dX10_plan_5 : decode cX10_plan 5 = .ok (.aload_n 0, 1) := by decide +kernel
theorem dX10_plan_6 : decode cX10_plan 6 = .ok (.iconst 0, 1) := by decide +kernel
theorem dX10_plan_7 : decode cX10_plan 7 = .ok (.putfield 71, 3) := by decide +kernel
theorem dX10_plan_10 : decode cX10_plan 10 = .ok (.aload_n 0, 1) := by decide +kernel
theorem dX10_plan_11 : decode cX10_plan 11 = .ok (.iload_n 1, 1) := by decide +kernel
theorem dX10_plan_12 : decode cX10_plan 12 = .ok (.invokevirtual 309, 3) := by decide +kernel
theorem dX10_plan_15 : decode cX10_plan 15 = .ok (.ifCond .ne 6, 3) := by decide +kernel
theorem dX10_plan_18 : decode cX10_plan 18 = .ok (.bipush (-2), 2) := by decide +kernel
theorem dX10_plan_20 : decode cX10_plan 20 = .ok (.ireturn, 1) := by decide +kernel
theorem dX10_plan_21 : decode cX10_plan 21 = .ok (.iload_n 2, 1) := by decide +kernel
theorem dX10_plan_22 : decode cX10_plan 22 = .ok (.iconst 4, 1) := by decide +kernel
theorem dX10_plan_23 : decode cX10_plan 23 = .ok (.if_icmp .eq 5, 3) := by decide +kernel
theorem dX10_plan_26 : decode cX10_plan 26 = .ok (.iconst (-1), 1) := by decide +kernel
theorem dX10_plan_27 : decode cX10_plan 27 = .ok (.ireturn, 1) := by decide +kernel
theorem dX10_plan_28 : decode cX10_plan 28 = .ok (.iconst 0, 1) := by decide +kernel
theorem dX10_plan_29 : decode cX10_plan 29 = .ok (.istore_n 3, 1) := by decide +kernel
theorem dX10_plan_30 : decode cX10_plan 30 = .ok (.iload_n 3, 1) := by decide +kernel
theorem dX10_plan_31 : decode cX10_plan 31 = .ok (.iconst 4, 1) := by decide +kernel
theorem dX10_plan_32 : decode cX10_plan 32 = .ok (.if_icmp .ge 38, 3) := by decide +kernel
theorem dX10_plan_35 : decode cX10_plan 35 = .ok (.aload_n 0, 1) := by decide +kernel
theorem dX10_plan_36 : decode cX10_plan 36 = .ok (.getfield 16, 3) := by decide +kernel
theorem dX10_plan_39 : decode cX10_plan 39 = .ok (.iload_n 3, 1) := by decide +kernel
theorem dX10_plan_40 : decode cX10_plan 40 = .ok (.baload, 1) := by decide +kernel
theorem dX10_plan_41 : decode cX10_plan 41 = .ok (.bipush 111, 2) := by decide +kernel
theorem dX10_plan_43 : decode cX10_plan 43 = .ok (.if_icmp .eq 21, 3) := by decide +kernel
theorem dX10_plan_46 : decode cX10_plan 46 = .ok (.aload_n 0, 1) := by decide +kernel
theorem dX10_plan_47 : decode cX10_plan 47 = .ok (.aload_n 0, 1) := by decide +kernel
theorem dX10_plan_48 : decode cX10_plan 48 = .ok (.getfield 16, 3) := by decide +kernel
theorem dX10_plan_51 : decode cX10_plan 51 = .ok (.iload_n 3, 1) := by decide +kernel
theorem dX10_plan_52 : decode cX10_plan 52 = .ok (.baload, 1) := by decide +kernel
theorem dX10_plan_53 : decode cX10_plan 53 = .ok (.bipush 48, 2) := by decide +kernel
theorem dX10_plan_55 : decode cX10_plan 55 = .ok (.isub, 1) := by decide +kernel
theorem dX10_plan_56 : decode cX10_plan 56 = .ok (.invokevirtual 371, 3) := by decide +kernel
theorem dX10_plan_59 : decode cX10_plan 59 = .ok (.ifCond .ne 5, 3) := by decide +kernel
theorem dX10_plan_62 : decode cX10_plan 62 = .ok (.iconst (-1), 1) := by decide +kernel
theorem dX10_plan_63 : decode cX10_plan 63 = .ok (.ireturn, 1) := by decide +kernel
theorem dX10_plan_64 : decode cX10_plan 64 = .ok (.iinc 3 1, 3) := by decide +kernel
theorem dX10_plan_67 : decode cX10_plan 67 = .ok (.goto (-37), 3) := by decide +kernel
theorem dX10_plan_70 : decode cX10_plan 70 = .ok (.iconst 0, 1) := by decide +kernel
theorem dX10_plan_71 : decode cX10_plan 71 = .ok (.istore_n 3, 1) := by decide +kernel
theorem dX10_plan_72 : decode cX10_plan 72 = .ok (.iload_n 3, 1) := by decide +kernel
theorem dX10_plan_73 : decode cX10_plan 73 = .ok (.iconst 4, 1) := by decide +kernel
theorem dX10_plan_74 : decode cX10_plan 74 = .ok (.if_icmp .ge 31, 3) := by decide +kernel
theorem dX10_plan_77 : decode cX10_plan 77 = .ok (.aload_n 0, 1) := by decide +kernel
theorem dX10_plan_78 : decode cX10_plan 78 = .ok (.getfield 219, 3) := by decide +kernel
theorem dX10_plan_81 : decode cX10_plan 81 = .ok (.bipush 35, 2) := by decide +kernel
theorem dX10_plan_83 : decode cX10_plan 83 = .ok (.iconst 4, 1) := by decide +kernel
theorem dX10_plan_84 : decode cX10_plan 84 = .ok (.iload_n 1, 1) := by decide +kernel
theorem dX10_plan_85 : decode cX10_plan 85 = .ok (.imul, 1) := by decide +kernel
theorem dX10_plan_86 : decode cX10_plan 86 = .ok (.iadd, 1) := by decide +kernel
theorem dX10_plan_87 : decode cX10_plan 87 = .ok (.iload_n 3, 1) := by decide +kernel
theorem dX10_plan_88 : decode cX10_plan 88 = .ok (.iadd, 1) := by decide +kernel
theorem dX10_plan_89 : decode cX10_plan 89 = .ok (.aload_n 0, 1) := by decide +kernel
theorem dX10_plan_90 : decode cX10_plan 90 = .ok (.getfield 16, 3) := by decide +kernel
theorem dX10_plan_93 : decode cX10_plan 93 = .ok (.iload_n 3, 1) := by decide +kernel
theorem dX10_plan_94 : decode cX10_plan 94 = .ok (.baload, 1) := by decide +kernel
theorem dX10_plan_95 : decode cX10_plan 95 = .ok (.invokestatic 374, 3) := by decide +kernel
theorem dX10_plan_98 : decode cX10_plan 98 = .ok (.iastore, 1) := by decide +kernel
theorem dX10_plan_99 : decode cX10_plan 99 = .ok (.iinc 3 1, 3) := by decide +kernel
theorem dX10_plan_102 : decode cX10_plan 102 = .ok (.goto (-30), 3) := by decide +kernel
theorem dX10_plan_105 : decode cX10_plan 105 = .ok (.iconst 1, 1) := by decide +kernel
theorem dX10_plan_106 : decode cX10_plan 106 = .ok (.ireturn, 1) := by decide +kernel
theorem dX10_told0_0 : decode cX10_told0 0 = .ok (.iload_n 0, 1) := by decide +kernel
theorem dX10_told0_1 : decode cX10_told0 1 = .ok (.iconst 5, 1) := by decide +kernel
theorem dX10_told0_2 : decode cX10_told0 2 = .ok (.if_icmp .ne 7, 3) := by decide +kernel
theorem dX10_told0_5 : decode cX10_told0 5 = .ok (.iconst (-1), 1) := by decide +kernel
theorem dX10_told0_6 : decode cX10_told0 6 = .ok (.goto 4, 3) := by decide +kernel
theorem dX10_told0_9 : decode cX10_told0 9 = .ok (.iload_n 0, 1) := by decide +kernel
theorem dX10_told0_10 : decode cX10_told0 10 = .ok (.ireturn, 1) := by decide +kernel
set_option maxRecDepth 20000 in
theorem dX10_planned_0 : decode cX10_planned 0 = .ok (.aload_n 0, 1) := by decide +kernel
theorem dX10_planned_1 : decode cX10_planned 1 = .ok (.iload_n 1, 1) := by decide +kernel
theorem dX10_planned_2 : decode cX10_planned 2 = .ok (.invokevirtual 309, 3) := by decide +kernel
theorem dX10_planned_5 : decode cX10_planned 5 = .ok (.ifCond .eq 34, 3) := by decide +kernel
theorem dX10_planned_8 : decode cX10_planned 8 = .ok (.iload_n 2, 1) := by decide +kernel
theorem dX10_planned_9 : decode cX10_planned 9 = .ok (.i2l, 1) := by decide +kernel
theorem dX10_planned_10 : decode cX10_planned 10 = .ok (.lconst 0, 1) := by decide +kernel
theorem dX10_planned_11 : decode cX10_planned 11 = .ok (.ldc2_w 377, 3) := by decide +kernel
theorem dX10_planned_14 : decode cX10_planned 14 = .ok (.invokestatic 52, 3) := by decide +kernel
theorem dX10_planned_17 : decode cX10_planned 17 = .ok (.ifCond .eq 22, 3) := by decide +kernel
theorem dX10_planned_20 : decode cX10_planned 20 = .ok (.aload_n 0, 1) := by decide +kernel
theorem dX10_planned_21 : decode cX10_planned 21 = .ok (.getfield 219, 3) := by decide +kernel
theorem dX10_planned_24 : decode cX10_planned 24 = .ok (.bipush 35, 2) := by decide +kernel
theorem dX10_planned_26 : decode cX10_planned 26 = .ok (.iconst 4, 1) := by decide +kernel
theorem dX10_planned_27 : decode cX10_planned 27 = .ok (.iload_n 1, 1) := by decide +kernel
theorem dX10_planned_28 : decode cX10_planned 28 = .ok (.imul, 1) := by decide +kernel
theorem dX10_planned_29 : decode cX10_planned 29 = .ok (.iadd, 1) := by decide +kernel
theorem dX10_planned_30 : decode cX10_planned 30 = .ok (.iload_n 2, 1) := by decide +kernel
theorem dX10_planned_31 : decode cX10_planned 31 = .ok (.iadd, 1) := by decide +kernel
theorem dX10_planned_32 : decode cX10_planned 32 = .ok (.iaload, 1) := by decide +kernel
theorem dX10_planned_33 : decode cX10_planned 33 = .ok (.invokestatic 379, 3) := by decide +kernel
theorem dX10_planned_36 : decode cX10_planned 36 = .ok (.goto 5, 3) := by decide +kernel
theorem dX10_planned_39 : decode cX10_planned 39 = .ok (.bipush (-2), 2) := by decide +kernel
theorem dX10_planned_41 : decode cX10_planned 41 = .ok (.ireturn, 1) := by decide +kernel
set_option maxRecDepth 20000 in
theorem dX10_lets_0 : decode cX10_lets 0 = .ok (.aload_n 0, 1) := by decide +kernel
theorem dX10_lets_1 : decode cX10_lets 1 = .ok (.iload_n 1, 1) := by decide +kernel
theorem dX10_lets_2 : decode cX10_lets 2 = .ok (.invokevirtual 309, 3) := by decide +kernel
theorem dX10_lets_5 : decode cX10_lets 5 = .ok (.ifCond .eq 15, 3) := by decide +kernel
theorem dX10_lets_8 : decode cX10_lets 8 = .ok (.iload_n 2, 1) := by decide +kernel
theorem dX10_lets_9 : decode cX10_lets 9 = .ok (.i2l, 1) := by decide +kernel
theorem dX10_lets_10 : decode cX10_lets 10 = .ok (.lconst 0, 1) := by decide +kernel
theorem dX10_lets_11 : decode cX10_lets 11 = .ok (.ldc2_w 382, 3) := by decide +kernel
theorem dX10_lets_14 : decode cX10_lets 14 = .ok (.invokestatic 52, 3) := by decide +kernel
theorem dX10_lets_17 : decode cX10_lets 17 = .ok (.ifCond .ne 6, 3) := by decide +kernel
theorem dX10_lets_20 : decode cX10_lets 20 = .ok (.bipush (-2), 2) := by decide +kernel
theorem dX10_lets_22 : decode cX10_lets 22 = .ok (.ireturn, 1) := by decide +kernel
theorem dX10_lets_23 : decode cX10_lets 23 = .ok (.aload_n 0, 1) := by decide +kernel
theorem dX10_lets_24 : decode cX10_lets 24 = .ok (.getfield 219, 3) := by decide +kernel
theorem dX10_lets_27 : decode cX10_lets 27 = .ok (.bipush 30, 2) := by decide +kernel
theorem dX10_lets_29 : decode cX10_lets 29 = .ok (.iload_n 1, 1) := by decide +kernel
theorem dX10_lets_30 : decode cX10_lets 30 = .ok (.iadd, 1) := by decide +kernel
theorem dX10_lets_31 : decode cX10_lets 31 = .ok (.iaload, 1) := by decide +kernel
theorem dX10_lets_32 : decode cX10_lets 32 = .ok (.istore_n 3, 1) := by decide +kernel
theorem dX10_lets_33 : decode cX10_lets 33 = .ok (.aload_n 0, 1) := by decide +kernel
theorem dX10_lets_34 : decode cX10_lets 34 = .ok (.getfield 219, 3) := by decide +kernel
theorem dX10_lets_37 : decode cX10_lets 37 = .ok (.bipush 30, 2) := by decide +kernel
theorem dX10_lets_39 : decode cX10_lets 39 = .ok (.iload_n 1, 1) := by decide +kernel
theorem dX10_lets_40 : decode cX10_lets 40 = .ok (.iadd, 1) := by decide +kernel
theorem dX10_lets_41 : decode cX10_lets 41 = .ok (.iload_n 2, 1) := by decide +kernel
theorem dX10_lets_42 : decode cX10_lets 42 = .ok (.iastore, 1) := by decide +kernel
theorem dX10_lets_43 : decode cX10_lets 43 = .ok (.iload_n 3, 1) := by decide +kernel
theorem dX10_lets_44 : decode cX10_lets 44 = .ok (.ireturn, 1) := by decide +kernel
theorem dX10_chance_0 : decode cX10_chance 0 = .ok (.iload_n 1, 1) := by decide +kernel
theorem dX10_chance_1 : decode cX10_chance 1 = .ok (.ifCond .ge 6, 3) := by decide +kernel
theorem dX10_chance_4 : decode cX10_chance 4 = .ok (.bipush (-2), 2) := by decide +kernel
theorem dX10_chance_6 : decode cX10_chance 6 = .ok (.ireturn, 1) := by decide +kernel
theorem dX10_chance_7 : decode cX10_chance 7 = .ok (.aload_n 0, 1) := by decide +kernel
theorem dX10_chance_8 : decode cX10_chance 8 = .ok (.getfield 219, 3) := by decide +kernel
theorem dX10_chance_11 : decode cX10_chance 11 = .ok (.bipush 56, 2) := by decide +kernel
theorem dX10_chance_13 : decode cX10_chance 13 = .ok (.iload_n 1, 1) := by decide +kernel
theorem dX10_chance_14 : decode cX10_chance 14 = .ok (.iastore, 1) := by decide +kernel
theorem dX10_chance_15 : decode cX10_chance 15 = .ok (.iconst 1, 1) := by decide +kernel
theorem dX10_chance_16 : decode cX10_chance 16 = .ok (.ireturn, 1) := by decide +kernel
set_option maxRecDepth 20000 in
theorem dX10_pass_0 : decode cX10_pass 0 = .ok (.iload_n 1, 1) := by decide +kernel
theorem dX10_pass_1 : decode cX10_pass 1 = .ok (.i2l, 1) := by decide +kernel
theorem dX10_pass_2 : decode cX10_pass 2 = .ok (.lconst 0, 1) := by decide +kernel
theorem dX10_pass_3 : decode cX10_pass 3 = .ok (.ldc2_w 384, 3) := by decide +kernel
theorem dX10_pass_6 : decode cX10_pass 6 = .ok (.invokestatic 52, 3) := by decide +kernel
theorem dX10_pass_9 : decode cX10_pass 9 = .ok (.ifCond .ne 6, 3) := by decide +kernel
theorem dX10_pass_12 : decode cX10_pass 12 = .ok (.bipush (-2), 2) := by decide +kernel
theorem dX10_pass_14 : decode cX10_pass 14 = .ok (.ireturn, 1) := by decide +kernel
theorem dX10_pass_15 : decode cX10_pass 15 = .ok (.iconst 0, 1) := by decide +kernel
theorem dX10_pass_16 : decode cX10_pass 16 = .ok (.istore_n 2, 1) := by decide +kernel
theorem dX10_pass_17 : decode cX10_pass 17 = .ok (.iload_n 2, 1) := by decide +kernel
theorem dX10_pass_18 : decode cX10_pass 18 = .ok (.iload_n 1, 1) := by decide +kernel
theorem dX10_pass_19 : decode cX10_pass 19 = .ok (.if_icmp .ge 33, 3) := by decide +kernel
theorem dX10_pass_22 : decode cX10_pass 22 = .ok (.aload_n 0, 1) := by decide +kernel
theorem dX10_pass_23 : decode cX10_pass 23 = .ok (.aload_n 0, 1) := by decide +kernel
theorem dX10_pass_24 : decode cX10_pass 24 = .ok (.getfield 219, 3) := by decide +kernel
theorem dX10_pass_27 : decode cX10_pass 27 = .ok (.invokevirtual 386, 3) := by decide +kernel
theorem dX10_pass_30 : decode cX10_pass 30 = .ok (.aload_n 0, 1) := by decide +kernel
theorem dX10_pass_31 : decode cX10_pass 31 = .ok (.aload_n 0, 1) := by decide +kernel
theorem dX10_pass_32 : decode cX10_pass 32 = .ok (.getfield 219, 3) := by decide +kernel
theorem dX10_pass_35 : decode cX10_pass 35 = .ok (.invokevirtual 389, 3) := by decide +kernel
theorem dX10_pass_38 : decode cX10_pass 38 = .ok (.aload_n 0, 1) := by decide +kernel
theorem dX10_pass_39 : decode cX10_pass 39 = .ok (.aload_n 0, 1) := by decide +kernel
theorem dX10_pass_40 : decode cX10_pass 40 = .ok (.getfield 219, 3) := by decide +kernel
theorem dX10_pass_43 : decode cX10_pass 43 = .ok (.invokevirtual 392, 3) := by decide +kernel
theorem dX10_pass_46 : decode cX10_pass 46 = .ok (.iinc 2 1, 3) := by decide +kernel
theorem dX10_pass_49 : decode cX10_pass 49 = .ok (.goto (-32), 3) := by decide +kernel
theorem dX10_pass_52 : decode cX10_pass 52 = .ok (.aload_n 0, 1) := by decide +kernel
theorem dX10_pass_53 : decode cX10_pass 53 = .ok (.getfield 219, 3) := by decide +kernel
theorem dX10_pass_56 : decode cX10_pass 56 = .ok (.bipush 55, 2) := by decide +kernel
theorem dX10_pass_58 : decode cX10_pass 58 = .ok (.iaload, 1) := by decide +kernel
theorem dX10_pass_59 : decode cX10_pass 59 = .ok (.ireturn, 1) := by decide +kernel
set_option maxRecDepth 20000 in
theorem dX10_who_0 : decode cX10_who 0 = .ok (.aload_n 0, 1) := by decide +kernel
theorem dX10_who_1 : decode cX10_who 1 = .ok (.iload_n 1, 1) := by decide +kernel
theorem dX10_who_2 : decode cX10_who 2 = .ok (.invokevirtual 309, 3) := by decide +kernel
theorem dX10_who_5 : decode cX10_who 5 = .ok (.ifCond .ne 7, 3) := by decide +kernel
theorem dX10_who_8 : decode cX10_who 8 = .ok (.ldc_w 395, 3) := by decide +kernel
theorem dX10_who_11 : decode cX10_who 11 = .ok (.ireturn, 1) := by decide +kernel
theorem dX10_who_12 : decode cX10_who 12 = .ok (.iload_n 2, 1) := by decide +kernel
theorem dX10_who_13 : decode cX10_who 13 = .ok (.tableswitch 72 0 3 #[31, 43, 52, 62], 31) := by decide +kernel
theorem dX10_who_44 : decode cX10_who 44 = .ok (.aload_n 0, 1) := by decide +kernel
theorem dX10_who_45 : decode cX10_who 45 = .ok (.getfield 219, 3) := by decide +kernel
theorem dX10_who_48 : decode cX10_who 48 = .ok (.iconst 0, 1) := by decide +kernel
theorem dX10_who_49 : decode cX10_who 49 = .ok (.iload_n 1, 1) := by decide +kernel
theorem dX10_who_50 : decode cX10_who 50 = .ok (.iadd, 1) := by decide +kernel
theorem dX10_who_51 : decode cX10_who 51 = .ok (.iaload, 1) := by decide +kernel
theorem dX10_who_52 : decode cX10_who 52 = .ok (.invokestatic 379, 3) := by decide +kernel
theorem dX10_who_55 : decode cX10_who 55 = .ok (.ireturn, 1) := by decide +kernel
theorem dX10_who_56 : decode cX10_who 56 = .ok (.aload_n 0, 1) := by decide +kernel
theorem dX10_who_57 : decode cX10_who 57 = .ok (.getfield 219, 3) := by decide +kernel
theorem dX10_who_60 : decode cX10_who 60 = .ok (.iconst 5, 1) := by decide +kernel
theorem dX10_who_61 : decode cX10_who 61 = .ok (.iload_n 1, 1) := by decide +kernel
theorem dX10_who_62 : decode cX10_who 62 = .ok (.iadd, 1) := by decide +kernel
theorem dX10_who_63 : decode cX10_who 63 = .ok (.iaload, 1) := by decide +kernel
theorem dX10_who_64 : decode cX10_who 64 = .ok (.ireturn, 1) := by decide +kernel
theorem dX10_who_65 : decode cX10_who 65 = .ok (.aload_n 0, 1) := by decide +kernel
theorem dX10_who_66 : decode cX10_who 66 = .ok (.getfield 219, 3) := by decide +kernel
theorem dX10_who_69 : decode cX10_who 69 = .ok (.bipush 10, 2) := by decide +kernel
theorem dX10_who_71 : decode cX10_who 71 = .ok (.iload_n 1, 1) := by decide +kernel
theorem dX10_who_72 : decode cX10_who 72 = .ok (.iadd, 1) := by decide +kernel
theorem dX10_who_73 : decode cX10_who 73 = .ok (.iaload, 1) := by decide +kernel
theorem dX10_who_74 : decode cX10_who 74 = .ok (.ireturn, 1) := by decide +kernel
theorem dX10_who_75 : decode cX10_who 75 = .ok (.aload_n 0, 1) := by decide +kernel
theorem dX10_who_76 : decode cX10_who 76 = .ok (.getfield 219, 3) := by decide +kernel
theorem dX10_who_79 : decode cX10_who 79 = .ok (.bipush 15, 2) := by decide +kernel
theorem dX10_who_81 : decode cX10_who 81 = .ok (.iload_n 1, 1) := by decide +kernel
theorem dX10_who_82 : decode cX10_who 82 = .ok (.iadd, 1) := by decide +kernel
theorem dX10_who_83 : decode cX10_who 83 = .ok (.iaload, 1) := by decide +kernel
theorem dX10_who_84 : decode cX10_who 84 = .ok (.ireturn, 1) := by decide +kernel
theorem dX10_who_85 : decode cX10_who 85 = .ok (.ldc_w 395, 3) := by decide +kernel
theorem dX10_who_88 : decode cX10_who 88 = .ok (.ireturn, 1) := by decide +kernel
set_option maxRecDepth 20000 in
theorem dX10_house_0 : decode cX10_house 0 = .ok (.aload_n 0, 1) := by decide +kernel
theorem dX10_house_1 : decode cX10_house 1 = .ok (.iload_n 1, 1) := by decide +kernel
theorem dX10_house_2 : decode cX10_house 2 = .ok (.invokevirtual 371, 3) := by decide +kernel
theorem dX10_house_5 : decode cX10_house 5 = .ok (.ifCond .ne 6, 3) := by decide +kernel
theorem dX10_house_8 : decode cX10_house 8 = .ok (.bipush (-2), 2) := by decide +kernel
theorem dX10_house_10 : decode cX10_house 10 = .ok (.ireturn, 1) := by decide +kernel
theorem dX10_house_11 : decode cX10_house 11 = .ok (.iload_n 2, 1) := by decide +kernel
theorem dX10_house_12 : decode cX10_house 12 = .ok (.tableswitch 72 0 3 #[32, 42, 52, 62], 32) := by decide +kernel
theorem dX10_house_44 : decode cX10_house 44 = .ok (.aload_n 0, 1) := by decide +kernel
theorem dX10_house_45 : decode cX10_house 45 = .ok (.aload_n 0, 1) := by decide +kernel
theorem dX10_house_46 : decode cX10_house 46 = .ok (.getfield 219, 3) := by decide +kernel
theorem dX10_house_49 : decode cX10_house 49 = .ok (.iload_n 1, 1) := by decide +kernel
theorem dX10_house_50 : decode cX10_house 50 = .ok (.invokevirtual 346, 3) := by decide +kernel
theorem dX10_house_53 : decode cX10_house 53 = .ok (.ireturn, 1) := by decide +kernel
theorem dX10_house_54 : decode cX10_house 54 = .ok (.aload_n 0, 1) := by decide +kernel
theorem dX10_house_55 : decode cX10_house 55 = .ok (.getfield 219, 3) := by decide +kernel
theorem dX10_house_58 : decode cX10_house 58 = .ok (.bipush 20, 2) := by decide +kernel
theorem dX10_house_60 : decode cX10_house 60 = .ok (.iload_n 1, 1) := by decide +kernel
theorem dX10_house_61 : decode cX10_house 61 = .ok (.iadd, 1) := by decide +kernel
theorem dX10_house_62 : decode cX10_house 62 = .ok (.iaload, 1) := by decide +kernel
theorem dX10_house_63 : decode cX10_house 63 = .ok (.ireturn, 1) := by decide +kernel
theorem dX10_house_64 : decode cX10_house 64 = .ok (.aload_n 0, 1) := by decide +kernel
theorem dX10_house_65 : decode cX10_house 65 = .ok (.getfield 219, 3) := by decide +kernel
theorem dX10_house_68 : decode cX10_house 68 = .ok (.bipush 25, 2) := by decide +kernel
theorem dX10_house_70 : decode cX10_house 70 = .ok (.iload_n 1, 1) := by decide +kernel
theorem dX10_house_71 : decode cX10_house 71 = .ok (.iadd, 1) := by decide +kernel
theorem dX10_house_72 : decode cX10_house 72 = .ok (.iaload, 1) := by decide +kernel
theorem dX10_house_73 : decode cX10_house 73 = .ok (.ireturn, 1) := by decide +kernel
theorem dX10_house_74 : decode cX10_house 74 = .ok (.aload_n 0, 1) := by decide +kernel
theorem dX10_house_75 : decode cX10_house 75 = .ok (.aload_n 0, 1) := by decide +kernel
theorem dX10_house_76 : decode cX10_house 76 = .ok (.getfield 219, 3) := by decide +kernel
theorem dX10_house_79 : decode cX10_house 79 = .ok (.iload_n 1, 1) := by decide +kernel
theorem dX10_house_80 : decode cX10_house 80 = .ok (.invokevirtual 349, 3) := by decide +kernel
theorem dX10_house_83 : decode cX10_house 83 = .ok (.ireturn, 1) := by decide +kernel
theorem dX10_house_84 : decode cX10_house 84 = .ok (.bipush (-2), 2) := by decide +kernel
theorem dX10_house_86 : decode cX10_house 86 = .ok (.ireturn, 1) := by decide +kernel
set_option maxRecDepth 20000 in
theorem dX10_word_0 : decode cX10_word 0 = .ok (.aload_n 0, 1) := by decide +kernel
theorem dX10_word_1 : decode cX10_word 1 = .ok (.iload_n 1, 1) := by decide +kernel
theorem dX10_word_2 : decode cX10_word 2 = .ok (.invokevirtual 371, 3) := by decide +kernel
theorem dX10_word_5 : decode cX10_word 5 = .ok (.ifCond .ne 6, 3) := by decide +kernel
theorem dX10_word_8 : decode cX10_word 8 = .ok (.bipush (-2), 2) := by decide +kernel
theorem dX10_word_10 : decode cX10_word 10 = .ok (.ireturn, 1) := by decide +kernel
theorem dX10_word_11 : decode cX10_word 11 = .ok (.aload_n 0, 1) := by decide +kernel
theorem dX10_word_12 : decode cX10_word 12 = .ok (.aload_n 0, 1) := by decide +kernel
theorem dX10_word_13 : decode cX10_word 13 = .ok (.getfield 219, 3) := by decide +kernel
theorem dX10_word_16 : decode cX10_word 16 = .ok (.iload_n 1, 1) := by decide +kernel
theorem dX10_word_17 : decode cX10_word 17 = .ok (.invokevirtual 346, 3) := by decide +kernel
theorem dX10_word_20 : decode cX10_word 20 = .ok (.istore_n 2, 1) := by decide +kernel
theorem dX10_word_21 : decode cX10_word 21 = .ok (.iload_n 2, 1) := by decide +kernel
theorem dX10_word_22 : decode cX10_word 22 = .ok (.iconst (-1), 1) := by decide +kernel
theorem dX10_word_23 : decode cX10_word 23 = .ok (.if_icmp .ne 5, 3) := by decide +kernel
theorem dX10_word_26 : decode cX10_word 26 = .ok (.iconst 0, 1) := by decide +kernel
theorem dX10_word_27 : decode cX10_word 27 = .ok (.ireturn, 1) := by decide +kernel
theorem dX10_word_28 : decode cX10_word 28 = .ok (.iload_n 2, 1) := by decide +kernel
theorem dX10_word_29 : decode cX10_word 29 = .ok (.aload_n 0, 1) := by decide +kernel
theorem dX10_word_30 : decode cX10_word 30 = .ok (.getfield 209, 3) := by decide +kernel
theorem dX10_word_33 : decode cX10_word 33 = .ok (.iload_n 1, 1) := by decide +kernel
theorem dX10_word_34 : decode cX10_word 34 = .ok (.iaload, 1) := by decide +kernel
theorem dX10_word_35 : decode cX10_word 35 = .ok (.if_icmp .ne 5, 3) := by decide +kernel
theorem dX10_word_38 : decode cX10_word 38 = .ok (.iconst 1, 1) := by decide +kernel
theorem dX10_word_39 : decode cX10_word 39 = .ok (.ireturn, 1) := by decide +kernel
theorem dX10_word_40 : decode cX10_word 40 = .ok (.iconst 0, 1) := by decide +kernel
theorem dX10_word_41 : decode cX10_word 41 = .ok (.istore_n 3, 1) := by decide +kernel
theorem dX10_word_42 : decode cX10_word 42 = .ok (.iconst 0, 1) := by decide +kernel
theorem dX10_word_43 : decode cX10_word 43 = .ok (.istore 4, 2) := by decide +kernel
theorem dX10_word_45 : decode cX10_word 45 = .ok (.iconst 0, 1) := by decide +kernel
theorem dX10_word_46 : decode cX10_word 46 = .ok (.istore 5, 2) := by decide +kernel
theorem dX10_word_48 : decode cX10_word 48 = .ok (.iload 5, 2) := by decide +kernel
theorem dX10_word_50 : decode cX10_word 50 = .ok (.aload_n 0, 1) := by decide +kernel
theorem dX10_word_51 : decode cX10_word 51 = .ok (.getfield 285, 3) := by decide +kernel
theorem dX10_word_54 : decode cX10_word 54 = .ok (.if_icmp .ge 75, 3) := by decide +kernel
theorem dX10_word_57 : decode cX10_word 57 = .ok (.aload_n 0, 1) := by decide +kernel
theorem dX10_word_58 : decode cX10_word 58 = .ok (.aload_n 0, 1) := by decide +kernel
theorem dX10_word_59 : decode cX10_word 59 = .ok (.getfield 219, 3) := by decide +kernel
theorem dX10_word_62 : decode cX10_word 62 = .ok (.iload 5, 2) := by decide +kernel
theorem dX10_word_64 : decode cX10_word 64 = .ok (.iload_n 1, 1) := by decide +kernel
theorem dX10_word_65 : decode cX10_word 65 = .ok (.invokevirtual 321, 3) := by decide +kernel
theorem dX10_word_68 : decode cX10_word 68 = .ok (.ifCond .eq 55, 3) := by decide +kernel
theorem dX10_word_71 : decode cX10_word 71 = .ok (.aload_n 0, 1) := by decide +kernel
theorem dX10_word_72 : decode cX10_word 72 = .ok (.getfield 219, 3) := by decide +kernel
theorem dX10_word_75 : decode cX10_word 75 = .ok (.iconst 5, 1) := by decide +kernel
theorem dX10_word_76 : decode cX10_word 76 = .ok (.iload 5, 2) := by decide +kernel
theorem dX10_word_78 : decode cX10_word 78 = .ok (.iadd, 1) := by decide +kernel
theorem dX10_word_79 : decode cX10_word 79 = .ok (.iaload, 1) := by decide +kernel
theorem dX10_word_80 : decode cX10_word 80 = .ok (.aload_n 0, 1) := by decide +kernel
theorem dX10_word_81 : decode cX10_word 81 = .ok (.invokevirtual 325, 3) := by decide +kernel
theorem dX10_word_84 : decode cX10_word 84 = .ok (.if_icmp .lt 6, 3) := by decide +kernel
theorem dX10_word_87 : decode cX10_word 87 = .ok (.goto 36, 3) := by decide +kernel
theorem dX10_word_90 : decode cX10_word 90 = .ok (.iinc 3 1, 3) := by decide +kernel
theorem dX10_word_93 : decode cX10_word 93 = .ok (.iload 4, 2) := by decide +kernel
theorem dX10_word_95 : decode cX10_word 95 = .ok (.aload_n 0, 1) := by decide +kernel
theorem dX10_word_96 : decode cX10_word 96 = .ok (.getfield 219, 3) := by decide +kernel
theorem dX10_word_99 : decode cX10_word 99 = .ok (.iconst 5, 1) := by decide +kernel
theorem dX10_word_100 : decode cX10_word 100 = .ok (.iload 5, 2) := by decide +kernel
theorem dX10_word_102 : decode cX10_word 102 = .ok (.iadd, 1) := by decide +kernel
theorem dX10_word_103 : decode cX10_word 103 = .ok (.iaload, 1) := by decide +kernel
theorem dX10_word_104 : decode cX10_word 104 = .ok (.aload_n 0, 1) := by decide +kernel
theorem dX10_word_105 : decode cX10_word 105 = .ok (.getfield 219, 3) := by decide +kernel
theorem dX10_word_108 : decode cX10_word 108 = .ok (.iconst 5, 1) := by decide +kernel
theorem dX10_word_109 : decode cX10_word 109 = .ok (.iload_n 2, 1) := by decide +kernel
theorem dX10_word_110 : decode cX10_word 110 = .ok (.iadd, 1) := by decide +kernel
theorem dX10_word_111 : decode cX10_word 111 = .ok (.iaload, 1) := by decide +kernel
theorem dX10_word_112 : decode cX10_word 112 = .ok (.if_icmp .ne 7, 3) := by decide +kernel
theorem dX10_word_115 : decode cX10_word 115 = .ok (.iconst 1, 1) := by decide +kernel
theorem dX10_word_116 : decode cX10_word 116 = .ok (.goto 4, 3) := by decide +kernel
theorem dX10_word_119 : decode cX10_word 119 = .ok (.iconst 0, 1) := by decide +kernel
theorem dX10_word_120 : decode cX10_word 120 = .ok (.iadd, 1) := by decide +kernel
theorem dX10_word_121 : decode cX10_word 121 = .ok (.istore 4, 2) := by decide +kernel
theorem dX10_word_123 : decode cX10_word 123 = .ok (.iinc 5 1, 3) := by decide +kernel
theorem dX10_word_126 : decode cX10_word 126 = .ok (.goto (-78), 3) := by decide +kernel
theorem dX10_word_129 : decode cX10_word 129 = .ok (.iload_n 3, 1) := by decide +kernel
theorem dX10_word_130 : decode cX10_word 130 = .ok (.iconst 1, 1) := by decide +kernel
theorem dX10_word_131 : decode cX10_word 131 = .ok (.if_icmp .ne 7, 3) := by decide +kernel
theorem dX10_word_134 : decode cX10_word 134 = .ok (.iconst 2, 1) := by decide +kernel
theorem dX10_word_135 : decode cX10_word 135 = .ok (.goto 14, 3) := by decide +kernel
theorem dX10_word_138 : decode cX10_word 138 = .ok (.iload 4, 2) := by decide +kernel
theorem dX10_word_140 : decode cX10_word 140 = .ok (.iconst 1, 1) := by decide +kernel
theorem dX10_word_141 : decode cX10_word 141 = .ok (.if_icmp .ne 7, 3) := by decide +kernel
theorem dX10_word_144 : decode cX10_word 144 = .ok (.iconst 3, 1) := by decide +kernel
theorem dX10_word_145 : decode cX10_word 145 = .ok (.goto 4, 3) := by decide +kernel
theorem dX10_word_148 : decode cX10_word 148 = .ok (.iconst 4, 1) := by decide +kernel
theorem dX10_word_149 : decode cX10_word 149 = .ok (.ireturn, 1) := by decide +kernel
set_option maxRecDepth 20000 in
theorem dX10_isSlot_0 : decode cX10_isSlot 0 = .ok (.iload_n 0, 1) := by decide +kernel
theorem dX10_isSlot_1 : decode cX10_isSlot 1 = .ok (.i2l, 1) := by decide +kernel
theorem dX10_isSlot_2 : decode cX10_isSlot 2 = .ok (.lconst 0, 1) := by decide +kernel
theorem dX10_isSlot_3 : decode cX10_isSlot 3 = .ok (.ldc2_w 297, 3) := by decide +kernel
theorem dX10_isSlot_6 : decode cX10_isSlot 6 = .ok (.invokestatic 52, 3) := by decide +kernel
theorem dX10_isSlot_9 : decode cX10_isSlot 9 = .ok (.ireturn, 1) := by decide +kernel
set_option maxRecDepth 20000 in
theorem dX10_keep_0 : decode cX10_keep 0 = .ok (.iload_n 1, 1) := by decide +kernel
theorem dX10_keep_1 : decode cX10_keep 1 = .ok (.invokestatic 396, 3) := by decide +kernel
theorem dX10_keep_4 : decode cX10_keep 4 = .ok (.ifCond .ne 6, 3) := by decide +kernel
theorem dX10_keep_7 : decode cX10_keep 7 = .ok (.bipush (-2), 2) := by decide +kernel
theorem dX10_keep_9 : decode cX10_keep 9 = .ok (.ireturn, 1) := by decide +kernel
theorem dX10_keep_10 : decode cX10_keep 10 = .ok (.iconst 0, 1) := by decide +kernel
theorem dX10_keep_11 : decode cX10_keep 11 = .ok (.istore_n 2, 1) := by decide +kernel
theorem dX10_keep_12 : decode cX10_keep 12 = .ok (.iload_n 2, 1) := by decide +kernel
theorem dX10_keep_13 : decode cX10_keep 13 = .ok (.bipush 57, 2) := by decide +kernel
theorem dX10_keep_15 : decode cX10_keep 15 = .ok (.if_icmp .ge 26, 3) := by decide +kernel
theorem dX10_keep_18 : decode cX10_keep 18 = .ok (.aload_n 0, 1) := by decide +kernel
theorem dX10_keep_19 : decode cX10_keep 19 = .ok (.getfield 243, 3) := by decide +kernel
theorem dX10_keep_22 : decode cX10_keep 22 = .ok (.bipush 57, 2) := by decide +kernel
theorem dX10_keep_24 : decode cX10_keep 24 = .ok (.iload_n 1, 1) := by decide +kernel
theorem dX10_keep_25 : decode cX10_keep 25 = .ok (.imul, 1) := by decide +kernel
theorem dX10_keep_26 : decode cX10_keep 26 = .ok (.iload_n 2, 1) := by decide +kernel
theorem dX10_keep_27 : decode cX10_keep 27 = .ok (.iadd, 1) := by decide +kernel
theorem dX10_keep_28 : decode cX10_keep 28 = .ok (.aload_n 0, 1) := by decide +kernel
theorem dX10_keep_29 : decode cX10_keep 29 = .ok (.getfield 219, 3) := by decide +kernel
theorem dX10_keep_32 : decode cX10_keep 32 = .ok (.iload_n 2, 1) := by decide +kernel
theorem dX10_keep_33 : decode cX10_keep 33 = .ok (.iaload, 1) := by decide +kernel
theorem dX10_keep_34 : decode cX10_keep 34 = .ok (.iastore, 1) := by decide +kernel
theorem dX10_keep_35 : decode cX10_keep 35 = .ok (.iinc 2 1, 3) := by decide +kernel
theorem dX10_keep_38 : decode cX10_keep 38 = .ok (.goto (-26), 3) := by decide +kernel
theorem dX10_keep_41 : decode cX10_keep 41 = .ok (.aload_n 0, 1) := by decide +kernel
theorem dX10_keep_42 : decode cX10_keep 42 = .ok (.getfield 246, 3) := by decide +kernel
theorem dX10_keep_45 : decode cX10_keep 45 = .ok (.iload_n 1, 1) := by decide +kernel
theorem dX10_keep_46 : decode cX10_keep 46 = .ok (.iconst 1, 1) := by decide +kernel
theorem dX10_keep_47 : decode cX10_keep 47 = .ok (.bastore, 1) := by decide +kernel
theorem dX10_keep_48 : decode cX10_keep 48 = .ok (.aload_n 0, 1) := by decide +kernel
theorem dX10_keep_49 : decode cX10_keep 49 = .ok (.getfield 219, 3) := by decide +kernel
theorem dX10_keep_52 : decode cX10_keep 52 = .ok (.bipush 55, 2) := by decide +kernel
theorem dX10_keep_54 : decode cX10_keep 54 = .ok (.iaload, 1) := by decide +kernel
theorem dX10_keep_55 : decode cX10_keep 55 = .ok (.ireturn, 1) := by decide +kernel
set_option maxRecDepth 20000 in
theorem dX10_take_0 : decode cX10_take 0 = .ok (.iload_n 1, 1) := by decide +kernel
theorem dX10_take_1 : decode cX10_take 1 = .ok (.invokestatic 396, 3) := by decide +kernel
theorem dX10_take_4 : decode cX10_take 4 = .ok (.ifCond .ne 6, 3) := by decide +kernel
theorem dX10_take_7 : decode cX10_take 7 = .ok (.bipush (-2), 2) := by decide +kernel
theorem dX10_take_9 : decode cX10_take 9 = .ok (.ireturn, 1) := by decide +kernel
theorem dX10_take_10 : decode cX10_take 10 = .ok (.aload_n 0, 1) := by decide +kernel
theorem dX10_take_11 : decode cX10_take 11 = .ok (.getfield 246, 3) := by decide +kernel
theorem dX10_take_14 : decode cX10_take 14 = .ok (.iload_n 1, 1) := by decide +kernel
theorem dX10_take_15 : decode cX10_take 15 = .ok (.baload, 1) := by decide +kernel
theorem dX10_take_16 : decode cX10_take 16 = .ok (.ifCond .ne 6, 3) := by decide +kernel
theorem dX10_take_19 : decode cX10_take 19 = .ok (.bipush (-4), 2) := by decide +kernel
theorem dX10_take_21 : decode cX10_take 21 = .ok (.ireturn, 1) := by decide +kernel
theorem dX10_take_22 : decode cX10_take 22 = .ok (.iconst 0, 1) := by decide +kernel
theorem dX10_take_23 : decode cX10_take 23 = .ok (.istore_n 2, 1) := by decide +kernel
theorem dX10_take_24 : decode cX10_take 24 = .ok (.iload_n 2, 1) := by decide +kernel
theorem dX10_take_25 : decode cX10_take 25 = .ok (.bipush 57, 2) := by decide +kernel
theorem dX10_take_27 : decode cX10_take 27 = .ok (.if_icmp .ge 26, 3) := by decide +kernel
theorem dX10_take_30 : decode cX10_take 30 = .ok (.aload_n 0, 1) := by decide +kernel
theorem dX10_take_31 : decode cX10_take 31 = .ok (.getfield 219, 3) := by decide +kernel
theorem dX10_take_34 : decode cX10_take 34 = .ok (.iload_n 2, 1) := by decide +kernel
theorem dX10_take_35 : decode cX10_take 35 = .ok (.aload_n 0, 1) := by decide +kernel
theorem dX10_take_36 : decode cX10_take 36 = .ok (.getfield 243, 3) := by decide +kernel
theorem dX10_take_39 : decode cX10_take 39 = .ok (.bipush 57, 2) := by decide +kernel
theorem dX10_take_41 : decode cX10_take 41 = .ok (.iload_n 1, 1) := by decide +kernel
theorem dX10_take_42 : decode cX10_take 42 = .ok (.imul, 1) := by decide +kernel
theorem dX10_take_43 : decode cX10_take 43 = .ok (.iload_n 2, 1) := by decide +kernel
theorem dX10_take_44 : decode cX10_take 44 = .ok (.iadd, 1) := by decide +kernel
theorem dX10_take_45 : decode cX10_take 45 = .ok (.iaload, 1) := by decide +kernel
theorem dX10_take_46 : decode cX10_take 46 = .ok (.iastore, 1) := by decide +kernel
theorem dX10_take_47 : decode cX10_take 47 = .ok (.iinc 2 1, 3) := by decide +kernel
theorem dX10_take_50 : decode cX10_take 50 = .ok (.goto (-26), 3) := by decide +kernel
theorem dX10_take_53 : decode cX10_take 53 = .ok (.aload_n 0, 1) := by decide +kernel
theorem dX10_take_54 : decode cX10_take 54 = .ok (.getfield 219, 3) := by decide +kernel
theorem dX10_take_57 : decode cX10_take 57 = .ok (.bipush 55, 2) := by decide +kernel
theorem dX10_take_59 : decode cX10_take 59 = .ok (.iaload, 1) := by decide +kernel
theorem dX10_take_60 : decode cX10_take 60 = .ok (.ireturn, 1) := by decide +kernel
theorem dX10_copyNow_0 : decode cX10_copyNow 0 = .ok (.iconst 0, 1) := by decide +kernel
theorem dX10_copyNow_1 : decode cX10_copyNow 1 = .ok (.istore_n 1, 1) := by decide +kernel
theorem dX10_copyNow_2 : decode cX10_copyNow 2 = .ok (.iload_n 1, 1) := by decide +kernel
theorem dX10_copyNow_3 : decode cX10_copyNow 3 = .ok (.bipush 57, 2) := by decide +kernel
theorem dX10_copyNow_5 : decode cX10_copyNow 5 = .ok (.if_icmp .ge 21, 3) := by decide +kernel
theorem dX10_copyNow_8 : decode cX10_copyNow 8 = .ok (.aload_n 0, 1) := by decide +kernel
theorem dX10_copyNow_9 : decode cX10_copyNow 9 = .ok (.getfield 222, 3) := by decide +kernel
theorem dX10_copyNow_12 : decode cX10_copyNow 12 = .ok (.iload_n 1, 1) := by decide +kernel
theorem dX10_copyNow_13 : decode cX10_copyNow 13 = .ok (.aload_n 0, 1) := by decide +kernel
theorem dX10_copyNow_14 : decode cX10_copyNow 14 = .ok (.getfield 219, 3) := by decide +kernel
theorem dX10_copyNow_17 : decode cX10_copyNow 17 = .ok (.iload_n 1, 1) := by decide +kernel
theorem dX10_copyNow_18 : decode cX10_copyNow 18 = .ok (.iaload, 1) := by decide +kernel
theorem dX10_copyNow_19 : decode cX10_copyNow 19 = .ok (.iastore, 1) := by decide +kernel
theorem dX10_copyNow_20 : decode cX10_copyNow 20 = .ok (.iinc 1 1, 3) := by decide +kernel
theorem dX10_copyNow_23 : decode cX10_copyNow 23 = .ok (.goto (-21), 3) := by decide +kernel
theorem dX10_copyNow_26 : decode cX10_copyNow 26 = .ok (.return_, 1) := by decide +kernel
set_option maxRecDepth 20000 in
theorem dX10_goTrial_0 : decode cX10_goTrial 0 = .ok (.iconst 0, 1) := by decide +kernel
theorem dX10_goTrial_1 : decode cX10_goTrial 1 = .ok (.istore_n 2, 1) := by decide +kernel
theorem dX10_goTrial_2 : decode cX10_goTrial 2 = .ok (.iload_n 2, 1) := by decide +kernel
theorem dX10_goTrial_3 : decode cX10_goTrial 3 = .ok (.iload_n 1, 1) := by decide +kernel
theorem dX10_goTrial_4 : decode cX10_goTrial 4 = .ok (.if_icmp .ge 25, 3) := by decide +kernel
theorem dX10_goTrial_7 : decode cX10_goTrial 7 = .ok (.aload_n 0, 1) := by decide +kernel
theorem dX10_goTrial_8 : decode cX10_goTrial 8 = .ok (.aload_n 0, 1) := by decide +kernel
theorem dX10_goTrial_9 : decode cX10_goTrial 9 = .ok (.getfield 222, 3) := by decide +kernel
theorem dX10_goTrial_12 : decode cX10_goTrial 12 = .ok (.invokevirtual 386, 3) := by decide +kernel
theorem dX10_goTrial_15 : decode cX10_goTrial 15 = .ok (.aload_n 0, 1) := by decide +kernel
theorem dX10_goTrial_16 : decode cX10_goTrial 16 = .ok (.aload_n 0, 1) := by decide +kernel
theorem dX10_goTrial_17 : decode cX10_goTrial 17 = .ok (.getfield 222, 3) := by decide +kernel
theorem dX10_goTrial_20 : decode cX10_goTrial 20 = .ok (.invokevirtual 392, 3) := by decide +kernel
theorem dX10_goTrial_23 : decode cX10_goTrial 23 = .ok (.iinc 2 1, 3) := by decide +kernel
theorem dX10_goTrial_26 : decode cX10_goTrial 26 = .ok (.goto (-24), 3) := by decide +kernel
theorem dX10_goTrial_29 : decode cX10_goTrial 29 = .ok (.return_, 1) := by decide +kernel
set_option maxRecDepth 20000 in
theorem dX10_sumOf_0 : decode cX10_sumOf 0 = .ok (.aload_n 0, 1) := by decide +kernel
theorem dX10_sumOf_1 : decode cX10_sumOf 1 = .ok (.getfield 222, 3) := by decide +kernel
theorem dX10_sumOf_4 : decode cX10_sumOf 4 = .ok (.bipush 15, 2) := by decide +kernel
theorem dX10_sumOf_6 : decode cX10_sumOf 6 = .ok (.iload_n 1, 1) := by decide +kernel
theorem dX10_sumOf_7 : decode cX10_sumOf 7 = .ok (.iadd, 1) := by decide +kernel
theorem dX10_sumOf_8 : decode cX10_sumOf 8 = .ok (.iaload, 1) := by decide +kernel
theorem dX10_sumOf_9 : decode cX10_sumOf 9 = .ok (.istore_n 2, 1) := by decide +kernel
theorem dX10_sumOf_10 : decode cX10_sumOf 10 = .ok (.aload_n 0, 1) := by decide +kernel
theorem dX10_sumOf_11 : decode cX10_sumOf 11 = .ok (.iconst 4, 1) := by decide +kernel
theorem dX10_sumOf_12 : decode cX10_sumOf 12 = .ok (.invokevirtual 399, 3) := by decide +kernel
theorem dX10_sumOf_15 : decode cX10_sumOf 15 = .ok (.aload_n 0, 1) := by decide +kernel
theorem dX10_sumOf_16 : decode cX10_sumOf 16 = .ok (.getfield 222, 3) := by decide +kernel
theorem dX10_sumOf_19 : decode cX10_sumOf 19 = .ok (.bipush 15, 2) := by decide +kernel
theorem dX10_sumOf_21 : decode cX10_sumOf 21 = .ok (.iload_n 1, 1) := by decide +kernel
theorem dX10_sumOf_22 : decode cX10_sumOf 22 = .ok (.iadd, 1) := by decide +kernel
theorem dX10_sumOf_23 : decode cX10_sumOf 23 = .ok (.iaload, 1) := by decide +kernel
theorem dX10_sumOf_24 : decode cX10_sumOf 24 = .ok (.iload_n 2, 1) := by decide +kernel
theorem dX10_sumOf_25 : decode cX10_sumOf 25 = .ok (.isub, 1) := by decide +kernel
theorem dX10_sumOf_26 : decode cX10_sumOf 26 = .ok (.ireturn, 1) := by decide +kernel
set_option maxRecDepth 20000 in
theorem dX10_sumNow_0 : decode cX10_sumNow 0 = .ok (.aload_n 0, 1) := by decide +kernel
theorem dX10_sumNow_1 : decode cX10_sumNow 1 = .ok (.invokevirtual 402, 3) := by decide +kernel
theorem dX10_sumNow_4 : decode cX10_sumNow 4 = .ok (.aload_n 0, 1) := by decide +kernel
theorem dX10_sumNow_5 : decode cX10_sumNow 5 = .ok (.iload_n 1, 1) := by decide +kernel
theorem dX10_sumNow_6 : decode cX10_sumNow 6 = .ok (.invokevirtual 405, 3) := by decide +kernel
theorem dX10_sumNow_9 : decode cX10_sumNow 9 = .ok (.ireturn, 1) := by decide +kernel
set_option maxRecDepth 20000 in
theorem dX10_sum_0 : decode cX10_sum 0 = .ok (.aload_n 0, 1) := by decide +kernel
theorem dX10_sum_1 : decode cX10_sum 1 = .ok (.iload_n 1, 1) := by decide +kernel
theorem dX10_sum_2 : decode cX10_sum 2 = .ok (.invokevirtual 309, 3) := by decide +kernel
theorem dX10_sum_5 : decode cX10_sum 5 = .ok (.ifCond .eq 11, 3) := by decide +kernel
theorem dX10_sum_8 : decode cX10_sum 8 = .ok (.aload_n 0, 1) := by decide +kernel
theorem dX10_sum_9 : decode cX10_sum 9 = .ok (.iload_n 1, 1) := by decide +kernel
theorem dX10_sum_10 : decode cX10_sum 10 = .ok (.invokevirtual 408, 3) := by decide +kernel
theorem dX10_sum_13 : decode cX10_sum 13 = .ok (.goto 6, 3) := by decide +kernel
theorem dX10_sum_16 : decode cX10_sum 16 = .ok (.ldc_w 395, 3) := by decide +kernel
theorem dX10_sum_19 : decode cX10_sum 19 = .ok (.ireturn, 1) := by decide +kernel
theorem dX10_place_0 : decode cX10_place 0 = .ok (.iload_n 1, 1) := by decide +kernel
theorem dX10_place_1 : decode cX10_place 1 = .ok (.aload_n 0, 1) := by decide +kernel
theorem dX10_place_2 : decode cX10_place 2 = .ok (.getfield 282, 3) := by decide +kernel
theorem dX10_place_5 : decode cX10_place 5 = .ok (.if_icmp .ne 7, 3) := by decide +kernel
theorem dX10_place_8 : decode cX10_place 8 = .ok (.iconst 5, 1) := by decide +kernel
theorem dX10_place_9 : decode cX10_place 9 = .ok (.goto 4, 3) := by decide +kernel
theorem dX10_place_12 : decode cX10_place 12 = .ok (.iload_n 1, 1) := by decide +kernel
theorem dX10_place_13 : decode cX10_place 13 = .ok (.ireturn, 1) := by decide +kernel
set_option maxRecDepth 20000 in
theorem dX10_findBest_0 : decode cX10_findBest 0 = .ok (.aload_n 0, 1) := by decide +kernel
theorem dX10_findBest_1 : decode cX10_findBest 1 = .ok (.getfield 282, 3) := by decide +kernel
theorem dX10_findBest_4 : decode cX10_findBest 4 = .ok (.iconst 1, 1) := by decide +kernel
theorem dX10_findBest_5 : decode cX10_findBest 5 = .ok (.iadd, 1) := by decide +kernel
theorem dX10_findBest_6 : decode cX10_findBest 6 = .ok (.istore_n 2, 1) := by decide +kernel
theorem dX10_findBest_7 : decode cX10_findBest 7 = .ok (.iload_n 2, 1) := by decide +kernel
theorem dX10_findBest_8 : decode cX10_findBest 8 = .ok (.iload_n 2, 1) := by decide +kernel
theorem dX10_findBest_9 : decode cX10_findBest 9 = .ok (.imul, 1) := by decide +kernel
theorem dX10_findBest_10 : decode cX10_findBest 10 = .ok (.iload_n 2, 1) := by decide +kernel
theorem dX10_findBest_11 : decode cX10_findBest 11 = .ok (.imul, 1) := by decide +kernel
theorem dX10_findBest_12 : decode cX10_findBest 12 = .ok (.iload_n 2, 1) := by decide +kernel
theorem dX10_findBest_13 : decode cX10_findBest 13 = .ok (.imul, 1) := by decide +kernel
theorem dX10_findBest_14 : decode cX10_findBest 14 = .ok (.istore_n 3, 1) := by decide +kernel
theorem dX10_findBest_15 : decode cX10_findBest 15 = .ok (.ldc_w 395, 3) := by decide +kernel
theorem dX10_findBest_18 : decode cX10_findBest 18 = .ok (.istore 4, 2) := by decide +kernel
theorem dX10_findBest_20 : decode cX10_findBest 20 = .ok (.iconst 0, 1) := by decide +kernel
theorem dX10_findBest_21 : decode cX10_findBest 21 = .ok (.istore 5, 2) := by decide +kernel
theorem dX10_findBest_23 : decode cX10_findBest 23 = .ok (.iconst 0, 1) := by decide +kernel
theorem dX10_findBest_24 : decode cX10_findBest 24 = .ok (.istore 6, 2) := by decide +kernel
theorem dX10_findBest_26 : decode cX10_findBest 26 = .ok (.iload 6, 2) := by decide +kernel
theorem dX10_findBest_28 : decode cX10_findBest 28 = .ok (.iload_n 3, 1) := by decide +kernel
theorem dX10_findBest_29 : decode cX10_findBest 29 = .ok (.if_icmp .ge 84, 3) := by decide +kernel
theorem dX10_findBest_32 : decode cX10_findBest 32 = .ok (.aload_n 0, 1) := by decide +kernel
theorem dX10_findBest_33 : decode cX10_findBest 33 = .ok (.invokevirtual 402, 3) := by decide +kernel
theorem dX10_findBest_36 : decode cX10_findBest 36 = .ok (.iload 6, 2) := by decide +kernel
theorem dX10_findBest_38 : decode cX10_findBest 38 = .ok (.istore 7, 2) := by decide +kernel
theorem dX10_findBest_40 : decode cX10_findBest 40 = .ok (.iconst 3, 1) := by decide +kernel
theorem dX10_findBest_41 : decode cX10_findBest 41 = .ok (.istore 8, 2) := by decide +kernel
theorem dX10_findBest_43 : decode cX10_findBest 43 = .ok (.iload 8, 2) := by decide +kernel
theorem dX10_findBest_45 : decode cX10_findBest 45 = .ok (.ifCond .lt 37, 3) := by decide +kernel
theorem dX10_findBest_48 : decode cX10_findBest 48 = .ok (.aload_n 0, 1) := by decide +kernel
theorem dX10_findBest_49 : decode cX10_findBest 49 = .ok (.getfield 222, 3) := by decide +kernel
theorem dX10_findBest_52 : decode cX10_findBest 52 = .ok (.bipush 35, 2) := by decide +kernel
theorem dX10_findBest_54 : decode cX10_findBest 54 = .ok (.iconst 4, 1) := by decide +kernel
theorem dX10_findBest_55 : decode cX10_findBest 55 = .ok (.iload_n 1, 1) := by decide +kernel
theorem dX10_findBest_56 : decode cX10_findBest 56 = .ok (.imul, 1) := by decide +kernel
theorem dX10_findBest_57 : decode cX10_findBest 57 = .ok (.iadd, 1) := by decide +kernel
theorem dX10_findBest_58 : decode cX10_findBest 58 = .ok (.iload 8, 2) := by decide +kernel
theorem dX10_findBest_60 : decode cX10_findBest 60 = .ok (.iadd, 1) := by decide +kernel
theorem dX10_findBest_61 : decode cX10_findBest 61 = .ok (.aload_n 0, 1) := by decide +kernel
theorem dX10_findBest_62 : decode cX10_findBest 62 = .ok (.iload 7, 2) := by decide +kernel
theorem dX10_findBest_64 : decode cX10_findBest 64 = .ok (.iload_n 2, 1) := by decide +kernel
theorem dX10_findBest_65 : decode cX10_findBest 65 = .ok (.irem, 1) := by decide +kernel
theorem dX10_findBest_66 : decode cX10_findBest 66 = .ok (.invokevirtual 411, 3) := by decide +kernel
theorem dX10_findBest_69 : decode cX10_findBest 69 = .ok (.iastore, 1) := by decide +kernel
theorem dX10_findBest_70 : decode cX10_findBest 70 = .ok (.iload 7, 2) := by decide +kernel
theorem dX10_findBest_72 : decode cX10_findBest 72 = .ok (.iload_n 2, 1) := by decide +kernel
theorem dX10_findBest_73 : decode cX10_findBest 73 = .ok (.idiv, 1) := by decide +kernel
theorem dX10_findBest_74 : decode cX10_findBest 74 = .ok (.istore 7, 2) := by decide +kernel
theorem dX10_findBest_76 : decode cX10_findBest 76 = .ok (.iinc 8 (-1), 3) := by decide +kernel
theorem dX10_findBest_79 : decode cX10_findBest 79 = .ok (.goto (-36), 3) := by decide +kernel
theorem dX10_findBest_82 : decode cX10_findBest 82 = .ok (.aload_n 0, 1) := by decide +kernel
theorem dX10_findBest_83 : decode cX10_findBest 83 = .ok (.iload_n 1, 1) := by decide +kernel
theorem dX10_findBest_84 : decode cX10_findBest 84 = .ok (.invokevirtual 405, 3) := by decide +kernel
theorem dX10_findBest_87 : decode cX10_findBest 87 = .ok (.istore 8, 2) := by decide +kernel
theorem dX10_findBest_89 : decode cX10_findBest 89 = .ok (.iload 8, 2) := by decide +kernel
theorem dX10_findBest_91 : decode cX10_findBest 91 = .ok (.iload 4, 2) := by decide +kernel
theorem dX10_findBest_93 : decode cX10_findBest 93 = .ok (.if_icmp .gt 6, 3) := by decide +kernel
theorem dX10_findBest_96 : decode cX10_findBest 96 = .ok (.goto 11, 3) := by decide +kernel
theorem dX10_findBest_99 : decode cX10_findBest 99 = .ok (.iload 8, 2) := by decide +kernel
theorem dX10_findBest_101 : decode cX10_findBest 101 = .ok (.istore 4, 2) := by decide +kernel
theorem dX10_findBest_103 : decode cX10_findBest 103 = .ok (.iload 6, 2) := by decide +kernel
theorem dX10_findBest_105 : decode cX10_findBest 105 = .ok (.istore 5, 2) := by decide +kernel
theorem dX10_findBest_107 : decode cX10_findBest 107 = .ok (.iinc 6 1, 3) := by decide +kernel
theorem dX10_findBest_110 : decode cX10_findBest 110 = .ok (.goto (-84), 3) := by decide +kernel
theorem dX10_findBest_113 : decode cX10_findBest 113 = .ok (.iconst 3, 1) := by decide +kernel
theorem dX10_findBest_114 : decode cX10_findBest 114 = .ok (.istore 6, 2) := by decide +kernel
theorem dX10_findBest_116 : decode cX10_findBest 116 = .ok (.iload 6, 2) := by decide +kernel
theorem dX10_findBest_118 : decode cX10_findBest 118 = .ok (.ifCond .lt 30, 3) := by decide +kernel
theorem dX10_findBest_121 : decode cX10_findBest 121 = .ok (.aload_n 0, 1) := by decide +kernel
theorem dX10_findBest_122 : decode cX10_findBest 122 = .ok (.getfield 249, 3) := by decide +kernel
theorem dX10_findBest_125 : decode cX10_findBest 125 = .ok (.iload 6, 2) := by decide +kernel
theorem dX10_findBest_127 : decode cX10_findBest 127 = .ok (.aload_n 0, 1) := by decide +kernel
theorem dX10_findBest_128 : decode cX10_findBest 128 = .ok (.iload 5, 2) := by decide +kernel
theorem dX10_findBest_130 : decode cX10_findBest 130 = .ok (.iload_n 2, 1) := by decide +kernel
theorem dX10_findBest_131 : decode cX10_findBest 131 = .ok (.irem, 1) := by decide +kernel
theorem dX10_findBest_132 : decode cX10_findBest 132 = .ok (.invokevirtual 411, 3) := by decide +kernel
theorem dX10_findBest_135 : decode cX10_findBest 135 = .ok (.iastore, 1) := by decide +kernel
theorem dX10_findBest_136 : decode cX10_findBest 136 = .ok (.iload 5, 2) := by decide +kernel
theorem dX10_findBest_138 : decode cX10_findBest 138 = .ok (.iload_n 2, 1) := by decide +kernel
theorem dX10_findBest_139 : decode cX10_findBest 139 = .ok (.idiv, 1) := by decide +kernel
theorem dX10_findBest_140 : decode cX10_findBest 140 = .ok (.istore 5, 2) := by decide +kernel
theorem dX10_findBest_142 : decode cX10_findBest 142 = .ok (.iinc 6 (-1), 3) := by decide +kernel
theorem dX10_findBest_145 : decode cX10_findBest 145 = .ok (.goto (-29), 3) := by decide +kernel
theorem dX10_findBest_148 : decode cX10_findBest 148 = .ok (.iload 4, 2) := by decide +kernel
theorem dX10_findBest_150 : decode cX10_findBest 150 = .ok (.ireturn, 1) := by decide +kernel
set_option maxRecDepth 20000 in
theorem dX10_best_0 : decode cX10_best 0 = .ok (.aload_n 0, 1) := by decide +kernel
theorem dX10_best_1 : decode cX10_best 1 = .ok (.iload_n 1, 1) := by decide +kernel
theorem dX10_best_2 : decode cX10_best 2 = .ok (.invokevirtual 309, 3) := by decide +kernel
theorem dX10_best_5 : decode cX10_best 5 = .ok (.ifCond .eq 15, 3) := by decide +kernel
theorem dX10_best_8 : decode cX10_best 8 = .ok (.iload_n 2, 1) := by decide +kernel
theorem dX10_best_9 : decode cX10_best 9 = .ok (.i2l, 1) := by decide +kernel
theorem dX10_best_10 : decode cX10_best 10 = .ok (.lconst 0, 1) := by decide +kernel
theorem dX10_best_11 : decode cX10_best 11 = .ok (.ldc2_w 414, 3) := by decide +kernel
theorem dX10_best_14 : decode cX10_best 14 = .ok (.invokestatic 52, 3) := by decide +kernel
theorem dX10_best_17 : decode cX10_best 17 = .ok (.ifCond .ne 7, 3) := by decide +kernel
theorem dX10_best_20 : decode cX10_best 20 = .ok (.ldc_w 395, 3) := by decide +kernel
theorem dX10_best_23 : decode cX10_best 23 = .ok (.ireturn, 1) := by decide +kernel
theorem dX10_best_24 : decode cX10_best 24 = .ok (.aload_n 0, 1) := by decide +kernel
theorem dX10_best_25 : decode cX10_best 25 = .ok (.iload_n 1, 1) := by decide +kernel
theorem dX10_best_26 : decode cX10_best 26 = .ok (.invokevirtual 416, 3) := by decide +kernel
theorem dX10_best_29 : decode cX10_best 29 = .ok (.istore_n 3, 1) := by decide +kernel
theorem dX10_best_30 : decode cX10_best 30 = .ok (.iload_n 2, 1) := by decide +kernel
theorem dX10_best_31 : decode cX10_best 31 = .ok (.iconst 4, 1) := by decide +kernel
theorem dX10_best_32 : decode cX10_best 32 = .ok (.if_icmp .ne 7, 3) := by decide +kernel
theorem dX10_best_35 : decode cX10_best 35 = .ok (.iload_n 3, 1) := by decide +kernel
theorem dX10_best_36 : decode cX10_best 36 = .ok (.goto 12, 3) := by decide +kernel
theorem dX10_best_39 : decode cX10_best 39 = .ok (.aload_n 0, 1) := by decide +kernel
theorem dX10_best_40 : decode cX10_best 40 = .ok (.getfield 249, 3) := by decide +kernel
theorem dX10_best_43 : decode cX10_best 43 = .ok (.iload_n 2, 1) := by decide +kernel
theorem dX10_best_44 : decode cX10_best 44 = .ok (.iaload, 1) := by decide +kernel
theorem dX10_best_45 : decode cX10_best 45 = .ok (.invokestatic 379, 3) := by decide +kernel
theorem dX10_best_48 : decode cX10_best 48 = .ok (.ireturn, 1) := by decide +kernel
theorem dX10_weight_0 : decode cX10_weight 0 = .ok (.iconst 1, 1) := by decide +kernel
theorem dX10_weight_1 : decode cX10_weight 1 = .ok (.istore_n 2, 1) := by decide +kernel
theorem dX10_weight_2 : decode cX10_weight 2 = .ok (.iload_n 1, 1) := by decide +kernel
theorem dX10_weight_3 : decode cX10_weight 3 = .ok (.iconst 1, 1) := by decide +kernel
theorem dX10_weight_4 : decode cX10_weight 4 = .ok (.iadd, 1) := by decide +kernel
theorem dX10_weight_5 : decode cX10_weight 5 = .ok (.istore_n 3, 1) := by decide +kernel
theorem dX10_weight_6 : decode cX10_weight 6 = .ok (.iload_n 3, 1) := by decide +kernel
theorem dX10_weight_7 : decode cX10_weight 7 = .ok (.aload_n 0, 1) := by decide +kernel
theorem dX10_weight_8 : decode cX10_weight 8 = .ok (.getfield 285, 3) := by decide +kernel
theorem dX10_weight_11 : decode cX10_weight 11 = .ok (.if_icmp .ge 18, 3) := by decide +kernel
theorem dX10_weight_14 : decode cX10_weight 14 = .ok (.iload_n 2, 1) := by decide +kernel
theorem dX10_weight_15 : decode cX10_weight 15 = .ok (.aload_n 0, 1) := by decide +kernel
theorem dX10_weight_16 : decode cX10_weight 16 = .ok (.getfield 282, 3) := by decide +kernel
theorem dX10_weight_19 : decode cX10_weight 19 = .ok (.iconst 1, 1) := by decide +kernel
theorem dX10_weight_20 : decode cX10_weight 20 = .ok (.iadd, 1) := by decide +kernel
theorem dX10_weight_21 : decode cX10_weight 21 = .ok (.imul, 1) := by decide +kernel
theorem dX10_weight_22 : decode cX10_weight 22 = .ok (.istore_n 2, 1) := by decide +kernel
theorem dX10_weight_23 : decode cX10_weight 23 = .ok (.iinc 3 1, 3) := by decide +kernel
theorem dX10_weight_26 : decode cX10_weight 26 = .ok (.goto (-20), 3) := by decide +kernel
theorem dX10_weight_29 : decode cX10_weight 29 = .ok (.iload_n 2, 1) := by decide +kernel
theorem dX10_weight_30 : decode cX10_weight 30 = .ok (.ireturn, 1) := by decide +kernel
theorem dX10_rows_0 : decode cX10_rows 0 = .ok (.iconst 1, 1) := by decide +kernel
theorem dX10_rows_1 : decode cX10_rows 1 = .ok (.istore_n 1, 1) := by decide +kernel
theorem dX10_rows_2 : decode cX10_rows 2 = .ok (.iconst 0, 1) := by decide +kernel
theorem dX10_rows_3 : decode cX10_rows 3 = .ok (.istore_n 2, 1) := by decide +kernel
theorem dX10_rows_4 : decode cX10_rows 4 = .ok (.iload_n 2, 1) := by decide +kernel
theorem dX10_rows_5 : decode cX10_rows 5 = .ok (.aload_n 0, 1) := by decide +kernel
theorem dX10_rows_6 : decode cX10_rows 6 = .ok (.getfield 285, 3) := by decide +kernel
theorem dX10_rows_9 : decode cX10_rows 9 = .ok (.if_icmp .ge 18, 3) := by decide +kernel
theorem dX10_rows_12 : decode cX10_rows 12 = .ok (.iload_n 1, 1) := by decide +kernel
theorem dX10_rows_13 : decode cX10_rows 13 = .ok (.aload_n 0, 1) := by decide +kernel
theorem dX10_rows_14 : decode cX10_rows 14 = .ok (.getfield 282, 3) := by decide +kernel
theorem dX10_rows_17 : decode cX10_rows 17 = .ok (.iconst 1, 1) := by decide +kernel
theorem dX10_rows_18 : decode cX10_rows 18 = .ok (.iadd, 1) := by decide +kernel
theorem dX10_rows_19 : decode cX10_rows 19 = .ok (.imul, 1) := by decide +kernel
theorem dX10_rows_20 : decode cX10_rows 20 = .ok (.istore_n 1, 1) := by decide +kernel
theorem dX10_rows_21 : decode cX10_rows 21 = .ok (.iinc 2 1, 3) := by decide +kernel
theorem dX10_rows_24 : decode cX10_rows 24 = .ok (.goto (-20), 3) := by decide +kernel
theorem dX10_rows_27 : decode cX10_rows 27 = .ok (.iload_n 1, 1) := by decide +kernel
theorem dX10_rows_28 : decode cX10_rows 28 = .ok (.ireturn, 1) := by decide +kernel
set_option maxRecDepth 20000 in
theorem dX10_wished_0 : decode cX10_wished 0 = .ok (.aload_n 0, 1) := by decide +kernel
theorem dX10_wished_1 : decode cX10_wished 1 = .ok (.iload_n 1, 1) := by decide +kernel
theorem dX10_wished_2 : decode cX10_wished 2 = .ok (.aload_n 0, 1) := by decide +kernel
theorem dX10_wished_3 : decode cX10_wished 3 = .ok (.iload_n 2, 1) := by decide +kernel
theorem dX10_wished_4 : decode cX10_wished 4 = .ok (.invokevirtual 419, 3) := by decide +kernel
theorem dX10_wished_7 : decode cX10_wished 7 = .ok (.idiv, 1) := by decide +kernel
theorem dX10_wished_8 : decode cX10_wished 8 = .ok (.aload_n 0, 1) := by decide +kernel
theorem dX10_wished_9 : decode cX10_wished 9 = .ok (.getfield 282, 3) := by decide +kernel
theorem dX10_wished_12 : decode cX10_wished 12 = .ok (.iconst 1, 1) := by decide +kernel
theorem dX10_wished_13 : decode cX10_wished 13 = .ok (.iadd, 1) := by decide +kernel
theorem dX10_wished_14 : decode cX10_wished 14 = .ok (.irem, 1) := by decide +kernel
theorem dX10_wished_15 : decode cX10_wished 15 = .ok (.invokevirtual 411, 3) := by decide +kernel
theorem dX10_wished_18 : decode cX10_wished 18 = .ok (.ireturn, 1) := by decide +kernel
set_option maxRecDepth 20000 in
theorem dX10_goWishes_0 : decode cX10_goWishes 0 = .ok (.aload_n 0, 1) := by decide +kernel
theorem dX10_goWishes_1 : decode cX10_goWishes 1 = .ok (.invokevirtual 402, 3) := by decide +kernel
theorem dX10_goWishes_4 : decode cX10_goWishes 4 = .ok (.iconst 0, 1) := by decide +kernel
theorem dX10_goWishes_5 : decode cX10_goWishes 5 = .ok (.istore_n 2, 1) := by decide +kernel
theorem dX10_goWishes_6 : decode cX10_goWishes 6 = .ok (.iload_n 2, 1) := by decide +kernel
theorem dX10_goWishes_7 : decode cX10_goWishes 7 = .ok (.aload_n 0, 1) := by decide +kernel
theorem dX10_goWishes_8 : decode cX10_goWishes 8 = .ok (.getfield 285, 3) := by decide +kernel
theorem dX10_goWishes_11 : decode cX10_goWishes 11 = .ok (.if_icmp .ge 37, 3) := by decide +kernel
theorem dX10_goWishes_14 : decode cX10_goWishes 14 = .ok (.aload_n 0, 1) := by decide +kernel
theorem dX10_goWishes_15 : decode cX10_goWishes 15 = .ok (.getfield 236, 3) := by decide +kernel
theorem dX10_goWishes_18 : decode cX10_goWishes 18 = .ok (.iload_n 2, 1) := by decide +kernel
theorem dX10_goWishes_19 : decode cX10_goWishes 19 = .ok (.aload_n 0, 1) := by decide +kernel
theorem dX10_goWishes_20 : decode cX10_goWishes 20 = .ok (.aload_n 0, 1) := by decide +kernel
theorem dX10_goWishes_21 : decode cX10_goWishes 21 = .ok (.getfield 222, 3) := by decide +kernel
theorem dX10_goWishes_24 : decode cX10_goWishes 24 = .ok (.iload_n 2, 1) := by decide +kernel
theorem dX10_goWishes_25 : decode cX10_goWishes 25 = .ok (.invokevirtual 338, 3) := by decide +kernel
theorem dX10_goWishes_28 : decode cX10_goWishes 28 = .ok (.ifCond .eq 7, 3) := by decide +kernel
theorem dX10_goWishes_31 : decode cX10_goWishes 31 = .ok (.iconst 5, 1) := by decide +kernel
theorem dX10_goWishes_32 : decode cX10_goWishes 32 = .ok (.goto 9, 3) := by decide +kernel
theorem dX10_goWishes_35 : decode cX10_goWishes 35 = .ok (.aload_n 0, 1) := by decide +kernel
theorem dX10_goWishes_36 : decode cX10_goWishes 36 = .ok (.iload_n 1, 1) := by decide +kernel
theorem dX10_goWishes_37 : decode cX10_goWishes 37 = .ok (.iload_n 2, 1) := by decide +kernel
theorem dX10_goWishes_38 : decode cX10_goWishes 38 = .ok (.invokevirtual 422, 3) := by decide +kernel
theorem dX10_goWishes_41 : decode cX10_goWishes 41 = .ok (.iastore, 1) := by decide +kernel
theorem dX10_goWishes_42 : decode cX10_goWishes 42 = .ok (.iinc 2 1, 3) := by decide +kernel
theorem dX10_goWishes_45 : decode cX10_goWishes 45 = .ok (.goto (-39), 3) := by decide +kernel
theorem dX10_goWishes_48 : decode cX10_goWishes 48 = .ok (.aload_n 0, 1) := by decide +kernel
theorem dX10_goWishes_49 : decode cX10_goWishes 49 = .ok (.aload_n 0, 1) := by decide +kernel
theorem dX10_goWishes_50 : decode cX10_goWishes 50 = .ok (.getfield 222, 3) := by decide +kernel
theorem dX10_goWishes_53 : decode cX10_goWishes 53 = .ok (.invokevirtual 392, 3) := by decide +kernel
theorem dX10_goWishes_56 : decode cX10_goWishes 56 = .ok (.return_, 1) := by decide +kernel
set_option maxRecDepth 20000 in
theorem dX10_findGains_0 : decode cX10_findGains 0 = .ok (.iconst 0, 1) := by decide +kernel
theorem dX10_findGains_1 : decode cX10_findGains 1 = .ok (.istore_n 1, 1) := by decide +kernel
theorem dX10_findGains_2 : decode cX10_findGains 2 = .ok (.iload_n 1, 1) := by decide +kernel
theorem dX10_findGains_3 : decode cX10_findGains 3 = .ok (.aload_n 0, 1) := by decide +kernel
theorem dX10_findGains_4 : decode cX10_findGains 4 = .ok (.invokevirtual 425, 3) := by decide +kernel
theorem dX10_findGains_7 : decode cX10_findGains 7 = .ok (.if_icmp .ge 49, 3) := by decide +kernel
theorem dX10_findGains_10 : decode cX10_findGains 10 = .ok (.aload_n 0, 1) := by decide +kernel
theorem dX10_findGains_11 : decode cX10_findGains 11 = .ok (.iload_n 1, 1) := by decide +kernel
theorem dX10_findGains_12 : decode cX10_findGains 12 = .ok (.invokevirtual 428, 3) := by decide +kernel
theorem dX10_findGains_15 : decode cX10_findGains 15 = .ok (.iconst 0, 1) := by decide +kernel
theorem dX10_findGains_16 : decode cX10_findGains 16 = .ok (.istore_n 2, 1) := by decide +kernel
theorem dX10_findGains_17 : decode cX10_findGains 17 = .ok (.iload_n 2, 1) := by decide +kernel
theorem dX10_findGains_18 : decode cX10_findGains 18 = .ok (.aload_n 0, 1) := by decide +kernel
theorem dX10_findGains_19 : decode cX10_findGains 19 = .ok (.getfield 285, 3) := by decide +kernel
theorem dX10_findGains_22 : decode cX10_findGains 22 = .ok (.if_icmp .ge 28, 3) := by decide +kernel
theorem dX10_findGains_25 : decode cX10_findGains 25 = .ok (.aload_n 0, 1) := by decide +kernel
theorem dX10_findGains_26 : decode cX10_findGains 26 = .ok (.getfield 253, 3) := by decide +kernel
theorem dX10_findGains_29 : decode cX10_findGains 29 = .ok (.iconst 5, 1) := by decide +kernel
theorem dX10_findGains_30 : decode cX10_findGains 30 = .ok (.iload_n 1, 1) := by decide +kernel
theorem dX10_findGains_31 : decode cX10_findGains 31 = .ok (.imul, 1) := by decide +kernel
theorem dX10_findGains_32 : decode cX10_findGains 32 = .ok (.iload_n 2, 1) := by decide +kernel
theorem dX10_findGains_33 : decode cX10_findGains 33 = .ok (.iadd, 1) := by decide +kernel
theorem dX10_findGains_34 : decode cX10_findGains 34 = .ok (.aload_n 0, 1) := by decide +kernel
theorem dX10_findGains_35 : decode cX10_findGains 35 = .ok (.getfield 222, 3) := by decide +kernel
theorem dX10_findGains_38 : decode cX10_findGains 38 = .ok (.bipush 10, 2) := by decide +kernel
theorem dX10_findGains_40 : decode cX10_findGains 40 = .ok (.iload_n 2, 1) := by decide +kernel
theorem dX10_findGains_41 : decode cX10_findGains 41 = .ok (.iadd, 1) := by decide +kernel
theorem dX10_findGains_42 : decode cX10_findGains 42 = .ok (.iaload, 1) := by decide +kernel
theorem dX10_findGains_43 : decode cX10_findGains 43 = .ok (.iastore, 1) := by decide +kernel
theorem dX10_findGains_44 : decode cX10_findGains 44 = .ok (.iinc 2 1, 3) := by decide +kernel
theorem dX10_findGains_47 : decode cX10_findGains 47 = .ok (.goto (-30), 3) := by decide +kernel
theorem dX10_findGains_50 : decode cX10_findGains 50 = .ok (.iinc 1 1, 3) := by decide +kernel
theorem dX10_findGains_53 : decode cX10_findGains 53 = .ok (.goto (-51), 3) := by decide +kernel
theorem dX10_findGains_56 : decode cX10_findGains 56 = .ok (.return_, 1) := by decide +kernel
set_option maxRecDepth 20000 in
theorem dX10_isRest_0 : decode cX10_isRest 0 = .ok (.iconst 0, 1) := by decide +kernel
theorem dX10_isRest_1 : decode cX10_isRest 1 = .ok (.istore_n 2, 1) := by decide +kernel
theorem dX10_isRest_2 : decode cX10_isRest 2 = .ok (.iload_n 2, 1) := by decide +kernel
theorem dX10_isRest_3 : decode cX10_isRest 3 = .ok (.aload_n 0, 1) := by decide +kernel
theorem dX10_isRest_4 : decode cX10_isRest 4 = .ok (.getfield 285, 3) := by decide +kernel
theorem dX10_isRest_7 : decode cX10_isRest 7 = .ok (.if_icmp .ge 108, 3) := by decide +kernel
theorem dX10_isRest_10 : decode cX10_isRest 10 = .ok (.aload_n 0, 1) := by decide +kernel
theorem dX10_isRest_11 : decode cX10_isRest 11 = .ok (.aload_n 0, 1) := by decide +kernel
theorem dX10_isRest_12 : decode cX10_isRest 12 = .ok (.getfield 219, 3) := by decide +kernel
theorem dX10_isRest_15 : decode cX10_isRest 15 = .ok (.iload_n 2, 1) := by decide +kernel
theorem dX10_isRest_16 : decode cX10_isRest 16 = .ok (.invokevirtual 338, 3) := by decide +kernel
theorem dX10_isRest_19 : decode cX10_isRest 19 = .ok (.ifCond .eq 15, 3) := by decide +kernel
theorem dX10_isRest_22 : decode cX10_isRest 22 = .ok (.aload_n 0, 1) := by decide +kernel
theorem dX10_isRest_23 : decode cX10_isRest 23 = .ok (.iload_n 1, 1) := by decide +kernel
theorem dX10_isRest_24 : decode cX10_isRest 24 = .ok (.iload_n 2, 1) := by decide +kernel
theorem dX10_isRest_25 : decode cX10_isRest 25 = .ok (.invokevirtual 422, 3) := by decide +kernel
theorem dX10_isRest_28 : decode cX10_isRest 28 = .ok (.iconst 5, 1) := by decide +kernel
theorem dX10_isRest_29 : decode cX10_isRest 29 = .ok (.if_icmp .eq 80, 3) := by decide +kernel
theorem dX10_isRest_32 : decode cX10_isRest 32 = .ok (.iconst 0, 1) := by decide +kernel
theorem dX10_isRest_33 : decode cX10_isRest 33 = .ok (.ireturn, 1) := by decide +kernel
theorem dX10_isRest_34 : decode cX10_isRest 34 = .ok (.iload_n 1, 1) := by decide +kernel
theorem dX10_isRest_35 : decode cX10_isRest 35 = .ok (.iload_n 1, 1) := by decide +kernel
theorem dX10_isRest_36 : decode cX10_isRest 36 = .ok (.aload_n 0, 1) := by decide +kernel
theorem dX10_isRest_37 : decode cX10_isRest 37 = .ok (.iload_n 2, 1) := by decide +kernel
theorem dX10_isRest_38 : decode cX10_isRest 38 = .ok (.invokevirtual 419, 3) := by decide +kernel
theorem dX10_isRest_41 : decode cX10_isRest 41 = .ok (.idiv, 1) := by decide +kernel
theorem dX10_isRest_42 : decode cX10_isRest 42 = .ok (.aload_n 0, 1) := by decide +kernel
theorem dX10_isRest_43 : decode cX10_isRest 43 = .ok (.getfield 282, 3) := by decide +kernel
theorem dX10_isRest_46 : decode cX10_isRest 46 = .ok (.iconst 1, 1) := by decide +kernel
theorem dX10_isRest_47 : decode cX10_isRest 47 = .ok (.iadd, 1) := by decide +kernel
theorem dX10_isRest_48 : decode cX10_isRest 48 = .ok (.irem, 1) := by decide +kernel
theorem dX10_isRest_49 : decode cX10_isRest 49 = .ok (.aload_n 0, 1) := by decide +kernel
theorem dX10_isRest_50 : decode cX10_isRest 50 = .ok (.iload_n 2, 1) := by decide +kernel
theorem dX10_isRest_51 : decode cX10_isRest 51 = .ok (.invokevirtual 419, 3) := by decide +kernel
theorem dX10_isRest_54 : decode cX10_isRest 54 = .ok (.imul, 1) := by decide +kernel
theorem dX10_isRest_55 : decode cX10_isRest 55 = .ok (.isub, 1) := by decide +kernel
theorem dX10_isRest_56 : decode cX10_isRest 56 = .ok (.istore_n 3, 1) := by decide +kernel
theorem dX10_isRest_57 : decode cX10_isRest 57 = .ok (.iconst 0, 1) := by decide +kernel
theorem dX10_isRest_58 : decode cX10_isRest 58 = .ok (.istore 4, 2) := by decide +kernel
theorem dX10_isRest_60 : decode cX10_isRest 60 = .ok (.iload 4, 2) := by decide +kernel
theorem dX10_isRest_62 : decode cX10_isRest 62 = .ok (.aload_n 0, 1) := by decide +kernel
theorem dX10_isRest_63 : decode cX10_isRest 63 = .ok (.getfield 282, 3) := by decide +kernel
theorem dX10_isRest_66 : decode cX10_isRest 66 = .ok (.if_icmp .gt 43, 3) := by decide +kernel
theorem dX10_isRest_69 : decode cX10_isRest 69 = .ok (.aload_n 0, 1) := by decide +kernel
theorem dX10_isRest_70 : decode cX10_isRest 70 = .ok (.getfield 253, 3) := by decide +kernel
theorem dX10_isRest_73 : decode cX10_isRest 73 = .ok (.iconst 5, 1) := by decide +kernel
theorem dX10_isRest_74 : decode cX10_isRest 74 = .ok (.iload_n 3, 1) := by decide +kernel
theorem dX10_isRest_75 : decode cX10_isRest 75 = .ok (.iload 4, 2) := by decide +kernel
theorem dX10_isRest_77 : decode cX10_isRest 77 = .ok (.aload_n 0, 1) := by decide +kernel
theorem dX10_isRest_78 : decode cX10_isRest 78 = .ok (.iload_n 2, 1) := by decide +kernel
theorem dX10_isRest_79 : decode cX10_isRest 79 = .ok (.invokevirtual 419, 3) := by decide +kernel
theorem dX10_isRest_82 : decode cX10_isRest 82 = .ok (.imul, 1) := by decide +kernel
theorem dX10_isRest_83 : decode cX10_isRest 83 = .ok (.iadd, 1) := by decide +kernel
theorem dX10_isRest_84 : decode cX10_isRest 84 = .ok (.imul, 1) := by decide +kernel
theorem dX10_isRest_85 : decode cX10_isRest 85 = .ok (.iload_n 2, 1) := by decide +kernel
theorem dX10_isRest_86 : decode cX10_isRest 86 = .ok (.iadd, 1) := by decide +kernel
theorem dX10_isRest_87 : decode cX10_isRest 87 = .ok (.iaload, 1) := by decide +kernel
theorem dX10_isRest_88 : decode cX10_isRest 88 = .ok (.aload_n 0, 1) := by decide +kernel
theorem dX10_isRest_89 : decode cX10_isRest 89 = .ok (.getfield 253, 3) := by decide +kernel
theorem dX10_isRest_92 : decode cX10_isRest 92 = .ok (.iconst 5, 1) := by decide +kernel
theorem dX10_isRest_93 : decode cX10_isRest 93 = .ok (.iload_n 1, 1) := by decide +kernel
theorem dX10_isRest_94 : decode cX10_isRest 94 = .ok (.imul, 1) := by decide +kernel
theorem dX10_isRest_95 : decode cX10_isRest 95 = .ok (.iload_n 2, 1) := by decide +kernel
theorem dX10_isRest_96 : decode cX10_isRest 96 = .ok (.iadd, 1) := by decide +kernel
theorem dX10_isRest_97 : decode cX10_isRest 97 = .ok (.iaload, 1) := by decide +kernel
theorem dX10_isRest_98 : decode cX10_isRest 98 = .ok (.if_icmp .le 5, 3) := by decide +kernel
theorem dX10_isRest_101 : decode cX10_isRest 101 = .ok (.iconst 0, 1) := by decide +kernel
theorem dX10_isRest_102 : decode cX10_isRest 102 = .ok (.ireturn, 1) := by decide +kernel
theorem dX10_isRest_103 : decode cX10_isRest 103 = .ok (.iinc 4 1, 3) := by decide +kernel
theorem dX10_isRest_106 : decode cX10_isRest 106 = .ok (.goto (-46), 3) := by decide +kernel
theorem dX10_isRest_109 : decode cX10_isRest 109 = .ok (.iinc 2 1, 3) := by decide +kernel
theorem dX10_isRest_112 : decode cX10_isRest 112 = .ok (.goto (-110), 3) := by decide +kernel
theorem dX10_isRest_115 : decode cX10_isRest 115 = .ok (.iconst 1, 1) := by decide +kernel
theorem dX10_isRest_116 : decode cX10_isRest 116 = .ok (.ireturn, 1) := by decide +kernel
set_option maxRecDepth 20000 in
theorem dX10_rests_0 : decode cX10_rests 0 = .ok (.aload_n 0, 1) := by decide +kernel
theorem dX10_rests_1 : decode cX10_rests 1 = .ok (.invokevirtual 431, 3) := by decide +kernel
theorem dX10_rests_4 : decode cX10_rests 4 = .ok (.iconst 0, 1) := by decide +kernel
theorem dX10_rests_5 : decode cX10_rests 5 = .ok (.istore_n 1, 1) := by decide +kernel
theorem dX10_rests_6 : decode cX10_rests 6 = .ok (.iconst 0, 1) := by decide +kernel
theorem dX10_rests_7 : decode cX10_rests 7 = .ok (.istore_n 2, 1) := by decide +kernel
theorem dX10_rests_8 : decode cX10_rests 8 = .ok (.iload_n 2, 1) := by decide +kernel
theorem dX10_rests_9 : decode cX10_rests 9 = .ok (.aload_n 0, 1) := by decide +kernel
theorem dX10_rests_10 : decode cX10_rests 10 = .ok (.invokevirtual 425, 3) := by decide +kernel
theorem dX10_rests_13 : decode cX10_rests 13 = .ok (.if_icmp .ge 25, 3) := by decide +kernel
theorem dX10_rests_16 : decode cX10_rests 16 = .ok (.iload_n 1, 1) := by decide +kernel
theorem dX10_rests_17 : decode cX10_rests 17 = .ok (.aload_n 0, 1) := by decide +kernel
theorem dX10_rests_18 : decode cX10_rests 18 = .ok (.iload_n 2, 1) := by decide +kernel
theorem dX10_rests_19 : decode cX10_rests 19 = .ok (.invokevirtual 434, 3) := by decide +kernel
theorem dX10_rests_22 : decode cX10_rests 22 = .ok (.ifCond .eq 7, 3) := by decide +kernel
theorem dX10_rests_25 : decode cX10_rests 25 = .ok (.iconst 1, 1) := by decide +kernel
theorem dX10_rests_26 : decode cX10_rests 26 = .ok (.goto 4, 3) := by decide +kernel
theorem dX10_rests_29 : decode cX10_rests 29 = .ok (.iconst 0, 1) := by decide +kernel
theorem dX10_rests_30 : decode cX10_rests 30 = .ok (.iadd, 1) := by decide +kernel
theorem dX10_rests_31 : decode cX10_rests 31 = .ok (.istore_n 1, 1) := by decide +kernel
theorem dX10_rests_32 : decode cX10_rests 32 = .ok (.iinc 2 1, 3) := by decide +kernel
theorem dX10_rests_35 : decode cX10_rests 35 = .ok (.goto (-27), 3) := by decide +kernel
theorem dX10_rests_38 : decode cX10_rests 38 = .ok (.iload_n 1, 1) := by decide +kernel
theorem dX10_rests_39 : decode cX10_rests 39 = .ok (.ireturn, 1) := by decide +kernel
set_option maxRecDepth 20000 in
theorem dX10_rest_0 : decode cX10_rest 0 = .ok (.iload_n 1, 1) := by decide +kernel
theorem dX10_rest_1 : decode cX10_rest 1 = .ok (.ifCond .lt 11, 3) := by decide +kernel
theorem dX10_rest_4 : decode cX10_rest 4 = .ok (.aload_n 0, 1) := by decide +kernel
theorem dX10_rest_5 : decode cX10_rest 5 = .ok (.iload_n 2, 1) := by decide +kernel
theorem dX10_rest_6 : decode cX10_rest 6 = .ok (.invokevirtual 309, 3) := by decide +kernel
theorem dX10_rest_9 : decode cX10_rest 9 = .ok (.ifCond .ne 6, 3) := by decide +kernel
theorem dX10_rest_12 : decode cX10_rest 12 = .ok (.bipush (-2), 2) := by decide +kernel
theorem dX10_rest_14 : decode cX10_rest 14 = .ok (.ireturn, 1) := by decide +kernel
theorem dX10_rest_15 : decode cX10_rest 15 = .ok (.aload_n 0, 1) := by decide +kernel
theorem dX10_rest_16 : decode cX10_rest 16 = .ok (.invokevirtual 431, 3) := by decide +kernel
theorem dX10_rest_19 : decode cX10_rest 19 = .ok (.iconst 0, 1) := by decide +kernel
theorem dX10_rest_20 : decode cX10_rest 20 = .ok (.istore_n 3, 1) := by decide +kernel
theorem dX10_rest_21 : decode cX10_rest 21 = .ok (.iconst 0, 1) := by decide +kernel
theorem dX10_rest_22 : decode cX10_rest 22 = .ok (.istore 4, 2) := by decide +kernel
theorem dX10_rest_24 : decode cX10_rest 24 = .ok (.iload 4, 2) := by decide +kernel
theorem dX10_rest_26 : decode cX10_rest 26 = .ok (.aload_n 0, 1) := by decide +kernel
theorem dX10_rest_27 : decode cX10_rest 27 = .ok (.invokevirtual 425, 3) := by decide +kernel
theorem dX10_rest_30 : decode cX10_rest 30 = .ok (.if_icmp .ge 40, 3) := by decide +kernel
theorem dX10_rest_33 : decode cX10_rest 33 = .ok (.aload_n 0, 1) := by decide +kernel
theorem dX10_rest_34 : decode cX10_rest 34 = .ok (.iload 4, 2) := by decide +kernel
theorem dX10_rest_36 : decode cX10_rest 36 = .ok (.invokevirtual 434, 3) := by decide +kernel
theorem dX10_rest_39 : decode cX10_rest 39 = .ok (.ifCond .ne 6, 3) := by decide +kernel
theorem dX10_rest_42 : decode cX10_rest 42 = .ok (.goto 22, 3) := by decide +kernel
theorem dX10_rest_45 : decode cX10_rest 45 = .ok (.iload_n 3, 1) := by decide +kernel
theorem dX10_rest_46 : decode cX10_rest 46 = .ok (.iload_n 1, 1) := by decide +kernel
theorem dX10_rest_47 : decode cX10_rest 47 = .ok (.if_icmp .ne 14, 3) := by decide +kernel
theorem dX10_rest_50 : decode cX10_rest 50 = .ok (.aload_n 0, 1) := by decide +kernel
theorem dX10_rest_51 : decode cX10_rest 51 = .ok (.iload 4, 2) := by decide +kernel
theorem dX10_rest_53 : decode cX10_rest 53 = .ok (.iload_n 2, 1) := by decide +kernel
theorem dX10_rest_54 : decode cX10_rest 54 = .ok (.invokevirtual 422, 3) := by decide +kernel
theorem dX10_rest_57 : decode cX10_rest 57 = .ok (.invokestatic 379, 3) := by decide +kernel
theorem dX10_rest_60 : decode cX10_rest 60 = .ok (.ireturn, 1) := by decide +kernel
theorem dX10_rest_61 : decode cX10_rest 61 = .ok (.iinc 3 1, 3) := by decide +kernel
theorem dX10_rest_64 : decode cX10_rest 64 = .ok (.iinc 4 1, 3) := by decide +kernel
theorem dX10_rest_67 : decode cX10_rest 67 = .ok (.goto (-43), 3) := by decide +kernel
theorem dX10_rest_70 : decode cX10_rest 70 = .ok (.bipush (-2), 2) := by decide +kernel
theorem dX10_rest_72 : decode cX10_rest 72 = .ok (.ireturn, 1) := by decide +kernel
set_option maxRecDepth 20000 in
theorem dX10_settle_0 : decode cX10_settle 0 = .ok (.iconst 1, 1) := by decide +kernel
theorem dX10_settle_1 : decode cX10_settle 1 = .ok (.istore_n 1, 1) := by decide +kernel
theorem dX10_settle_2 : decode cX10_settle 2 = .ok (.iload_n 1, 1) := by decide +kernel
theorem dX10_settle_3 : decode cX10_settle 3 = .ok (.bipush 9, 2) := by decide +kernel
theorem dX10_settle_5 : decode cX10_settle 5 = .ok (.if_icmp .gt 91, 3) := by decide +kernel
theorem dX10_settle_8 : decode cX10_settle 8 = .ok (.iconst 0, 1) := by decide +kernel
theorem dX10_settle_9 : decode cX10_settle 9 = .ok (.istore_n 2, 1) := by decide +kernel
theorem dX10_settle_10 : decode cX10_settle 10 = .ok (.iconst 0, 1) := by decide +kernel
theorem dX10_settle_11 : decode cX10_settle 11 = .ok (.istore_n 3, 1) := by decide +kernel
theorem dX10_settle_12 : decode cX10_settle 12 = .ok (.iload_n 3, 1) := by decide +kernel
theorem dX10_settle_13 : decode cX10_settle 13 = .ok (.aload_n 0, 1) := by decide +kernel
theorem dX10_settle_14 : decode cX10_settle 14 = .ok (.getfield 285, 3) := by decide +kernel
theorem dX10_settle_17 : decode cX10_settle 17 = .ok (.if_icmp .ge 67, 3) := by decide +kernel
theorem dX10_settle_20 : decode cX10_settle 20 = .ok (.aload_n 0, 1) := by decide +kernel
theorem dX10_settle_21 : decode cX10_settle 21 = .ok (.iload_n 3, 1) := by decide +kernel
theorem dX10_settle_22 : decode cX10_settle 22 = .ok (.invokevirtual 408, 3) := by decide +kernel
theorem dX10_settle_25 : decode cX10_settle 25 = .ok (.istore 4, 2) := by decide +kernel
theorem dX10_settle_27 : decode cX10_settle 27 = .ok (.aload_n 0, 1) := by decide +kernel
theorem dX10_settle_28 : decode cX10_settle 28 = .ok (.iload_n 3, 1) := by decide +kernel
theorem dX10_settle_29 : decode cX10_settle 29 = .ok (.invokevirtual 416, 3) := by decide +kernel
theorem dX10_settle_32 : decode cX10_settle 32 = .ok (.iload 4, 2) := by decide +kernel
theorem dX10_settle_34 : decode cX10_settle 34 = .ok (.if_icmp .gt 6, 3) := by decide +kernel
theorem dX10_settle_37 : decode cX10_settle 37 = .ok (.goto 41, 3) := by decide +kernel
theorem dX10_settle_40 : decode cX10_settle 40 = .ok (.iconst 1, 1) := by decide +kernel
theorem dX10_settle_41 : decode cX10_settle 41 = .ok (.istore_n 2, 1) := by decide +kernel
theorem dX10_settle_42 : decode cX10_settle 42 = .ok (.iconst 0, 1) := by decide +kernel
theorem dX10_settle_43 : decode cX10_settle 43 = .ok (.istore 5, 2) := by decide +kernel
theorem dX10_settle_45 : decode cX10_settle 45 = .ok (.iload 5, 2) := by decide +kernel
theorem dX10_settle_47 : decode cX10_settle 47 = .ok (.iconst 4, 1) := by decide +kernel
theorem dX10_settle_48 : decode cX10_settle 48 = .ok (.if_icmp .ge 30, 3) := by decide +kernel
theorem dX10_settle_51 : decode cX10_settle 51 = .ok (.aload_n 0, 1) := by decide +kernel
theorem dX10_settle_52 : decode cX10_settle 52 = .ok (.getfield 219, 3) := by decide +kernel
theorem dX10_settle_55 : decode cX10_settle 55 = .ok (.bipush 35, 2) := by decide +kernel
theorem dX10_settle_57 : decode cX10_settle 57 = .ok (.iconst 4, 1) := by decide +kernel
theorem dX10_settle_58 : decode cX10_settle 58 = .ok (.iload_n 3, 1) := by decide +kernel
theorem dX10_settle_59 : decode cX10_settle 59 = .ok (.imul, 1) := by decide +kernel
theorem dX10_settle_60 : decode cX10_settle 60 = .ok (.iadd, 1) := by decide +kernel
theorem dX10_settle_61 : decode cX10_settle 61 = .ok (.iload 5, 2) := by decide +kernel
theorem dX10_settle_63 : decode cX10_settle 63 = .ok (.iadd, 1) := by decide +kernel
theorem dX10_settle_64 : decode cX10_settle 64 = .ok (.aload_n 0, 1) := by decide +kernel
theorem dX10_settle_65 : decode cX10_settle 65 = .ok (.getfield 249, 3) := by decide +kernel
theorem dX10_settle_68 : decode cX10_settle 68 = .ok (.iload 5, 2) := by decide +kernel
theorem dX10_settle_70 : decode cX10_settle 70 = .ok (.iaload, 1) := by decide +kernel
theorem dX10_settle_71 : decode cX10_settle 71 = .ok (.iastore, 1) := by decide +kernel
theorem dX10_settle_72 : decode cX10_settle 72 = .ok (.iinc 5 1, 3) := by decide +kernel
theorem dX10_settle_75 : decode cX10_settle 75 = .ok (.goto (-30), 3) := by decide +kernel
theorem dX10_settle_78 : decode cX10_settle 78 = .ok (.iinc 3 1, 3) := by decide +kernel
theorem dX10_settle_81 : decode cX10_settle 81 = .ok (.goto (-69), 3) := by decide +kernel
theorem dX10_settle_84 : decode cX10_settle 84 = .ok (.iload_n 2, 1) := by decide +kernel
theorem dX10_settle_85 : decode cX10_settle 85 = .ok (.ifCond .ne 5, 3) := by decide +kernel
theorem dX10_settle_88 : decode cX10_settle 88 = .ok (.iload_n 1, 1) := by decide +kernel
theorem dX10_settle_89 : decode cX10_settle 89 = .ok (.ireturn, 1) := by decide +kernel
theorem dX10_settle_90 : decode cX10_settle 90 = .ok (.iinc 1 1, 3) := by decide +kernel
theorem dX10_settle_93 : decode cX10_settle 93 = .ok (.goto (-91), 3) := by decide +kernel
theorem dX10_settle_96 : decode cX10_settle 96 = .ok (.iconst (-1), 1) := by decide +kernel
theorem dX10_settle_97 : decode cX10_settle 97 = .ok (.ireturn, 1) := by decide +kernel
set_option maxRecDepth 20000 in
theorem dX10_longer_0 : decode cX10_longer 0 = .ok (.aload_n 0, 1) := by decide +kernel
theorem dX10_longer_1 : decode cX10_longer 1 = .ok (.iload_n 1, 1) := by decide +kernel
theorem dX10_longer_2 : decode cX10_longer 2 = .ok (.invokevirtual 371, 3) := by decide +kernel
theorem dX10_longer_5 : decode cX10_longer 5 = .ok (.ifCond .eq 25, 3) := by decide +kernel
theorem dX10_longer_8 : decode cX10_longer 8 = .ok (.iload_n 2, 1) := by decide +kernel
theorem dX10_longer_9 : decode cX10_longer 9 = .ok (.i2l, 1) := by decide +kernel
theorem dX10_longer_10 : decode cX10_longer 10 = .ok (.lconst 1, 1) := by decide +kernel
theorem dX10_longer_11 : decode cX10_longer 11 = .ok (.ldc2_w 437, 3) := by decide +kernel
theorem dX10_longer_14 : decode cX10_longer 14 = .ok (.invokestatic 52, 3) := by decide +kernel
theorem dX10_longer_17 : decode cX10_longer 17 = .ok (.ifCond .eq 13, 3) := by decide +kernel
theorem dX10_longer_20 : decode cX10_longer 20 = .ok (.iload_n 3, 1) := by decide +kernel
theorem dX10_longer_21 : decode cX10_longer 21 = .ok (.i2l, 1) := by decide +kernel
theorem dX10_longer_22 : decode cX10_longer 22 = .ok (.lconst 0, 1) := by decide +kernel
theorem dX10_longer_23 : decode cX10_longer 23 = .ok (.lconst 1, 1) := by decide +kernel
theorem dX10_longer_24 : decode cX10_longer 24 = .ok (.invokestatic 52, 3) := by decide +kernel
theorem dX10_longer_27 : decode cX10_longer 27 = .ok (.ifCond .ne 6, 3) := by decide +kernel
theorem dX10_longer_30 : decode cX10_longer 30 = .ok (.bipush (-2), 2) := by decide +kernel
theorem dX10_longer_32 : decode cX10_longer 32 = .ok (.ireturn, 1) := by decide +kernel
theorem dX10_longer_33 : decode cX10_longer 33 = .ok (.aload_n 0, 1) := by decide +kernel
theorem dX10_longer_34 : decode cX10_longer 34 = .ok (.invokevirtual 402, 3) := by decide +kernel
theorem dX10_longer_37 : decode cX10_longer 37 = .ok (.aload_n 0, 1) := by decide +kernel
theorem dX10_longer_38 : decode cX10_longer 38 = .ok (.iconst 4, 1) := by decide +kernel
theorem dX10_longer_39 : decode cX10_longer 39 = .ok (.iload_n 2, 1) := by decide +kernel
theorem dX10_longer_40 : decode cX10_longer 40 = .ok (.imul, 1) := by decide +kernel
theorem dX10_longer_41 : decode cX10_longer 41 = .ok (.invokevirtual 399, 3) := by decide +kernel
theorem dX10_longer_44 : decode cX10_longer 44 = .ok (.aload_n 0, 1) := by decide +kernel
theorem dX10_longer_45 : decode cX10_longer 45 = .ok (.getfield 222, 3) := by decide +kernel
theorem dX10_longer_48 : decode cX10_longer 48 = .ok (.iload_n 3, 1) := by decide +kernel
theorem dX10_longer_49 : decode cX10_longer 49 = .ok (.ifCond .ne 8, 3) := by decide +kernel
theorem dX10_longer_52 : decode cX10_longer 52 = .ok (.bipush 20, 2) := by decide +kernel
theorem dX10_longer_54 : decode cX10_longer 54 = .ok (.goto 5, 3) := by decide +kernel
theorem dX10_longer_57 : decode cX10_longer 57 = .ok (.bipush 25, 2) := by decide +kernel
theorem dX10_longer_59 : decode cX10_longer 59 = .ok (.iload_n 1, 1) := by decide +kernel
theorem dX10_longer_60 : decode cX10_longer 60 = .ok (.iadd, 1) := by decide +kernel
theorem dX10_longer_61 : decode cX10_longer 61 = .ok (.iaload, 1) := by decide +kernel
theorem dX10_longer_62 : decode cX10_longer 62 = .ok (.ireturn, 1) := by decide +kernel
set_option maxRecDepth 20000 in
theorem dX10_guard_0 : decode cX10_guard 0 = .ok (.aload_n 0, 1) := by decide +kernel
theorem dX10_guard_1 : decode cX10_guard 1 = .ok (.iload_n 1, 1) := by decide +kernel
theorem dX10_guard_2 : decode cX10_guard 2 = .ok (.invokevirtual 309, 3) := by decide +kernel
theorem dX10_guard_5 : decode cX10_guard 5 = .ok (.ifCond .eq 16, 3) := by decide +kernel
theorem dX10_guard_8 : decode cX10_guard 8 = .ok (.aload_n 0, 1) := by decide +kernel
theorem dX10_guard_9 : decode cX10_guard 9 = .ok (.iload_n 2, 1) := by decide +kernel
theorem dX10_guard_10 : decode cX10_guard 10 = .ok (.invokevirtual 309, 3) := by decide +kernel
theorem dX10_guard_13 : decode cX10_guard 13 = .ok (.ifCond .eq 8, 3) := by decide +kernel
theorem dX10_guard_16 : decode cX10_guard 16 = .ok (.iload_n 1, 1) := by decide +kernel
theorem dX10_guard_17 : decode cX10_guard 17 = .ok (.iload_n 2, 1) := by decide +kernel
theorem dX10_guard_18 : decode cX10_guard 18 = .ok (.if_icmp .ne 6, 3) := by decide +kernel
theorem dX10_guard_21 : decode cX10_guard 21 = .ok (.bipush (-2), 2) := by decide +kernel
theorem dX10_guard_23 : decode cX10_guard 23 = .ok (.ireturn, 1) := by decide +kernel
theorem dX10_guard_24 : decode cX10_guard 24 = .ok (.aload_n 0, 1) := by decide +kernel
theorem dX10_guard_25 : decode cX10_guard 25 = .ok (.getfield 212, 3) := by decide +kernel
theorem dX10_guard_28 : decode cX10_guard 28 = .ok (.iload_n 1, 1) := by decide +kernel
theorem dX10_guard_29 : decode cX10_guard 29 = .ok (.iaload, 1) := by decide +kernel
theorem dX10_guard_30 : decode cX10_guard 30 = .ok (.iconst (-1), 1) := by decide +kernel
theorem dX10_guard_31 : decode cX10_guard 31 = .ok (.if_icmp .ne 5, 3) := by decide +kernel
theorem dX10_guard_34 : decode cX10_guard 34 = .ok (.iconst (-1), 1) := by decide +kernel
theorem dX10_guard_35 : decode cX10_guard 35 = .ok (.ireturn, 1) := by decide +kernel
theorem dX10_guard_36 : decode cX10_guard 36 = .ok (.aload_n 0, 1) := by decide +kernel
theorem dX10_guard_37 : decode cX10_guard 37 = .ok (.iload_n 2, 1) := by decide +kernel
theorem dX10_guard_38 : decode cX10_guard 38 = .ok (.invokevirtual 408, 3) := by decide +kernel
theorem dX10_guard_41 : decode cX10_guard 41 = .ok (.istore_n 3, 1) := by decide +kernel
theorem dX10_guard_42 : decode cX10_guard 42 = .ok (.aload_n 0, 1) := by decide +kernel
theorem dX10_guard_43 : decode cX10_guard 43 = .ok (.invokevirtual 402, 3) := by decide +kernel
theorem dX10_guard_46 : decode cX10_guard 46 = .ok (.iconst 0, 1) := by decide +kernel
theorem dX10_guard_47 : decode cX10_guard 47 = .ok (.istore 4, 2) := by decide +kernel
theorem dX10_guard_49 : decode cX10_guard 49 = .ok (.iload 4, 2) := by decide +kernel
theorem dX10_guard_51 : decode cX10_guard 51 = .ok (.iconst 4, 1) := by decide +kernel
theorem dX10_guard_52 : decode cX10_guard 52 = .ok (.if_icmp .ge 29, 3) := by decide +kernel
theorem dX10_guard_55 : decode cX10_guard 55 = .ok (.aload_n 0, 1) := by decide +kernel
theorem dX10_guard_56 : decode cX10_guard 56 = .ok (.getfield 222, 3) := by decide +kernel
theorem dX10_guard_59 : decode cX10_guard 59 = .ok (.bipush 35, 2) := by decide +kernel
theorem dX10_guard_61 : decode cX10_guard 61 = .ok (.iconst 4, 1) := by decide +kernel
theorem dX10_guard_62 : decode cX10_guard 62 = .ok (.iload_n 2, 1) := by decide +kernel
theorem dX10_guard_63 : decode cX10_guard 63 = .ok (.imul, 1) := by decide +kernel
theorem dX10_guard_64 : decode cX10_guard 64 = .ok (.iadd, 1) := by decide +kernel
theorem dX10_guard_65 : decode cX10_guard 65 = .ok (.iload 4, 2) := by decide +kernel
theorem dX10_guard_67 : decode cX10_guard 67 = .ok (.iadd, 1) := by decide +kernel
theorem dX10_guard_68 : decode cX10_guard 68 = .ok (.aload_n 0, 1) := by decide +kernel
theorem dX10_guard_69 : decode cX10_guard 69 = .ok (.getfield 212, 3) := by decide +kernel
theorem dX10_guard_72 : decode cX10_guard 72 = .ok (.iload_n 1, 1) := by decide +kernel
theorem dX10_guard_73 : decode cX10_guard 73 = .ok (.iaload, 1) := by decide +kernel
theorem dX10_guard_74 : decode cX10_guard 74 = .ok (.iastore, 1) := by decide +kernel
theorem dX10_guard_75 : decode cX10_guard 75 = .ok (.iinc 4 1, 3) := by decide +kernel
theorem dX10_guard_78 : decode cX10_guard 78 = .ok (.goto (-29), 3) := by decide +kernel
theorem dX10_guard_81 : decode cX10_guard 81 = .ok (.aload_n 0, 1) := by decide +kernel
theorem dX10_guard_82 : decode cX10_guard 82 = .ok (.iload_n 2, 1) := by decide +kernel
theorem dX10_guard_83 : decode cX10_guard 83 = .ok (.invokevirtual 405, 3) := by decide +kernel
theorem dX10_guard_86 : decode cX10_guard 86 = .ok (.iload_n 3, 1) := by decide +kernel
theorem dX10_guard_87 : decode cX10_guard 87 = .ok (.if_icmp .lt 7, 3) := by decide +kernel
theorem dX10_guard_90 : decode cX10_guard 90 = .ok (.iconst 1, 1) := by decide +kernel
theorem dX10_guard_91 : decode cX10_guard 91 = .ok (.goto 4, 3) := by decide +kernel
theorem dX10_guard_94 : decode cX10_guard 94 = .ok (.iconst 0, 1) := by decide +kernel
theorem dX10_guard_95 : decode cX10_guard 95 = .ok (.ireturn, 1) := by decide +kernel
set_option maxRecDepth 20000 in
theorem dX10_holds_0 : decode cX10_holds 0 = .ok (.iconst 0, 1) := by decide +kernel
theorem dX10_holds_1 : decode cX10_holds 1 = .ok (.istore_n 2, 1) := by decide +kernel
theorem dX10_holds_2 : decode cX10_holds 2 = .ok (.iload_n 2, 1) := by decide +kernel
theorem dX10_holds_3 : decode cX10_holds 3 = .ok (.aload_n 0, 1) := by decide +kernel
theorem dX10_holds_4 : decode cX10_holds 4 = .ok (.getfield 285, 3) := by decide +kernel
theorem dX10_holds_7 : decode cX10_holds 7 = .ok (.if_icmp .ge 97, 3) := by decide +kernel
theorem dX10_holds_10 : decode cX10_holds 10 = .ok (.aload_n 0, 1) := by decide +kernel
theorem dX10_holds_11 : decode cX10_holds 11 = .ok (.getfield 212, 3) := by decide +kernel
theorem dX10_holds_14 : decode cX10_holds 14 = .ok (.iload_n 2, 1) := by decide +kernel
theorem dX10_holds_15 : decode cX10_holds 15 = .ok (.iaload, 1) := by decide +kernel
theorem dX10_holds_16 : decode cX10_holds 16 = .ok (.iconst (-1), 1) := by decide +kernel
theorem dX10_holds_17 : decode cX10_holds 17 = .ok (.if_icmp .ne 6, 3) := by decide +kernel
theorem dX10_holds_20 : decode cX10_holds 20 = .ok (.goto 78, 3) := by decide +kernel
theorem dX10_holds_23 : decode cX10_holds 23 = .ok (.iload_n 1, 1) := by decide +kernel
theorem dX10_holds_24 : decode cX10_holds 24 = .ok (.iload_n 1, 1) := by decide +kernel
theorem dX10_holds_25 : decode cX10_holds 25 = .ok (.aload_n 0, 1) := by decide +kernel
theorem dX10_holds_26 : decode cX10_holds 26 = .ok (.iload_n 2, 1) := by decide +kernel
theorem dX10_holds_27 : decode cX10_holds 27 = .ok (.invokevirtual 419, 3) := by decide +kernel
theorem dX10_holds_30 : decode cX10_holds 30 = .ok (.idiv, 1) := by decide +kernel
theorem dX10_holds_31 : decode cX10_holds 31 = .ok (.aload_n 0, 1) := by decide +kernel
theorem dX10_holds_32 : decode cX10_holds 32 = .ok (.getfield 282, 3) := by decide +kernel
theorem dX10_holds_35 : decode cX10_holds 35 = .ok (.iconst 1, 1) := by decide +kernel
theorem dX10_holds_36 : decode cX10_holds 36 = .ok (.iadd, 1) := by decide +kernel
theorem dX10_holds_37 : decode cX10_holds 37 = .ok (.irem, 1) := by decide +kernel
theorem dX10_holds_38 : decode cX10_holds 38 = .ok (.aload_n 0, 1) := by decide +kernel
theorem dX10_holds_39 : decode cX10_holds 39 = .ok (.iload_n 2, 1) := by decide +kernel
theorem dX10_holds_40 : decode cX10_holds 40 = .ok (.invokevirtual 419, 3) := by decide +kernel
theorem dX10_holds_43 : decode cX10_holds 43 = .ok (.imul, 1) := by decide +kernel
theorem dX10_holds_44 : decode cX10_holds 44 = .ok (.isub, 1) := by decide +kernel
theorem dX10_holds_45 : decode cX10_holds 45 = .ok (.istore_n 3, 1) := by decide +kernel
theorem dX10_holds_46 : decode cX10_holds 46 = .ok (.iconst 0, 1) := by decide +kernel
theorem dX10_holds_47 : decode cX10_holds 47 = .ok (.istore 4, 2) := by decide +kernel
theorem dX10_holds_49 : decode cX10_holds 49 = .ok (.iload 4, 2) := by decide +kernel
theorem dX10_holds_51 : decode cX10_holds 51 = .ok (.aload_n 0, 1) := by decide +kernel
theorem dX10_holds_52 : decode cX10_holds 52 = .ok (.getfield 282, 3) := by decide +kernel
theorem dX10_holds_55 : decode cX10_holds 55 = .ok (.if_icmp .gt 43, 3) := by decide +kernel
theorem dX10_holds_58 : decode cX10_holds 58 = .ok (.aload_n 0, 1) := by decide +kernel
theorem dX10_holds_59 : decode cX10_holds 59 = .ok (.getfield 253, 3) := by decide +kernel
theorem dX10_holds_62 : decode cX10_holds 62 = .ok (.iconst 5, 1) := by decide +kernel
theorem dX10_holds_63 : decode cX10_holds 63 = .ok (.iload_n 3, 1) := by decide +kernel
theorem dX10_holds_64 : decode cX10_holds 64 = .ok (.iload 4, 2) := by decide +kernel
theorem dX10_holds_66 : decode cX10_holds 66 = .ok (.aload_n 0, 1) := by decide +kernel
theorem dX10_holds_67 : decode cX10_holds 67 = .ok (.iload_n 2, 1) := by decide +kernel
theorem dX10_holds_68 : decode cX10_holds 68 = .ok (.invokevirtual 419, 3) := by decide +kernel
theorem dX10_holds_71 : decode cX10_holds 71 = .ok (.imul, 1) := by decide +kernel
theorem dX10_holds_72 : decode cX10_holds 72 = .ok (.iadd, 1) := by decide +kernel
theorem dX10_holds_73 : decode cX10_holds 73 = .ok (.imul, 1) := by decide +kernel
theorem dX10_holds_74 : decode cX10_holds 74 = .ok (.iload_n 2, 1) := by decide +kernel
theorem dX10_holds_75 : decode cX10_holds 75 = .ok (.iadd, 1) := by decide +kernel
theorem dX10_holds_76 : decode cX10_holds 76 = .ok (.iaload, 1) := by decide +kernel
theorem dX10_holds_77 : decode cX10_holds 77 = .ok (.aload_n 0, 1) := by decide +kernel
theorem dX10_holds_78 : decode cX10_holds 78 = .ok (.getfield 253, 3) := by decide +kernel
theorem dX10_holds_81 : decode cX10_holds 81 = .ok (.iconst 5, 1) := by decide +kernel
theorem dX10_holds_82 : decode cX10_holds 82 = .ok (.iload_n 1, 1) := by decide +kernel
theorem dX10_holds_83 : decode cX10_holds 83 = .ok (.imul, 1) := by decide +kernel
theorem dX10_holds_84 : decode cX10_holds 84 = .ok (.iload_n 2, 1) := by decide +kernel
theorem dX10_holds_85 : decode cX10_holds 85 = .ok (.iadd, 1) := by decide +kernel
theorem dX10_holds_86 : decode cX10_holds 86 = .ok (.iaload, 1) := by decide +kernel
theorem dX10_holds_87 : decode cX10_holds 87 = .ok (.if_icmp .le 5, 3) := by decide +kernel
theorem dX10_holds_90 : decode cX10_holds 90 = .ok (.iconst 0, 1) := by decide +kernel
theorem dX10_holds_91 : decode cX10_holds 91 = .ok (.ireturn, 1) := by decide +kernel
theorem dX10_holds_92 : decode cX10_holds 92 = .ok (.iinc 4 1, 3) := by decide +kernel
theorem dX10_holds_95 : decode cX10_holds 95 = .ok (.goto (-46), 3) := by decide +kernel
theorem dX10_holds_98 : decode cX10_holds 98 = .ok (.iinc 2 1, 3) := by decide +kernel
theorem dX10_holds_101 : decode cX10_holds 101 = .ok (.goto (-99), 3) := by decide +kernel
theorem dX10_holds_104 : decode cX10_holds 104 = .ok (.iconst 1, 1) := by decide +kernel
theorem dX10_holds_105 : decode cX10_holds 105 = .ok (.ireturn, 1) := by decide +kernel
set_option maxRecDepth 20000 in
theorem dX10_isRing_0 : decode cX10_isRing 0 = .ok (.iconst 0, 1) := by decide +kernel
theorem dX10_isRing_1 : decode cX10_isRing 1 = .ok (.istore_n 2, 1) := by decide +kernel
theorem dX10_isRing_2 : decode cX10_isRing 2 = .ok (.iconst 0, 1) := by decide +kernel
theorem dX10_isRing_3 : decode cX10_isRing 3 = .ok (.istore_n 3, 1) := by decide +kernel
theorem dX10_isRing_4 : decode cX10_isRing 4 = .ok (.iconst 0, 1) := by decide +kernel
theorem dX10_isRing_5 : decode cX10_isRing 5 = .ok (.istore 4, 2) := by decide +kernel
theorem dX10_isRing_7 : decode cX10_isRing 7 = .ok (.iload 4, 2) := by decide +kernel
theorem dX10_isRing_9 : decode cX10_isRing 9 = .ok (.aload_n 0, 1) := by decide +kernel
theorem dX10_isRing_10 : decode cX10_isRing 10 = .ok (.getfield 285, 3) := by decide +kernel
theorem dX10_isRing_13 : decode cX10_isRing 13 = .ok (.if_icmp .ge 139, 3) := by decide +kernel
theorem dX10_isRing_16 : decode cX10_isRing 16 = .ok (.aload_n 0, 1) := by decide +kernel
theorem dX10_isRing_17 : decode cX10_isRing 17 = .ok (.iload_n 1, 1) := by decide +kernel
theorem dX10_isRing_18 : decode cX10_isRing 18 = .ok (.iload 4, 2) := by decide +kernel
theorem dX10_isRing_20 : decode cX10_isRing 20 = .ok (.invokevirtual 422, 3) := by decide +kernel
theorem dX10_isRing_23 : decode cX10_isRing 23 = .ok (.istore 5, 2) := by decide +kernel
theorem dX10_isRing_25 : decode cX10_isRing 25 = .ok (.aload_n 0, 1) := by decide +kernel
theorem dX10_isRing_26 : decode cX10_isRing 26 = .ok (.getfield 212, 3) := by decide +kernel
theorem dX10_isRing_29 : decode cX10_isRing 29 = .ok (.iload 4, 2) := by decide +kernel
theorem dX10_isRing_31 : decode cX10_isRing 31 = .ok (.iaload, 1) := by decide +kernel
theorem dX10_isRing_32 : decode cX10_isRing 32 = .ok (.iconst (-1), 1) := by decide +kernel
theorem dX10_isRing_33 : decode cX10_isRing 33 = .ok (.if_icmp .ne 49, 3) := by decide +kernel
theorem dX10_isRing_36 : decode cX10_isRing 36 = .ok (.iload 5, 2) := by decide +kernel
theorem dX10_isRing_38 : decode cX10_isRing 38 = .ok (.aload_n 0, 1) := by decide +kernel
theorem dX10_isRing_39 : decode cX10_isRing 39 = .ok (.aload_n 0, 1) := by decide +kernel
theorem dX10_isRing_40 : decode cX10_isRing 40 = .ok (.getfield 219, 3) := by decide +kernel
theorem dX10_isRing_43 : decode cX10_isRing 43 = .ok (.iload 4, 2) := by decide +kernel
theorem dX10_isRing_45 : decode cX10_isRing 45 = .ok (.invokevirtual 338, 3) := by decide +kernel
theorem dX10_isRing_48 : decode cX10_isRing 48 = .ok (.ifCond .eq 7, 3) := by decide +kernel
theorem dX10_isRing_51 : decode cX10_isRing 51 = .ok (.iconst 5, 1) := by decide +kernel
theorem dX10_isRing_52 : decode cX10_isRing 52 = .ok (.goto 25, 3) := by decide +kernel
theorem dX10_isRing_55 : decode cX10_isRing 55 = .ok (.aload_n 0, 1) := by decide +kernel
theorem dX10_isRing_56 : decode cX10_isRing 56 = .ok (.getfield 219, 3) := by decide +kernel
theorem dX10_isRing_59 : decode cX10_isRing 59 = .ok (.bipush 35, 2) := by decide +kernel
theorem dX10_isRing_61 : decode cX10_isRing 61 = .ok (.iconst 4, 1) := by decide +kernel
theorem dX10_isRing_62 : decode cX10_isRing 62 = .ok (.iload 4, 2) := by decide +kernel
theorem dX10_isRing_64 : decode cX10_isRing 64 = .ok (.imul, 1) := by decide +kernel
theorem dX10_isRing_65 : decode cX10_isRing 65 = .ok (.iadd, 1) := by decide +kernel
theorem dX10_isRing_66 : decode cX10_isRing 66 = .ok (.aload_n 0, 1) := by decide +kernel
theorem dX10_isRing_67 : decode cX10_isRing 67 = .ok (.getfield 219, 3) := by decide +kernel
theorem dX10_isRing_70 : decode cX10_isRing 70 = .ok (.bipush 55, 2) := by decide +kernel
theorem dX10_isRing_72 : decode cX10_isRing 72 = .ok (.iaload, 1) := by decide +kernel
theorem dX10_isRing_73 : decode cX10_isRing 73 = .ok (.iconst 4, 1) := by decide +kernel
theorem dX10_isRing_74 : decode cX10_isRing 74 = .ok (.irem, 1) := by decide +kernel
theorem dX10_isRing_75 : decode cX10_isRing 75 = .ok (.iadd, 1) := by decide +kernel
theorem dX10_isRing_76 : decode cX10_isRing 76 = .ok (.iaload, 1) := by decide +kernel
theorem dX10_isRing_77 : decode cX10_isRing 77 = .ok (.if_icmp .eq 69, 3) := by decide +kernel
theorem dX10_isRing_80 : decode cX10_isRing 80 = .ok (.iconst 0, 1) := by decide +kernel
theorem dX10_isRing_81 : decode cX10_isRing 81 = .ok (.ireturn, 1) := by decide +kernel
theorem dX10_isRing_82 : decode cX10_isRing 82 = .ok (.aload_n 0, 1) := by decide +kernel
theorem dX10_isRing_83 : decode cX10_isRing 83 = .ok (.aload_n 0, 1) := by decide +kernel
theorem dX10_isRing_84 : decode cX10_isRing 84 = .ok (.getfield 219, 3) := by decide +kernel
theorem dX10_isRing_87 : decode cX10_isRing 87 = .ok (.iload 4, 2) := by decide +kernel
theorem dX10_isRing_89 : decode cX10_isRing 89 = .ok (.invokevirtual 338, 3) := by decide +kernel
theorem dX10_isRing_92 : decode cX10_isRing 92 = .ok (.ifCond .ne 42, 3) := by decide +kernel
theorem dX10_isRing_95 : decode cX10_isRing 95 = .ok (.iload 5, 2) := by decide +kernel
theorem dX10_isRing_97 : decode cX10_isRing 97 = .ok (.iconst 5, 1) := by decide +kernel
theorem dX10_isRing_98 : decode cX10_isRing 98 = .ok (.if_icmp .eq 36, 3) := by decide +kernel
theorem dX10_isRing_101 : decode cX10_isRing 101 = .ok (.iload 5, 2) := by decide +kernel
theorem dX10_isRing_103 : decode cX10_isRing 103 = .ok (.aload_n 0, 1) := by decide +kernel
theorem dX10_isRing_104 : decode cX10_isRing 104 = .ok (.getfield 212, 3) := by decide +kernel
theorem dX10_isRing_107 : decode cX10_isRing 107 = .ok (.iload 4, 2) := by decide +kernel
theorem dX10_isRing_109 : decode cX10_isRing 109 = .ok (.iaload, 1) := by decide +kernel
theorem dX10_isRing_110 : decode cX10_isRing 110 = .ok (.if_icmp .eq 24, 3) := by decide +kernel
theorem dX10_isRing_113 : decode cX10_isRing 113 = .ok (.aload_n 0, 1) := by decide +kernel
theorem dX10_isRing_114 : decode cX10_isRing 114 = .ok (.getfield 209, 3) := by decide +kernel
theorem dX10_isRing_117 : decode cX10_isRing 117 = .ok (.iload 5, 2) := by decide +kernel
theorem dX10_isRing_119 : decode cX10_isRing 119 = .ok (.iaload, 1) := by decide +kernel
theorem dX10_isRing_120 : decode cX10_isRing 120 = .ok (.iconst (-1), 1) := by decide +kernel
theorem dX10_isRing_121 : decode cX10_isRing 121 = .ok (.if_icmp .eq 13, 3) := by decide +kernel
theorem dX10_isRing_124 : decode cX10_isRing 124 = .ok (.iload_n 2, 1) := by decide +kernel
theorem dX10_isRing_125 : decode cX10_isRing 125 = .ok (.iload 5, 2) := by decide +kernel
theorem dX10_isRing_127 : decode cX10_isRing 127 = .ok (.ishr, 1) := by decide +kernel
theorem dX10_isRing_128 : decode cX10_isRing 128 = .ok (.iconst 1, 1) := by decide +kernel
theorem dX10_isRing_129 : decode cX10_isRing 129 = .ok (.iand, 1) := by decide +kernel
theorem dX10_isRing_130 : decode cX10_isRing 130 = .ok (.iconst 1, 1) := by decide +kernel
theorem dX10_isRing_131 : decode cX10_isRing 131 = .ok (.if_icmp .ne 5, 3) := by decide +kernel
theorem dX10_isRing_134 : decode cX10_isRing 134 = .ok (.iconst 0, 1) := by decide +kernel
theorem dX10_isRing_135 : decode cX10_isRing 135 = .ok (.ireturn, 1) := by decide +kernel
theorem dX10_isRing_136 : decode cX10_isRing 136 = .ok (.iload_n 2, 1) := by decide +kernel
theorem dX10_isRing_137 : decode cX10_isRing 137 = .ok (.iconst 1, 1) := by decide +kernel
theorem dX10_isRing_138 : decode cX10_isRing 138 = .ok (.iload 5, 2) := by decide +kernel
theorem dX10_isRing_140 : decode cX10_isRing 140 = .ok (.ishl, 1) := by decide +kernel
theorem dX10_isRing_141 : decode cX10_isRing 141 = .ok (.ior, 1) := by decide +kernel
theorem dX10_isRing_142 : decode cX10_isRing 142 = .ok (.istore_n 2, 1) := by decide +kernel
theorem dX10_isRing_143 : decode cX10_isRing 143 = .ok (.iinc 3 1, 3) := by decide +kernel
theorem dX10_isRing_146 : decode cX10_isRing 146 = .ok (.iinc 4 1, 3) := by decide +kernel
theorem dX10_isRing_149 : decode cX10_isRing 149 = .ok (.goto (-142), 3) := by decide +kernel
theorem dX10_isRing_152 : decode cX10_isRing 152 = .ok (.iload_n 3, 1) := by decide +kernel
theorem dX10_isRing_153 : decode cX10_isRing 153 = .ok (.iconst 1, 1) := by decide +kernel
theorem dX10_isRing_154 : decode cX10_isRing 154 = .ok (.if_icmp .le 7, 3) := by decide +kernel
theorem dX10_isRing_157 : decode cX10_isRing 157 = .ok (.iconst 1, 1) := by decide +kernel
theorem dX10_isRing_158 : decode cX10_isRing 158 = .ok (.goto 4, 3) := by decide +kernel
theorem dX10_isRing_161 : decode cX10_isRing 161 = .ok (.iconst 0, 1) := by decide +kernel
theorem dX10_isRing_162 : decode cX10_isRing 162 = .ok (.ireturn, 1) := by decide +kernel
set_option maxRecDepth 20000 in
theorem dX10_rings_0 : decode cX10_rings 0 = .ok (.iload_n 1, 1) := by decide +kernel
theorem dX10_rings_1 : decode cX10_rings 1 = .ok (.i2l, 1) := by decide +kernel
theorem dX10_rings_2 : decode cX10_rings 2 = .ok (.lconst 0, 1) := by decide +kernel
theorem dX10_rings_3 : decode cX10_rings 3 = .ok (.lconst 1, 1) := by decide +kernel
theorem dX10_rings_4 : decode cX10_rings 4 = .ok (.invokestatic 52, 3) := by decide +kernel
theorem dX10_rings_7 : decode cX10_rings 7 = .ok (.ifCond .ne 6, 3) := by decide +kernel
theorem dX10_rings_10 : decode cX10_rings 10 = .ok (.bipush (-2), 2) := by decide +kernel
theorem dX10_rings_12 : decode cX10_rings 12 = .ok (.ireturn, 1) := by decide +kernel
theorem dX10_rings_13 : decode cX10_rings 13 = .ok (.aload_n 0, 1) := by decide +kernel
theorem dX10_rings_14 : decode cX10_rings 14 = .ok (.invokevirtual 431, 3) := by decide +kernel
theorem dX10_rings_17 : decode cX10_rings 17 = .ok (.iconst 0, 1) := by decide +kernel
theorem dX10_rings_18 : decode cX10_rings 18 = .ok (.istore_n 2, 1) := by decide +kernel
theorem dX10_rings_19 : decode cX10_rings 19 = .ok (.iconst (-1), 1) := by decide +kernel
theorem dX10_rings_20 : decode cX10_rings 20 = .ok (.istore_n 3, 1) := by decide +kernel
theorem dX10_rings_21 : decode cX10_rings 21 = .ok (.iconst 0, 1) := by decide +kernel
theorem dX10_rings_22 : decode cX10_rings 22 = .ok (.istore 4, 2) := by decide +kernel
theorem dX10_rings_24 : decode cX10_rings 24 = .ok (.iload 4, 2) := by decide +kernel
theorem dX10_rings_26 : decode cX10_rings 26 = .ok (.aload_n 0, 1) := by decide +kernel
theorem dX10_rings_27 : decode cX10_rings 27 = .ok (.invokevirtual 425, 3) := by decide +kernel
theorem dX10_rings_30 : decode cX10_rings 30 = .ok (.if_icmp .ge 100, 3) := by decide +kernel
theorem dX10_rings_33 : decode cX10_rings 33 = .ok (.aload_n 0, 1) := by decide +kernel
theorem dX10_rings_34 : decode cX10_rings 34 = .ok (.iload 4, 2) := by decide +kernel
theorem dX10_rings_36 : decode cX10_rings 36 = .ok (.invokevirtual 439, 3) := by decide +kernel
theorem dX10_rings_39 : decode cX10_rings 39 = .ok (.ifCond .eq 85, 3) := by decide +kernel
theorem dX10_rings_42 : decode cX10_rings 42 = .ok (.aload_n 0, 1) := by decide +kernel
theorem dX10_rings_43 : decode cX10_rings 43 = .ok (.iload 4, 2) := by decide +kernel
theorem dX10_rings_45 : decode cX10_rings 45 = .ok (.invokevirtual 442, 3) := by decide +kernel
theorem dX10_rings_48 : decode cX10_rings 48 = .ok (.ifCond .ne 6, 3) := by decide +kernel
theorem dX10_rings_51 : decode cX10_rings 51 = .ok (.goto 73, 3) := by decide +kernel
theorem dX10_rings_54 : decode cX10_rings 54 = .ok (.iinc 2 1, 3) := by decide +kernel
theorem dX10_rings_57 : decode cX10_rings 57 = .ok (.iconst 0, 1) := by decide +kernel
theorem dX10_rings_58 : decode cX10_rings 58 = .ok (.istore 5, 2) := by decide +kernel
theorem dX10_rings_60 : decode cX10_rings 60 = .ok (.iconst 0, 1) := by decide +kernel
theorem dX10_rings_61 : decode cX10_rings 61 = .ok (.istore 6, 2) := by decide +kernel
theorem dX10_rings_63 : decode cX10_rings 63 = .ok (.iload 6, 2) := by decide +kernel
theorem dX10_rings_65 : decode cX10_rings 65 = .ok (.aload_n 0, 1) := by decide +kernel
theorem dX10_rings_66 : decode cX10_rings 66 = .ok (.getfield 285, 3) := by decide +kernel
theorem dX10_rings_69 : decode cX10_rings 69 = .ok (.if_icmp .ge 41, 3) := by decide +kernel
theorem dX10_rings_72 : decode cX10_rings 72 = .ok (.bipush 10, 2) := by decide +kernel
theorem dX10_rings_74 : decode cX10_rings 74 = .ok (.iload 5, 2) := by decide +kernel
theorem dX10_rings_76 : decode cX10_rings 76 = .ok (.imul, 1) := by decide +kernel
theorem dX10_rings_77 : decode cX10_rings 77 = .ok (.aload_n 0, 1) := by decide +kernel
theorem dX10_rings_78 : decode cX10_rings 78 = .ok (.getfield 212, 3) := by decide +kernel
theorem dX10_rings_81 : decode cX10_rings 81 = .ok (.iload 6, 2) := by decide +kernel
theorem dX10_rings_83 : decode cX10_rings 83 = .ok (.iaload, 1) := by decide +kernel
theorem dX10_rings_84 : decode cX10_rings 84 = .ok (.iconst (-1), 1) := by decide +kernel
theorem dX10_rings_85 : decode cX10_rings 85 = .ok (.if_icmp .ne 8, 3) := by decide +kernel
theorem dX10_rings_88 : decode cX10_rings 88 = .ok (.bipush 9, 2) := by decide +kernel
theorem dX10_rings_90 : decode cX10_rings 90 = .ok (.goto 11, 3) := by decide +kernel
theorem dX10_rings_93 : decode cX10_rings 93 = .ok (.aload_n 0, 1) := by decide +kernel
theorem dX10_rings_94 : decode cX10_rings 94 = .ok (.iload 4, 2) := by decide +kernel
theorem dX10_rings_96 : decode cX10_rings 96 = .ok (.iload 6, 2) := by decide +kernel
theorem dX10_rings_98 : decode cX10_rings 98 = .ok (.invokevirtual 422, 3) := by decide +kernel
theorem dX10_rings_101 : decode cX10_rings 101 = .ok (.iadd, 1) := by decide +kernel
theorem dX10_rings_102 : decode cX10_rings 102 = .ok (.istore 5, 2) := by decide +kernel
theorem dX10_rings_104 : decode cX10_rings 104 = .ok (.iinc 6 1, 3) := by decide +kernel
theorem dX10_rings_107 : decode cX10_rings 107 = .ok (.goto (-44), 3) := by decide +kernel
theorem dX10_rings_110 : decode cX10_rings 110 = .ok (.iload_n 3, 1) := by decide +kernel
theorem dX10_rings_111 : decode cX10_rings 111 = .ok (.iconst (-1), 1) := by decide +kernel
theorem dX10_rings_112 : decode cX10_rings 112 = .ok (.if_icmp .eq 9, 3) := by decide +kernel
theorem dX10_rings_115 : decode cX10_rings 115 = .ok (.iload 5, 2) := by decide +kernel
theorem dX10_rings_117 : decode cX10_rings 117 = .ok (.iload_n 3, 1) := by decide +kernel
theorem dX10_rings_118 : decode cX10_rings 118 = .ok (.if_icmp .ge 6, 3) := by decide +kernel
theorem dX10_rings_121 : decode cX10_rings 121 = .ok (.iload 5, 2) := by decide +kernel
theorem dX10_rings_123 : decode cX10_rings 123 = .ok (.istore_n 3, 1) := by decide +kernel
theorem dX10_rings_124 : decode cX10_rings 124 = .ok (.iinc 4 1, 3) := by decide +kernel
theorem dX10_rings_127 : decode cX10_rings 127 = .ok (.goto (-103), 3) := by decide +kernel
theorem dX10_rings_130 : decode cX10_rings 130 = .ok (.iload_n 1, 1) := by decide +kernel
theorem dX10_rings_131 : decode cX10_rings 131 = .ok (.ifCond .ne 7, 3) := by decide +kernel
theorem dX10_rings_134 : decode cX10_rings 134 = .ok (.iload_n 2, 1) := by decide +kernel
theorem dX10_rings_135 : decode cX10_rings 135 = .ok (.goto 4, 3) := by decide +kernel
theorem dX10_rings_138 : decode cX10_rings 138 = .ok (.iload_n 3, 1) := by decide +kernel
theorem dX10_rings_139 : decode cX10_rings 139 = .ok (.ireturn, 1) := by decide +kernel
set_option maxRecDepth 20000 in
theorem dX10_when_0 : decode cX10_when 0 = .ok (.aload_n 0, 1) := by decide +kernel
theorem dX10_when_1 : decode cX10_when 1 = .ok (.iload_n 1, 1) := by decide +kernel
theorem dX10_when_2 : decode cX10_when 2 = .ok (.invokevirtual 309, 3) := by decide +kernel
theorem dX10_when_5 : decode cX10_when 5 = .ok (.ifCond .ne 6, 3) := by decide +kernel
theorem dX10_when_8 : decode cX10_when 8 = .ok (.bipush (-2), 2) := by decide +kernel
theorem dX10_when_10 : decode cX10_when 10 = .ok (.ireturn, 1) := by decide +kernel
theorem dX10_when_11 : decode cX10_when 11 = .ok (.iconst 0, 1) := by decide +kernel
theorem dX10_when_12 : decode cX10_when 12 = .ok (.istore_n 2, 1) := by decide +kernel
theorem dX10_when_13 : decode cX10_when 13 = .ok (.ldc_w 395, 3) := by decide +kernel
theorem dX10_when_16 : decode cX10_when 16 = .ok (.istore_n 3, 1) := by decide +kernel
theorem dX10_when_17 : decode cX10_when 17 = .ok (.iconst 0, 1) := by decide +kernel
theorem dX10_when_18 : decode cX10_when 18 = .ok (.istore 4, 2) := by decide +kernel
theorem dX10_when_20 : decode cX10_when 20 = .ok (.iload 4, 2) := by decide +kernel
theorem dX10_when_22 : decode cX10_when 22 = .ok (.iconst 4, 1) := by decide +kernel
theorem dX10_when_23 : decode cX10_when 23 = .ok (.if_icmp .ge 50, 3) := by decide +kernel
theorem dX10_when_26 : decode cX10_when 26 = .ok (.aload_n 0, 1) := by decide +kernel
theorem dX10_when_27 : decode cX10_when 27 = .ok (.invokevirtual 402, 3) := by decide +kernel
theorem dX10_when_30 : decode cX10_when 30 = .ok (.aload_n 0, 1) := by decide +kernel
theorem dX10_when_31 : decode cX10_when 31 = .ok (.getfield 222, 3) := by decide +kernel
theorem dX10_when_34 : decode cX10_when 34 = .ok (.bipush 35, 2) := by decide +kernel
theorem dX10_when_36 : decode cX10_when 36 = .ok (.iconst 4, 1) := by decide +kernel
theorem dX10_when_37 : decode cX10_when 37 = .ok (.iload_n 1, 1) := by decide +kernel
theorem dX10_when_38 : decode cX10_when 38 = .ok (.imul, 1) := by decide +kernel
theorem dX10_when_39 : decode cX10_when 39 = .ok (.iadd, 1) := by decide +kernel
theorem dX10_when_40 : decode cX10_when 40 = .ok (.iload 4, 2) := by decide +kernel
theorem dX10_when_42 : decode cX10_when 42 = .ok (.iadd, 1) := by decide +kernel
theorem dX10_when_43 : decode cX10_when 43 = .ok (.iconst 5, 1) := by decide +kernel
theorem dX10_when_44 : decode cX10_when 44 = .ok (.iastore, 1) := by decide +kernel
theorem dX10_when_45 : decode cX10_when 45 = .ok (.aload_n 0, 1) := by decide +kernel
theorem dX10_when_46 : decode cX10_when 46 = .ok (.iload_n 1, 1) := by decide +kernel
theorem dX10_when_47 : decode cX10_when 47 = .ok (.invokevirtual 405, 3) := by decide +kernel
theorem dX10_when_50 : decode cX10_when 50 = .ok (.istore 5, 2) := by decide +kernel
theorem dX10_when_52 : decode cX10_when 52 = .ok (.iload 5, 2) := by decide +kernel
theorem dX10_when_54 : decode cX10_when 54 = .ok (.iload_n 3, 1) := by decide +kernel
theorem dX10_when_55 : decode cX10_when 55 = .ok (.if_icmp .gt 6, 3) := by decide +kernel
theorem dX10_when_58 : decode cX10_when 58 = .ok (.goto 9, 3) := by decide +kernel
theorem dX10_when_61 : decode cX10_when 61 = .ok (.iload 5, 2) := by decide +kernel
theorem dX10_when_63 : decode cX10_when 63 = .ok (.istore_n 3, 1) := by decide +kernel
theorem dX10_when_64 : decode cX10_when 64 = .ok (.iload 4, 2) := by decide +kernel
theorem dX10_when_66 : decode cX10_when 66 = .ok (.istore_n 2, 1) := by decide +kernel
theorem dX10_when_67 : decode cX10_when 67 = .ok (.iinc 4 1, 3) := by decide +kernel
theorem dX10_when_70 : decode cX10_when 70 = .ok (.goto (-50), 3) := by decide +kernel
theorem dX10_when_73 : decode cX10_when 73 = .ok (.iload_n 2, 1) := by decide +kernel
theorem dX10_when_74 : decode cX10_when 74 = .ok (.ireturn, 1) := by decide +kernel
set_option maxRecDepth 20000 in
theorem dX10_bound_0 : decode cX10_bound 0 = .ok (.aload_n 0, 1) := by decide +kernel
theorem dX10_bound_1 : decode cX10_bound 1 = .ok (.iload_n 1, 1) := by decide +kernel
theorem dX10_bound_2 : decode cX10_bound 2 = .ok (.invokevirtual 309, 3) := by decide +kernel
theorem dX10_bound_5 : decode cX10_bound 5 = .ok (.ifCond .eq 17, 3) := by decide +kernel
theorem dX10_bound_8 : decode cX10_bound 8 = .ok (.iload_n 2, 1) := by decide +kernel
theorem dX10_bound_9 : decode cX10_bound 9 = .ok (.i2l, 1) := by decide +kernel
theorem dX10_bound_10 : decode cX10_bound 10 = .ok (.ldc2_w 445, 3) := by decide +kernel
theorem dX10_bound_13 : decode cX10_bound 13 = .ok (.ldc2_w 447, 3) := by decide +kernel
theorem dX10_bound_16 : decode cX10_bound 16 = .ok (.invokestatic 52, 3) := by decide +kernel
theorem dX10_bound_19 : decode cX10_bound 19 = .ok (.ifCond .ne 6, 3) := by decide +kernel
theorem dX10_bound_22 : decode cX10_bound 22 = .ok (.bipush (-2), 2) := by decide +kernel
theorem dX10_bound_24 : decode cX10_bound 24 = .ok (.ireturn, 1) := by decide +kernel
theorem dX10_bound_25 : decode cX10_bound 25 = .ok (.iconst (-1), 1) := by decide +kernel
theorem dX10_bound_26 : decode cX10_bound 26 = .ok (.istore_n 3, 1) := by decide +kernel
theorem dX10_bound_27 : decode cX10_bound 27 = .ok (.aload_n 0, 1) := by decide +kernel
theorem dX10_bound_28 : decode cX10_bound 28 = .ok (.iconst 0, 1) := by decide +kernel
theorem dX10_bound_29 : decode cX10_bound 29 = .ok (.putfield 225, 3) := by decide +kernel
theorem dX10_bound_32 : decode cX10_bound 32 = .ok (.aload_n 0, 1) := by decide +kernel
theorem dX10_bound_33 : decode cX10_bound 33 = .ok (.getfield 225, 3) := by decide +kernel
theorem dX10_bound_36 : decode cX10_bound 36 = .ok (.bipush 28, 2) := by decide +kernel
theorem dX10_bound_38 : decode cX10_bound 38 = .ok (.if_icmp .gt 35, 3) := by decide +kernel
theorem dX10_bound_41 : decode cX10_bound 41 = .ok (.iload_n 3, 1) := by decide +kernel
theorem dX10_bound_42 : decode cX10_bound 42 = .ok (.iconst (-1), 1) := by decide +kernel
theorem dX10_bound_43 : decode cX10_bound 43 = .ok (.if_icmp .ne 30, 3) := by decide +kernel
theorem dX10_bound_46 : decode cX10_bound 46 = .ok (.aload_n 0, 1) := by decide +kernel
theorem dX10_bound_47 : decode cX10_bound 47 = .ok (.iload_n 1, 1) := by decide +kernel
theorem dX10_bound_48 : decode cX10_bound 48 = .ok (.invokevirtual 416, 3) := by decide +kernel
theorem dX10_bound_51 : decode cX10_bound 51 = .ok (.iload_n 2, 1) := by decide +kernel
theorem dX10_bound_52 : decode cX10_bound 52 = .ok (.if_icmp .gt 8, 3) := by decide +kernel
theorem dX10_bound_55 : decode cX10_bound 55 = .ok (.aload_n 0, 1) := by decide +kernel
theorem dX10_bound_56 : decode cX10_bound 56 = .ok (.getfield 225, 3) := by decide +kernel
theorem dX10_bound_59 : decode cX10_bound 59 = .ok (.istore_n 3, 1) := by decide +kernel
theorem dX10_bound_60 : decode cX10_bound 60 = .ok (.aload_n 0, 1) := by decide +kernel
theorem dX10_bound_61 : decode cX10_bound 61 = .ok (.dup, 1) := by decide +kernel
theorem dX10_bound_62 : decode cX10_bound 62 = .ok (.getfield 225, 3) := by decide +kernel
theorem dX10_bound_65 : decode cX10_bound 65 = .ok (.iconst 1, 1) := by decide +kernel
theorem dX10_bound_66 : decode cX10_bound 66 = .ok (.iadd, 1) := by decide +kernel
theorem dX10_bound_67 : decode cX10_bound 67 = .ok (.putfield 225, 3) := by decide +kernel
theorem dX10_bound_70 : decode cX10_bound 70 = .ok (.goto (-38), 3) := by decide +kernel
theorem dX10_bound_73 : decode cX10_bound 73 = .ok (.aload_n 0, 1) := by decide +kernel
theorem dX10_bound_74 : decode cX10_bound 74 = .ok (.iconst (-1), 1) := by decide +kernel
theorem dX10_bound_75 : decode cX10_bound 75 = .ok (.putfield 225, 3) := by decide +kernel
theorem dX10_bound_78 : decode cX10_bound 78 = .ok (.iload_n 3, 1) := by decide +kernel
theorem dX10_bound_79 : decode cX10_bound 79 = .ok (.ireturn, 1) := by decide +kernel
set_option maxRecDepth 20000 in
theorem dX10_tryLaw_0 : decode cX10_tryLaw 0 = .ok (.aload_n 0, 1) := by decide +kernel
theorem dX10_tryLaw_1 : decode cX10_tryLaw 1 = .ok (.iload_n 2, 1) := by decide +kernel
theorem dX10_tryLaw_2 : decode cX10_tryLaw 2 = .ok (.putfield 225, 3) := by decide +kernel
theorem dX10_tryLaw_5 : decode cX10_tryLaw 5 = .ok (.aload_n 0, 1) := by decide +kernel
theorem dX10_tryLaw_6 : decode cX10_tryLaw 6 = .ok (.iconst 1, 1) := by decide +kernel
theorem dX10_tryLaw_7 : decode cX10_tryLaw 7 = .ok (.putfield 315, 3) := by decide +kernel
theorem dX10_tryLaw_10 : decode cX10_tryLaw 10 = .ok (.aload_n 0, 1) := by decide +kernel
theorem dX10_tryLaw_11 : decode cX10_tryLaw 11 = .ok (.iload_n 1, 1) := by decide +kernel
theorem dX10_tryLaw_12 : decode cX10_tryLaw 12 = .ok (.putfield 318, 3) := by decide +kernel
theorem dX10_tryLaw_15 : decode cX10_tryLaw 15 = .ok (.aload_n 0, 1) := by decide +kernel
theorem dX10_tryLaw_16 : decode cX10_tryLaw 16 = .ok (.invokevirtual 402, 3) := by decide +kernel
theorem dX10_tryLaw_19 : decode cX10_tryLaw 19 = .ok (.aload_n 0, 1) := by decide +kernel
theorem dX10_tryLaw_20 : decode cX10_tryLaw 20 = .ok (.iconst 4, 1) := by decide +kernel
theorem dX10_tryLaw_21 : decode cX10_tryLaw 21 = .ok (.iload_n 3, 1) := by decide +kernel
theorem dX10_tryLaw_22 : decode cX10_tryLaw 22 = .ok (.imul, 1) := by decide +kernel
theorem dX10_tryLaw_23 : decode cX10_tryLaw 23 = .ok (.invokevirtual 399, 3) := by decide +kernel
theorem dX10_tryLaw_26 : decode cX10_tryLaw 26 = .ok (.aload_n 0, 1) := by decide +kernel
theorem dX10_tryLaw_27 : decode cX10_tryLaw 27 = .ok (.iconst (-1), 1) := by decide +kernel
theorem dX10_tryLaw_28 : decode cX10_tryLaw 28 = .ok (.putfield 225, 3) := by decide +kernel
theorem dX10_tryLaw_31 : decode cX10_tryLaw 31 = .ok (.aload_n 0, 1) := by decide +kernel
theorem dX10_tryLaw_32 : decode cX10_tryLaw 32 = .ok (.iconst 0, 1) := by decide +kernel
theorem dX10_tryLaw_33 : decode cX10_tryLaw 33 = .ok (.putfield 315, 3) := by decide +kernel
theorem dX10_tryLaw_36 : decode cX10_tryLaw 36 = .ok (.aload_n 0, 1) := by decide +kernel
theorem dX10_tryLaw_37 : decode cX10_tryLaw 37 = .ok (.iconst 0, 1) := by decide +kernel
theorem dX10_tryLaw_38 : decode cX10_tryLaw 38 = .ok (.putfield 449, 3) := by decide +kernel
theorem dX10_tryLaw_41 : decode cX10_tryLaw 41 = .ok (.aload_n 0, 1) := by decide +kernel
theorem dX10_tryLaw_42 : decode cX10_tryLaw 42 = .ok (.iconst 0, 1) := by decide +kernel
theorem dX10_tryLaw_43 : decode cX10_tryLaw 43 = .ok (.putfield 452, 3) := by decide +kernel
theorem dX10_tryLaw_46 : decode cX10_tryLaw 46 = .ok (.iconst 0, 1) := by decide +kernel
theorem dX10_tryLaw_47 : decode cX10_tryLaw 47 = .ok (.istore 4, 2) := by decide +kernel
theorem dX10_tryLaw_49 : decode cX10_tryLaw 49 = .ok (.iload 4, 2) := by decide +kernel
theorem dX10_tryLaw_51 : decode cX10_tryLaw 51 = .ok (.aload_n 0, 1) := by decide +kernel
theorem dX10_tryLaw_52 : decode cX10_tryLaw 52 = .ok (.getfield 285, 3) := by decide +kernel
theorem dX10_tryLaw_55 : decode cX10_tryLaw 55 = .ok (.if_icmp .ge 39, 3) := by decide +kernel
theorem dX10_tryLaw_58 : decode cX10_tryLaw 58 = .ok (.aload_n 0, 1) := by decide +kernel
theorem dX10_tryLaw_59 : decode cX10_tryLaw 59 = .ok (.dup, 1) := by decide +kernel
theorem dX10_tryLaw_60 : decode cX10_tryLaw 60 = .ok (.getfield 449, 3) := by decide +kernel
theorem dX10_tryLaw_63 : decode cX10_tryLaw 63 = .ok (.aload_n 0, 1) := by decide +kernel
theorem dX10_tryLaw_64 : decode cX10_tryLaw 64 = .ok (.getfield 222, 3) := by decide +kernel
theorem dX10_tryLaw_67 : decode cX10_tryLaw 67 = .ok (.bipush 15, 2) := by decide +kernel
theorem dX10_tryLaw_69 : decode cX10_tryLaw 69 = .ok (.iload 4, 2) := by decide +kernel
theorem dX10_tryLaw_71 : decode cX10_tryLaw 71 = .ok (.iadd, 1) := by decide +kernel
theorem dX10_tryLaw_72 : decode cX10_tryLaw 72 = .ok (.iaload, 1) := by decide +kernel
theorem dX10_tryLaw_73 : decode cX10_tryLaw 73 = .ok (.aload_n 0, 1) := by decide +kernel
theorem dX10_tryLaw_74 : decode cX10_tryLaw 74 = .ok (.getfield 219, 3) := by decide +kernel
theorem dX10_tryLaw_77 : decode cX10_tryLaw 77 = .ok (.bipush 15, 2) := by decide +kernel
theorem dX10_tryLaw_79 : decode cX10_tryLaw 79 = .ok (.iload 4, 2) := by decide +kernel
theorem dX10_tryLaw_81 : decode cX10_tryLaw 81 = .ok (.iadd, 1) := by decide +kernel
theorem dX10_tryLaw_82 : decode cX10_tryLaw 82 = .ok (.iaload, 1) := by decide +kernel
theorem dX10_tryLaw_83 : decode cX10_tryLaw 83 = .ok (.isub, 1) := by decide +kernel
theorem dX10_tryLaw_84 : decode cX10_tryLaw 84 = .ok (.iadd, 1) := by decide +kernel
theorem dX10_tryLaw_85 : decode cX10_tryLaw 85 = .ok (.putfield 449, 3) := by decide +kernel
theorem dX10_tryLaw_88 : decode cX10_tryLaw 88 = .ok (.iinc 4 1, 3) := by decide +kernel
theorem dX10_tryLaw_91 : decode cX10_tryLaw 91 = .ok (.goto (-42), 3) := by decide +kernel
theorem dX10_tryLaw_94 : decode cX10_tryLaw 94 = .ok (.iconst 0, 1) := by decide +kernel
theorem dX10_tryLaw_95 : decode cX10_tryLaw 95 = .ok (.istore 4, 2) := by decide +kernel
theorem dX10_tryLaw_97 : decode cX10_tryLaw 97 = .ok (.iload 4, 2) := by decide +kernel
theorem dX10_tryLaw_99 : decode cX10_tryLaw 99 = .ok (.aload_n 0, 1) := by decide +kernel
theorem dX10_tryLaw_100 : decode cX10_tryLaw 100 = .ok (.getfield 282, 3) := by decide +kernel
theorem dX10_tryLaw_103 : decode cX10_tryLaw 103 = .ok (.if_icmp .ge 39, 3) := by decide +kernel
theorem dX10_tryLaw_106 : decode cX10_tryLaw 106 = .ok (.aload_n 0, 1) := by decide +kernel
theorem dX10_tryLaw_107 : decode cX10_tryLaw 107 = .ok (.dup, 1) := by decide +kernel
theorem dX10_tryLaw_108 : decode cX10_tryLaw 108 = .ok (.getfield 452, 3) := by decide +kernel
theorem dX10_tryLaw_111 : decode cX10_tryLaw 111 = .ok (.aload_n 0, 1) := by decide +kernel
theorem dX10_tryLaw_112 : decode cX10_tryLaw 112 = .ok (.getfield 219, 3) := by decide +kernel
theorem dX10_tryLaw_115 : decode cX10_tryLaw 115 = .ok (.bipush 25, 2) := by decide +kernel
theorem dX10_tryLaw_117 : decode cX10_tryLaw 117 = .ok (.iload 4, 2) := by decide +kernel
theorem dX10_tryLaw_119 : decode cX10_tryLaw 119 = .ok (.iadd, 1) := by decide +kernel
theorem dX10_tryLaw_120 : decode cX10_tryLaw 120 = .ok (.iaload, 1) := by decide +kernel
theorem dX10_tryLaw_121 : decode cX10_tryLaw 121 = .ok (.aload_n 0, 1) := by decide +kernel
theorem dX10_tryLaw_122 : decode cX10_tryLaw 122 = .ok (.getfield 222, 3) := by decide +kernel
theorem dX10_tryLaw_125 : decode cX10_tryLaw 125 = .ok (.bipush 25, 2) := by decide +kernel
theorem dX10_tryLaw_127 : decode cX10_tryLaw 127 = .ok (.iload 4, 2) := by decide +kernel
theorem dX10_tryLaw_129 : decode cX10_tryLaw 129 = .ok (.iadd, 1) := by decide +kernel
theorem dX10_tryLaw_130 : decode cX10_tryLaw 130 = .ok (.iaload, 1) := by decide +kernel
theorem dX10_tryLaw_131 : decode cX10_tryLaw 131 = .ok (.isub, 1) := by decide +kernel
theorem dX10_tryLaw_132 : decode cX10_tryLaw 132 = .ok (.iadd, 1) := by decide +kernel
theorem dX10_tryLaw_133 : decode cX10_tryLaw 133 = .ok (.putfield 452, 3) := by decide +kernel
theorem dX10_tryLaw_136 : decode cX10_tryLaw 136 = .ok (.iinc 4 1, 3) := by decide +kernel
theorem dX10_tryLaw_139 : decode cX10_tryLaw 139 = .ok (.goto (-42), 3) := by decide +kernel
theorem dX10_tryLaw_142 : decode cX10_tryLaw 142 = .ok (.return_, 1) := by decide +kernel
set_option maxRecDepth 20000 in
theorem dX10_law_0 : decode cX10_law 0 = .ok (.iload_n 2, 1) := by decide +kernel
theorem dX10_law_1 : decode cX10_law 1 = .ok (.i2l, 1) := by decide +kernel
theorem dX10_law_2 : decode cX10_law 2 = .ok (.lconst 0, 1) := by decide +kernel
theorem dX10_law_3 : decode cX10_law 3 = .ok (.ldc2_w 455, 3) := by decide +kernel
theorem dX10_law_6 : decode cX10_law 6 = .ok (.invokestatic 52, 3) := by decide +kernel
theorem dX10_law_9 : decode cX10_law 9 = .ok (.ifCond .eq 26, 3) := by decide +kernel
theorem dX10_law_12 : decode cX10_law 12 = .ok (.iload_n 3, 1) := by decide +kernel
theorem dX10_law_13 : decode cX10_law 13 = .ok (.i2l, 1) := by decide +kernel
theorem dX10_law_14 : decode cX10_law 14 = .ok (.lconst 1, 1) := by decide +kernel
theorem dX10_law_15 : decode cX10_law 15 = .ok (.ldc2_w 457, 3) := by decide +kernel
theorem dX10_law_18 : decode cX10_law 18 = .ok (.invokestatic 52, 3) := by decide +kernel
theorem dX10_law_21 : decode cX10_law 21 = .ok (.ifCond .eq 14, 3) := by decide +kernel
theorem dX10_law_24 : decode cX10_law 24 = .ok (.iload 4, 2) := by decide +kernel
theorem dX10_law_26 : decode cX10_law 26 = .ok (.i2l, 1) := by decide +kernel
theorem dX10_law_27 : decode cX10_law 27 = .ok (.lconst 0, 1) := by decide +kernel
theorem dX10_law_28 : decode cX10_law 28 = .ok (.lconst 1, 1) := by decide +kernel
theorem dX10_law_29 : decode cX10_law 29 = .ok (.invokestatic 52, 3) := by decide +kernel
theorem dX10_law_32 : decode cX10_law 32 = .ok (.ifCond .ne 7, 3) := by decide +kernel
theorem dX10_law_35 : decode cX10_law 35 = .ok (.ldc_w 395, 3) := by decide +kernel
theorem dX10_law_38 : decode cX10_law 38 = .ok (.ireturn, 1) := by decide +kernel
theorem dX10_law_39 : decode cX10_law 39 = .ok (.aload_n 0, 1) := by decide +kernel
theorem dX10_law_40 : decode cX10_law 40 = .ok (.iload_n 1, 1) := by decide +kernel
theorem dX10_law_41 : decode cX10_law 41 = .ok (.iload_n 2, 1) := by decide +kernel
theorem dX10_law_42 : decode cX10_law 42 = .ok (.iload_n 3, 1) := by decide +kernel
theorem dX10_law_43 : decode cX10_law 43 = .ok (.invokevirtual 459, 3) := by decide +kernel
theorem dX10_law_46 : decode cX10_law 46 = .ok (.iload 4, 2) := by decide +kernel
theorem dX10_law_48 : decode cX10_law 48 = .ok (.ifCond .ne 10, 3) := by decide +kernel
theorem dX10_law_51 : decode cX10_law 51 = .ok (.aload_n 0, 1) := by decide +kernel
theorem dX10_law_52 : decode cX10_law 52 = .ok (.getfield 449, 3) := by decide +kernel
theorem dX10_law_55 : decode cX10_law 55 = .ok (.goto 7, 3) := by decide +kernel
theorem dX10_law_58 : decode cX10_law 58 = .ok (.aload_n 0, 1) := by decide +kernel
theorem dX10_law_59 : decode cX10_law 59 = .ok (.getfield 452, 3) := by decide +kernel
theorem dX10_law_62 : decode cX10_law 62 = .ok (.ireturn, 1) := by decide +kernel
set_option maxRecDepth 20000 in
theorem dX10_bestLaw_0 : decode cX10_bestLaw 0 = .ok (.iload_n 1, 1) := by decide +kernel
theorem dX10_bestLaw_1 : decode cX10_bestLaw 1 = .ok (.i2l, 1) := by decide +kernel
theorem dX10_bestLaw_2 : decode cX10_bestLaw 2 = .ok (.lconst 1, 1) := by decide +kernel
theorem dX10_bestLaw_3 : decode cX10_bestLaw 3 = .ok (.ldc2_w 457, 3) := by decide +kernel
theorem dX10_bestLaw_6 : decode cX10_bestLaw 6 = .ok (.invokestatic 52, 3) := by decide +kernel
theorem dX10_bestLaw_9 : decode cX10_bestLaw 9 = .ok (.ifCond .ne 6, 3) := by decide +kernel
theorem dX10_bestLaw_12 : decode cX10_bestLaw 12 = .ok (.bipush (-2), 2) := by decide +kernel
theorem dX10_bestLaw_14 : decode cX10_bestLaw 14 = .ok (.ireturn, 1) := by decide +kernel
theorem dX10_bestLaw_15 : decode cX10_bestLaw 15 = .ok (.iconst 0, 1) := by decide +kernel
theorem dX10_bestLaw_16 : decode cX10_bestLaw 16 = .ok (.istore_n 2, 1) := by decide +kernel
theorem dX10_bestLaw_17 : decode cX10_bestLaw 17 = .ok (.ldc_w 395, 3) := by decide +kernel
theorem dX10_bestLaw_20 : decode cX10_bestLaw 20 = .ok (.istore_n 3, 1) := by decide +kernel
theorem dX10_bestLaw_21 : decode cX10_bestLaw 21 = .ok (.iconst 0, 1) := by decide +kernel
theorem dX10_bestLaw_22 : decode cX10_bestLaw 22 = .ok (.istore 4, 2) := by decide +kernel
theorem dX10_bestLaw_24 : decode cX10_bestLaw 24 = .ok (.iload 4, 2) := by decide +kernel
theorem dX10_bestLaw_26 : decode cX10_bestLaw 26 = .ok (.iconst 2, 1) := by decide +kernel
theorem dX10_bestLaw_27 : decode cX10_bestLaw 27 = .ok (.if_icmp .ge 68, 3) := by decide +kernel
theorem dX10_bestLaw_30 : decode cX10_bestLaw 30 = .ok (.iconst 0, 1) := by decide +kernel
theorem dX10_bestLaw_31 : decode cX10_bestLaw 31 = .ok (.istore 5, 2) := by decide +kernel
theorem dX10_bestLaw_33 : decode cX10_bestLaw 33 = .ok (.iload 5, 2) := by decide +kernel
theorem dX10_bestLaw_35 : decode cX10_bestLaw 35 = .ok (.bipush 28, 2) := by decide +kernel
theorem dX10_bestLaw_37 : decode cX10_bestLaw 37 = .ok (.if_icmp .gt 52, 3) := by decide +kernel
theorem dX10_bestLaw_40 : decode cX10_bestLaw 40 = .ok (.aload_n 0, 1) := by decide +kernel
theorem dX10_bestLaw_41 : decode cX10_bestLaw 41 = .ok (.iload 4, 2) := by decide +kernel
theorem dX10_bestLaw_43 : decode cX10_bestLaw 43 = .ok (.iconst 1, 1) := by decide +kernel
theorem dX10_bestLaw_44 : decode cX10_bestLaw 44 = .ok (.if_icmp .ne 7, 3) := by decide +kernel
theorem dX10_bestLaw_47 : decode cX10_bestLaw 47 = .ok (.iconst 1, 1) := by decide +kernel
theorem dX10_bestLaw_48 : decode cX10_bestLaw 48 = .ok (.goto 4, 3) := by decide +kernel
theorem dX10_bestLaw_51 : decode cX10_bestLaw 51 = .ok (.iconst 0, 1) := by decide +kernel
theorem dX10_bestLaw_52 : decode cX10_bestLaw 52 = .ok (.iload 5, 2) := by decide +kernel
theorem dX10_bestLaw_54 : decode cX10_bestLaw 54 = .ok (.iload_n 1, 1) := by decide +kernel
theorem dX10_bestLaw_55 : decode cX10_bestLaw 55 = .ok (.invokevirtual 459, 3) := by decide +kernel
theorem dX10_bestLaw_58 : decode cX10_bestLaw 58 = .ok (.aload_n 0, 1) := by decide +kernel
theorem dX10_bestLaw_59 : decode cX10_bestLaw 59 = .ok (.getfield 449, 3) := by decide +kernel
theorem dX10_bestLaw_62 : decode cX10_bestLaw 62 = .ok (.iload_n 3, 1) := by decide +kernel
theorem dX10_bestLaw_63 : decode cX10_bestLaw 63 = .ok (.if_icmp .gt 6, 3) := by decide +kernel
theorem dX10_bestLaw_66 : decode cX10_bestLaw 66 = .ok (.goto 17, 3) := by decide +kernel
theorem dX10_bestLaw_69 : decode cX10_bestLaw 69 = .ok (.aload_n 0, 1) := by decide +kernel
theorem dX10_bestLaw_70 : decode cX10_bestLaw 70 = .ok (.getfield 449, 3) := by decide +kernel
theorem dX10_bestLaw_73 : decode cX10_bestLaw 73 = .ok (.istore_n 3, 1) := by decide +kernel
theorem dX10_bestLaw_74 : decode cX10_bestLaw 74 = .ok (.bipush 100, 2) := by decide +kernel
theorem dX10_bestLaw_76 : decode cX10_bestLaw 76 = .ok (.iload 4, 2) := by decide +kernel
theorem dX10_bestLaw_78 : decode cX10_bestLaw 78 = .ok (.imul, 1) := by decide +kernel
theorem dX10_bestLaw_79 : decode cX10_bestLaw 79 = .ok (.iload 5, 2) := by decide +kernel
theorem dX10_bestLaw_81 : decode cX10_bestLaw 81 = .ok (.iadd, 1) := by decide +kernel
theorem dX10_bestLaw_82 : decode cX10_bestLaw 82 = .ok (.istore_n 2, 1) := by decide +kernel
theorem dX10_bestLaw_83 : decode cX10_bestLaw 83 = .ok (.iinc 5 1, 3) := by decide +kernel
theorem dX10_bestLaw_86 : decode cX10_bestLaw 86 = .ok (.goto (-53), 3) := by decide +kernel
theorem dX10_bestLaw_89 : decode cX10_bestLaw 89 = .ok (.iinc 4 1, 3) := by decide +kernel
theorem dX10_bestLaw_92 : decode cX10_bestLaw 92 = .ok (.goto (-68), 3) := by decide +kernel
theorem dX10_bestLaw_95 : decode cX10_bestLaw 95 = .ok (.iload_n 2, 1) := by decide +kernel
theorem dX10_bestLaw_96 : decode cX10_bestLaw 96 = .ok (.ireturn, 1) := by decide +kernel
set_option maxRecDepth 20000 in
theorem dX10_feast_0 : decode cX10_feast 0 = .ok (.aload_n 0, 1) := by decide +kernel
theorem dX10_feast_1 : decode cX10_feast 1 = .ok (.getfield 71, 3) := by decide +kernel
theorem dX10_feast_4 : decode cX10_feast 4 = .ok (.istore_n 1, 1) := by decide +kernel
theorem dX10_feast_5 : decode cX10_feast 5 = .ok (.aload_n 0, 1) := by decide +kernel
theorem dX10_feast_6 : decode cX10_feast 6 = .ok (.iconst 0, 1) := by decide +kernel
theorem dX10_feast_7 : decode cX10_feast 7 = .ok (.putfield 71, 3) := by decide +kernel
theorem dX10_feast_10 : decode cX10_feast 10 = .ok (.iload_n 1, 1) := by decide +kernel
theorem dX10_feast_11 : decode cX10_feast 11 = .ok (.aload_n 0, 1) := by decide +kernel
theorem dX10_feast_12 : decode cX10_feast 12 = .ok (.getfield 285, 3) := by decide +kernel
theorem dX10_feast_15 : decode cX10_feast 15 = .ok (.if_icmp .eq 5, 3) := by decide +kernel
theorem dX10_feast_18 : decode cX10_feast 18 = .ok (.iconst (-1), 1) := by decide +kernel
theorem dX10_feast_19 : decode cX10_feast 19 = .ok (.ireturn, 1) := by decide +kernel
theorem dX10_feast_20 : decode cX10_feast 20 = .ok (.iconst 0, 1) := by decide +kernel
theorem dX10_feast_21 : decode cX10_feast 21 = .ok (.istore_n 2, 1) := by decide +kernel
theorem dX10_feast_22 : decode cX10_feast 22 = .ok (.iconst 0, 1) := by decide +kernel
theorem dX10_feast_23 : decode cX10_feast 23 = .ok (.istore_n 3, 1) := by decide +kernel
theorem dX10_feast_24 : decode cX10_feast 24 = .ok (.iload_n 3, 1) := by decide +kernel
theorem dX10_feast_25 : decode cX10_feast 25 = .ok (.iload_n 1, 1) := by decide +kernel
theorem dX10_feast_26 : decode cX10_feast 26 = .ok (.if_icmp .ge 48, 3) := by decide +kernel
theorem dX10_feast_29 : decode cX10_feast 29 = .ok (.aload_n 0, 1) := by decide +kernel
theorem dX10_feast_30 : decode cX10_feast 30 = .ok (.getfield 16, 3) := by decide +kernel
theorem dX10_feast_33 : decode cX10_feast 33 = .ok (.iload_n 3, 1) := by decide +kernel
theorem dX10_feast_34 : decode cX10_feast 34 = .ok (.baload, 1) := by decide +kernel
theorem dX10_feast_35 : decode cX10_feast 35 = .ok (.bipush 48, 2) := by decide +kernel
theorem dX10_feast_37 : decode cX10_feast 37 = .ok (.isub, 1) := by decide +kernel
theorem dX10_feast_38 : decode cX10_feast 38 = .ok (.istore 4, 2) := by decide +kernel
theorem dX10_feast_40 : decode cX10_feast 40 = .ok (.aload_n 0, 1) := by decide +kernel
theorem dX10_feast_41 : decode cX10_feast 41 = .ok (.iload 4, 2) := by decide +kernel
theorem dX10_feast_43 : decode cX10_feast 43 = .ok (.invokevirtual 309, 3) := by decide +kernel
theorem dX10_feast_46 : decode cX10_feast 46 = .ok (.ifCond .eq 13, 3) := by decide +kernel
theorem dX10_feast_49 : decode cX10_feast 49 = .ok (.iload_n 2, 1) := by decide +kernel
theorem dX10_feast_50 : decode cX10_feast 50 = .ok (.iload 4, 2) := by decide +kernel
theorem dX10_feast_52 : decode cX10_feast 52 = .ok (.ishr, 1) := by decide +kernel
theorem dX10_feast_53 : decode cX10_feast 53 = .ok (.iconst 1, 1) := by decide +kernel
theorem dX10_feast_54 : decode cX10_feast 54 = .ok (.iand, 1) := by decide +kernel
theorem dX10_feast_55 : decode cX10_feast 55 = .ok (.iconst 1, 1) := by decide +kernel
theorem dX10_feast_56 : decode cX10_feast 56 = .ok (.if_icmp .ne 5, 3) := by decide +kernel
theorem dX10_feast_59 : decode cX10_feast 59 = .ok (.iconst (-1), 1) := by decide +kernel
theorem dX10_feast_60 : decode cX10_feast 60 = .ok (.ireturn, 1) := by decide +kernel
theorem dX10_feast_61 : decode cX10_feast 61 = .ok (.iload_n 2, 1) := by decide +kernel
theorem dX10_feast_62 : decode cX10_feast 62 = .ok (.iconst 1, 1) := by decide +kernel
theorem dX10_feast_63 : decode cX10_feast 63 = .ok (.iload 4, 2) := by decide +kernel
theorem dX10_feast_65 : decode cX10_feast 65 = .ok (.ishl, 1) := by decide +kernel
theorem dX10_feast_66 : decode cX10_feast 66 = .ok (.ior, 1) := by decide +kernel
theorem dX10_feast_67 : decode cX10_feast 67 = .ok (.istore_n 2, 1) := by decide +kernel
theorem dX10_feast_68 : decode cX10_feast 68 = .ok (.iinc 3 1, 3) := by decide +kernel
theorem dX10_feast_71 : decode cX10_feast 71 = .ok (.goto (-47), 3) := by decide +kernel
theorem dX10_feast_74 : decode cX10_feast 74 = .ok (.iconst 0, 1) := by decide +kernel
theorem dX10_feast_75 : decode cX10_feast 75 = .ok (.istore_n 3, 1) := by decide +kernel
theorem dX10_feast_76 : decode cX10_feast 76 = .ok (.iload_n 3, 1) := by decide +kernel
theorem dX10_feast_77 : decode cX10_feast 77 = .ok (.iload_n 1, 1) := by decide +kernel
theorem dX10_feast_78 : decode cX10_feast 78 = .ok (.if_icmp .ge 24, 3) := by decide +kernel
theorem dX10_feast_81 : decode cX10_feast 81 = .ok (.aload_n 0, 1) := by decide +kernel
theorem dX10_feast_82 : decode cX10_feast 82 = .ok (.getfield 256, 3) := by decide +kernel
theorem dX10_feast_85 : decode cX10_feast 85 = .ok (.iload_n 3, 1) := by decide +kernel
theorem dX10_feast_86 : decode cX10_feast 86 = .ok (.aload_n 0, 1) := by decide +kernel
theorem dX10_feast_87 : decode cX10_feast 87 = .ok (.getfield 16, 3) := by decide +kernel
theorem dX10_feast_90 : decode cX10_feast 90 = .ok (.iload_n 3, 1) := by decide +kernel
theorem dX10_feast_91 : decode cX10_feast 91 = .ok (.baload, 1) := by decide +kernel
theorem dX10_feast_92 : decode cX10_feast 92 = .ok (.bipush 48, 2) := by decide +kernel
theorem dX10_feast_94 : decode cX10_feast 94 = .ok (.isub, 1) := by decide +kernel
theorem dX10_feast_95 : decode cX10_feast 95 = .ok (.iastore, 1) := by decide +kernel
theorem dX10_feast_96 : decode cX10_feast 96 = .ok (.iinc 3 1, 3) := by decide +kernel
theorem dX10_feast_99 : decode cX10_feast 99 = .ok (.goto (-23), 3) := by decide +kernel
theorem dX10_feast_102 : decode cX10_feast 102 = .ok (.aload_n 0, 1) := by decide +kernel
theorem dX10_feast_103 : decode cX10_feast 103 = .ok (.iload_n 1, 1) := by decide +kernel
theorem dX10_feast_104 : decode cX10_feast 104 = .ok (.putfield 463, 3) := by decide +kernel
theorem dX10_feast_107 : decode cX10_feast 107 = .ok (.aload_n 0, 1) := by decide +kernel
theorem dX10_feast_108 : decode cX10_feast 108 = .ok (.iconst 1, 1) := by decide +kernel
theorem dX10_feast_109 : decode cX10_feast 109 = .ok (.putfield 294, 3) := by decide +kernel
theorem dX10_feast_112 : decode cX10_feast 112 = .ok (.iconst 1, 1) := by decide +kernel
theorem dX10_feast_113 : decode cX10_feast 113 = .ok (.istore_n 3, 1) := by decide +kernel
theorem dX10_feast_114 : decode cX10_feast 114 = .ok (.aload_n 0, 1) := by decide +kernel
theorem dX10_feast_115 : decode cX10_feast 115 = .ok (.iload_n 3, 1) := by decide +kernel
theorem dX10_feast_116 : decode cX10_feast 116 = .ok (.invokevirtual 466, 3) := by decide +kernel
theorem dX10_feast_119 : decode cX10_feast 119 = .ok (.ifCond .ne 9, 3) := by decide +kernel
theorem dX10_feast_122 : decode cX10_feast 122 = .ok (.iinc 3 1, 3) := by decide +kernel
theorem dX10_feast_125 : decode cX10_feast 125 = .ok (.goto (-11), 3) := by decide +kernel
theorem dX10_feast_128 : decode cX10_feast 128 = .ok (.iload_n 3, 1) := by decide +kernel
theorem dX10_feast_129 : decode cX10_feast 129 = .ok (.ireturn, 1) := by decide +kernel
theorem dX10_behindTurns_0 : decode cX10_behindTurns 0 = .ok (.iload_n 1, 1) := by decide +kernel
theorem dX10_behindTurns_1 : decode cX10_behindTurns 1 = .ok (.istore_n 3, 1) := by decide +kernel
theorem dX10_behindTurns_2 : decode cX10_behindTurns 2 = .ok (.iconst 0, 1) := by decide +kernel
theorem dX10_behindTurns_3 : decode cX10_behindTurns 3 = .ok (.istore 4, 2) := by decide +kernel
theorem dX10_behindTurns_5 : decode cX10_behindTurns 5 = .ok (.iload 4, 2) := by decide +kernel
theorem dX10_behindTurns_7 : decode cX10_behindTurns 7 = .ok (.iload_n 2, 1) := by decide +kernel
theorem dX10_behindTurns_8 : decode cX10_behindTurns 8 = .ok (.if_icmp .ge 16, 3) := by decide +kernel
theorem dX10_behindTurns_11 : decode cX10_behindTurns 11 = .ok (.aload_n 0, 1) := by decide +kernel
theorem dX10_behindTurns_12 : decode cX10_behindTurns 12 = .ok (.getfield 256, 3) := by decide +kernel
theorem dX10_behindTurns_15 : decode cX10_behindTurns 15 = .ok (.iload_n 3, 1) := by decide +kernel
theorem dX10_behindTurns_16 : decode cX10_behindTurns 16 = .ok (.iaload, 1) := by decide +kernel
theorem dX10_behindTurns_17 : decode cX10_behindTurns 17 = .ok (.istore_n 3, 1) := by decide +kernel
theorem dX10_behindTurns_18 : decode cX10_behindTurns 18 = .ok (.iinc 4 1, 3) := by decide +kernel
theorem dX10_behindTurns_21 : decode cX10_behindTurns 21 = .ok (.goto (-16), 3) := by decide +kernel
theorem dX10_behindTurns_24 : decode cX10_behindTurns 24 = .ok (.iload_n 3, 1) := by decide +kernel
theorem dX10_behindTurns_25 : decode cX10_behindTurns 25 = .ok (.ireturn, 1) := by decide +kernel
set_option maxRecDepth 20000 in
theorem dX10_allHome_0 : decode cX10_allHome 0 = .ok (.iconst 0, 1) := by decide +kernel
theorem dX10_allHome_1 : decode cX10_allHome 1 = .ok (.istore_n 2, 1) := by decide +kernel
theorem dX10_allHome_2 : decode cX10_allHome 2 = .ok (.iload_n 2, 1) := by decide +kernel
theorem dX10_allHome_3 : decode cX10_allHome 3 = .ok (.aload_n 0, 1) := by decide +kernel
theorem dX10_allHome_4 : decode cX10_allHome 4 = .ok (.getfield 463, 3) := by decide +kernel
theorem dX10_allHome_7 : decode cX10_allHome 7 = .ok (.if_icmp .ge 21, 3) := by decide +kernel
theorem dX10_allHome_10 : decode cX10_allHome 10 = .ok (.aload_n 0, 1) := by decide +kernel
theorem dX10_allHome_11 : decode cX10_allHome 11 = .ok (.iload_n 2, 1) := by decide +kernel
theorem dX10_allHome_12 : decode cX10_allHome 12 = .ok (.iload_n 1, 1) := by decide +kernel
theorem dX10_allHome_13 : decode cX10_allHome 13 = .ok (.invokevirtual 469, 3) := by decide +kernel
theorem dX10_allHome_16 : decode cX10_allHome 16 = .ok (.iload_n 2, 1) := by decide +kernel
theorem dX10_allHome_17 : decode cX10_allHome 17 = .ok (.if_icmp .eq 5, 3) := by decide +kernel
theorem dX10_allHome_20 : decode cX10_allHome 20 = .ok (.iconst 0, 1) := by decide +kernel
theorem dX10_allHome_21 : decode cX10_allHome 21 = .ok (.ireturn, 1) := by decide +kernel
theorem dX10_allHome_22 : decode cX10_allHome 22 = .ok (.iinc 2 1, 3) := by decide +kernel
theorem dX10_allHome_25 : decode cX10_allHome 25 = .ok (.goto (-23), 3) := by decide +kernel
theorem dX10_allHome_28 : decode cX10_allHome 28 = .ok (.iconst 1, 1) := by decide +kernel
theorem dX10_allHome_29 : decode cX10_allHome 29 = .ok (.ireturn, 1) := by decide +kernel
set_option maxRecDepth 20000 in
theorem dX10_turned_0 : decode cX10_turned 0 = .ok (.aload_n 0, 1) := by decide +kernel
theorem dX10_turned_1 : decode cX10_turned 1 = .ok (.iload_n 1, 1) := by decide +kernel
theorem dX10_turned_2 : decode cX10_turned 2 = .ok (.invokevirtual 309, 3) := by decide +kernel
theorem dX10_turned_5 : decode cX10_turned 5 = .ok (.ifCond .eq 15, 3) := by decide +kernel
theorem dX10_turned_8 : decode cX10_turned 8 = .ok (.iload_n 2, 1) := by decide +kernel
theorem dX10_turned_9 : decode cX10_turned 9 = .ok (.i2l, 1) := by decide +kernel
theorem dX10_turned_10 : decode cX10_turned 10 = .ok (.lconst 0, 1) := by decide +kernel
theorem dX10_turned_11 : decode cX10_turned 11 = .ok (.ldc2_w 472, 3) := by decide +kernel
theorem dX10_turned_14 : decode cX10_turned 14 = .ok (.invokestatic 52, 3) := by decide +kernel
theorem dX10_turned_17 : decode cX10_turned 17 = .ok (.ifCond .ne 8, 3) := by decide +kernel
theorem dX10_turned_20 : decode cX10_turned 20 = .ok (.bipush (-2), 2) := by decide +kernel
theorem dX10_turned_22 : decode cX10_turned 22 = .ok (.goto 20, 3) := by decide +kernel
theorem dX10_turned_25 : decode cX10_turned 25 = .ok (.aload_n 0, 1) := by decide +kernel
theorem dX10_turned_26 : decode cX10_turned 26 = .ok (.getfield 294, 3) := by decide +kernel
theorem dX10_turned_29 : decode cX10_turned 29 = .ok (.ifCond .eq 12, 3) := by decide +kernel
theorem dX10_turned_32 : decode cX10_turned 32 = .ok (.aload_n 0, 1) := by decide +kernel
theorem dX10_turned_33 : decode cX10_turned 33 = .ok (.iload_n 1, 1) := by decide +kernel
theorem dX10_turned_34 : decode cX10_turned 34 = .ok (.iload_n 2, 1) := by decide +kernel
theorem dX10_turned_35 : decode cX10_turned 35 = .ok (.invokevirtual 469, 3) := by decide +kernel
theorem dX10_turned_38 : decode cX10_turned 38 = .ok (.goto 4, 3) := by decide +kernel
theorem dX10_turned_41 : decode cX10_turned 41 = .ok (.iconst (-1), 1) := by decide +kernel
theorem dX10_turned_42 : decode cX10_turned 42 = .ok (.ireturn, 1) := by decide +kernel
set_option maxRecDepth 20000 in
theorem dX10_whom_0 : decode cX10_whom 0 = .ok (.aload_n 0, 1) := by decide +kernel
theorem dX10_whom_1 : decode cX10_whom 1 = .ok (.iload_n 1, 1) := by decide +kernel
theorem dX10_whom_2 : decode cX10_whom 2 = .ok (.invokevirtual 309, 3) := by decide +kernel
theorem dX10_whom_5 : decode cX10_whom 5 = .ok (.ifCond .ne 6, 3) := by decide +kernel
theorem dX10_whom_8 : decode cX10_whom 8 = .ok (.bipush (-2), 2) := by decide +kernel
theorem dX10_whom_10 : decode cX10_whom 10 = .ok (.ireturn, 1) := by decide +kernel
theorem dX10_whom_11 : decode cX10_whom 11 = .ok (.iconst 0, 1) := by decide +kernel
theorem dX10_whom_12 : decode cX10_whom 12 = .ok (.istore_n 2, 1) := by decide +kernel
theorem dX10_whom_13 : decode cX10_whom 13 = .ok (.ldc_w 395, 3) := by decide +kernel
theorem dX10_whom_16 : decode cX10_whom 16 = .ok (.istore_n 3, 1) := by decide +kernel
theorem dX10_whom_17 : decode cX10_whom 17 = .ok (.iconst 0, 1) := by decide +kernel
theorem dX10_whom_18 : decode cX10_whom 18 = .ok (.istore 4, 2) := by decide +kernel
theorem dX10_whom_20 : decode cX10_whom 20 = .ok (.iload 4, 2) := by decide +kernel
theorem dX10_whom_22 : decode cX10_whom 22 = .ok (.iconst 1, 1) := by decide +kernel
theorem dX10_whom_23 : decode cX10_whom 23 = .ok (.aload_n 0, 1) := by decide +kernel
theorem dX10_whom_24 : decode cX10_whom 24 = .ok (.getfield 285, 3) := by decide +kernel
theorem dX10_whom_27 : decode cX10_whom 27 = .ok (.ishl, 1) := by decide +kernel
theorem dX10_whom_28 : decode cX10_whom 28 = .ok (.if_icmp .ge 59, 3) := by decide +kernel
theorem dX10_whom_31 : decode cX10_whom 31 = .ok (.iload 4, 2) := by decide +kernel
theorem dX10_whom_33 : decode cX10_whom 33 = .ok (.iload_n 1, 1) := by decide +kernel
theorem dX10_whom_34 : decode cX10_whom 34 = .ok (.ishr, 1) := by decide +kernel
theorem dX10_whom_35 : decode cX10_whom 35 = .ok (.iconst 1, 1) := by decide +kernel
theorem dX10_whom_36 : decode cX10_whom 36 = .ok (.iand, 1) := by decide +kernel
theorem dX10_whom_37 : decode cX10_whom 37 = .ok (.iconst 1, 1) := by decide +kernel
theorem dX10_whom_38 : decode cX10_whom 38 = .ok (.if_icmp .ne 6, 3) := by decide +kernel
theorem dX10_whom_41 : decode cX10_whom 41 = .ok (.goto 40, 3) := by decide +kernel
theorem dX10_whom_44 : decode cX10_whom 44 = .ok (.aload_n 0, 1) := by decide +kernel
theorem dX10_whom_45 : decode cX10_whom 45 = .ok (.invokevirtual 402, 3) := by decide +kernel
theorem dX10_whom_48 : decode cX10_whom 48 = .ok (.aload_n 0, 1) := by decide +kernel
theorem dX10_whom_49 : decode cX10_whom 49 = .ok (.getfield 222, 3) := by decide +kernel
theorem dX10_whom_52 : decode cX10_whom 52 = .ok (.bipush 30, 2) := by decide +kernel
theorem dX10_whom_54 : decode cX10_whom 54 = .ok (.iload_n 1, 1) := by decide +kernel
theorem dX10_whom_55 : decode cX10_whom 55 = .ok (.iadd, 1) := by decide +kernel
theorem dX10_whom_56 : decode cX10_whom 56 = .ok (.iload 4, 2) := by decide +kernel
theorem dX10_whom_58 : decode cX10_whom 58 = .ok (.iastore, 1) := by decide +kernel
theorem dX10_whom_59 : decode cX10_whom 59 = .ok (.aload_n 0, 1) := by decide +kernel
theorem dX10_whom_60 : decode cX10_whom 60 = .ok (.iload_n 1, 1) := by decide +kernel
theorem dX10_whom_61 : decode cX10_whom 61 = .ok (.invokevirtual 405, 3) := by decide +kernel
theorem dX10_whom_64 : decode cX10_whom 64 = .ok (.istore 5, 2) := by decide +kernel
theorem dX10_whom_66 : decode cX10_whom 66 = .ok (.iload 5, 2) := by decide +kernel
theorem dX10_whom_68 : decode cX10_whom 68 = .ok (.iload_n 3, 1) := by decide +kernel
theorem dX10_whom_69 : decode cX10_whom 69 = .ok (.if_icmp .gt 6, 3) := by decide +kernel
theorem dX10_whom_72 : decode cX10_whom 72 = .ok (.goto 9, 3) := by decide +kernel
theorem dX10_whom_75 : decode cX10_whom 75 = .ok (.iload 5, 2) := by decide +kernel
theorem dX10_whom_77 : decode cX10_whom 77 = .ok (.istore_n 3, 1) := by decide +kernel
theorem dX10_whom_78 : decode cX10_whom 78 = .ok (.iload 4, 2) := by decide +kernel
theorem dX10_whom_80 : decode cX10_whom 80 = .ok (.istore_n 2, 1) := by decide +kernel
theorem dX10_whom_81 : decode cX10_whom 81 = .ok (.iinc 4 1, 3) := by decide +kernel
theorem dX10_whom_84 : decode cX10_whom 84 = .ok (.goto (-64), 3) := by decide +kernel
theorem dX10_whom_87 : decode cX10_whom 87 = .ok (.iload_n 2, 1) := by decide +kernel
theorem dX10_whom_88 : decode cX10_whom 88 = .ok (.ireturn, 1) := by decide +kernel
set_option maxRecDepth 20000 in
theorem dX10_edge_0 : decode cX10_edge 0 = .ok (.aload_n 0, 1) := by decide +kernel
theorem dX10_edge_1 : decode cX10_edge 1 = .ok (.iload_n 1, 1) := by decide +kernel
theorem dX10_edge_2 : decode cX10_edge 2 = .ok (.invokevirtual 309, 3) := by decide +kernel
theorem dX10_edge_5 : decode cX10_edge 5 = .ok (.ifCond .eq 16, 3) := by decide +kernel
theorem dX10_edge_8 : decode cX10_edge 8 = .ok (.aload_n 0, 1) := by decide +kernel
theorem dX10_edge_9 : decode cX10_edge 9 = .ok (.iload_n 2, 1) := by decide +kernel
theorem dX10_edge_10 : decode cX10_edge 10 = .ok (.invokevirtual 309, 3) := by decide +kernel
theorem dX10_edge_13 : decode cX10_edge 13 = .ok (.ifCond .eq 8, 3) := by decide +kernel
theorem dX10_edge_16 : decode cX10_edge 16 = .ok (.iload_n 1, 1) := by decide +kernel
theorem dX10_edge_17 : decode cX10_edge 17 = .ok (.iload_n 2, 1) := by decide +kernel
theorem dX10_edge_18 : decode cX10_edge 18 = .ok (.if_icmp .ne 6, 3) := by decide +kernel
theorem dX10_edge_21 : decode cX10_edge 21 = .ok (.bipush (-2), 2) := by decide +kernel
theorem dX10_edge_23 : decode cX10_edge 23 = .ok (.ireturn, 1) := by decide +kernel
theorem dX10_edge_24 : decode cX10_edge 24 = .ok (.aload_n 0, 1) := by decide +kernel
theorem dX10_edge_25 : decode cX10_edge 25 = .ok (.getfield 212, 3) := by decide +kernel
theorem dX10_edge_28 : decode cX10_edge 28 = .ok (.iload_n 1, 1) := by decide +kernel
theorem dX10_edge_29 : decode cX10_edge 29 = .ok (.iaload, 1) := by decide +kernel
theorem dX10_edge_30 : decode cX10_edge 30 = .ok (.iconst (-1), 1) := by decide +kernel
theorem dX10_edge_31 : decode cX10_edge 31 = .ok (.if_icmp .ne 6, 3) := by decide +kernel
theorem dX10_edge_34 : decode cX10_edge 34 = .ok (.bipush (-4), 2) := by decide +kernel
theorem dX10_edge_36 : decode cX10_edge 36 = .ok (.ireturn, 1) := by decide +kernel
theorem dX10_edge_37 : decode cX10_edge 37 = .ok (.iconst (-1), 1) := by decide +kernel
theorem dX10_edge_38 : decode cX10_edge 38 = .ok (.istore_n 3, 1) := by decide +kernel
theorem dX10_edge_39 : decode cX10_edge 39 = .ok (.aload_n 0, 1) := by decide +kernel
theorem dX10_edge_40 : decode cX10_edge 40 = .ok (.aload_n 0, 1) := by decide +kernel
theorem dX10_edge_41 : decode cX10_edge 41 = .ok (.getfield 212, 3) := by decide +kernel
theorem dX10_edge_44 : decode cX10_edge 44 = .ok (.iload_n 1, 1) := by decide +kernel
theorem dX10_edge_45 : decode cX10_edge 45 = .ok (.iaload, 1) := by decide +kernel
theorem dX10_edge_46 : decode cX10_edge 46 = .ok (.putfield 233, 3) := by decide +kernel
theorem dX10_edge_49 : decode cX10_edge 49 = .ok (.aload_n 0, 1) := by decide +kernel
theorem dX10_edge_50 : decode cX10_edge 50 = .ok (.iconst 0, 1) := by decide +kernel
theorem dX10_edge_51 : decode cX10_edge 51 = .ok (.putfield 230, 3) := by decide +kernel
theorem dX10_edge_54 : decode cX10_edge 54 = .ok (.aload_n 0, 1) := by decide +kernel
theorem dX10_edge_55 : decode cX10_edge 55 = .ok (.getfield 230, 3) := by decide +kernel
theorem dX10_edge_58 : decode cX10_edge 58 = .ok (.bipush 20, 2) := by decide +kernel
theorem dX10_edge_60 : decode cX10_edge 60 = .ok (.if_icmp .gt 83, 3) := by decide +kernel
theorem dX10_edge_63 : decode cX10_edge 63 = .ok (.iload_n 3, 1) := by decide +kernel
theorem dX10_edge_64 : decode cX10_edge 64 = .ok (.iconst (-1), 1) := by decide +kernel
theorem dX10_edge_65 : decode cX10_edge 65 = .ok (.if_icmp .ne 78, 3) := by decide +kernel
theorem dX10_edge_68 : decode cX10_edge 68 = .ok (.aload_n 0, 1) := by decide +kernel
theorem dX10_edge_69 : decode cX10_edge 69 = .ok (.invokevirtual 402, 3) := by decide +kernel
theorem dX10_edge_72 : decode cX10_edge 72 = .ok (.aload_n 0, 1) := by decide +kernel
theorem dX10_edge_73 : decode cX10_edge 73 = .ok (.getfield 222, 3) := by decide +kernel
theorem dX10_edge_76 : decode cX10_edge 76 = .ok (.bipush 30, 2) := by decide +kernel
theorem dX10_edge_78 : decode cX10_edge 78 = .ok (.iload_n 1, 1) := by decide +kernel
theorem dX10_edge_79 : decode cX10_edge 79 = .ok (.iadd, 1) := by decide +kernel
theorem dX10_edge_80 : decode cX10_edge 80 = .ok (.dup2, 1) := by decide +kernel
theorem dX10_edge_81 : decode cX10_edge 81 = .ok (.iaload, 1) := by decide +kernel
theorem dX10_edge_82 : decode cX10_edge 82 = .ok (.iconst 1, 1) := by decide +kernel
theorem dX10_edge_83 : decode cX10_edge 83 = .ok (.iload_n 2, 1) := by decide +kernel
theorem dX10_edge_84 : decode cX10_edge 84 = .ok (.ishl, 1) := by decide +kernel
theorem dX10_edge_85 : decode cX10_edge 85 = .ok (.iconst (-1), 1) := by decide +kernel
theorem dX10_edge_86 : decode cX10_edge 86 = .ok (.ixor, 1) := by decide +kernel
theorem dX10_edge_87 : decode cX10_edge 87 = .ok (.iand, 1) := by decide +kernel
theorem dX10_edge_88 : decode cX10_edge 88 = .ok (.iastore, 1) := by decide +kernel
theorem dX10_edge_89 : decode cX10_edge 89 = .ok (.aload_n 0, 1) := by decide +kernel
theorem dX10_edge_90 : decode cX10_edge 90 = .ok (.iload_n 1, 1) := by decide +kernel
theorem dX10_edge_91 : decode cX10_edge 91 = .ok (.invokevirtual 405, 3) := by decide +kernel
theorem dX10_edge_94 : decode cX10_edge 94 = .ok (.istore 4, 2) := by decide +kernel
theorem dX10_edge_96 : decode cX10_edge 96 = .ok (.aload_n 0, 1) := by decide +kernel
theorem dX10_edge_97 : decode cX10_edge 97 = .ok (.invokevirtual 402, 3) := by decide +kernel
theorem dX10_edge_100 : decode cX10_edge 100 = .ok (.aload_n 0, 1) := by decide +kernel
theorem dX10_edge_101 : decode cX10_edge 101 = .ok (.getfield 222, 3) := by decide +kernel
theorem dX10_edge_104 : decode cX10_edge 104 = .ok (.bipush 30, 2) := by decide +kernel
theorem dX10_edge_106 : decode cX10_edge 106 = .ok (.iload_n 1, 1) := by decide +kernel
theorem dX10_edge_107 : decode cX10_edge 107 = .ok (.iadd, 1) := by decide +kernel
theorem dX10_edge_108 : decode cX10_edge 108 = .ok (.dup2, 1) := by decide +kernel
theorem dX10_edge_109 : decode cX10_edge 109 = .ok (.iaload, 1) := by decide +kernel
theorem dX10_edge_110 : decode cX10_edge 110 = .ok (.iconst 1, 1) := by decide +kernel
theorem dX10_edge_111 : decode cX10_edge 111 = .ok (.iload_n 2, 1) := by decide +kernel
theorem dX10_edge_112 : decode cX10_edge 112 = .ok (.ishl, 1) := by decide +kernel
theorem dX10_edge_113 : decode cX10_edge 113 = .ok (.ior, 1) := by decide +kernel
theorem dX10_edge_114 : decode cX10_edge 114 = .ok (.iastore, 1) := by decide +kernel
theorem dX10_edge_115 : decode cX10_edge 115 = .ok (.iload 4, 2) := by decide +kernel
theorem dX10_edge_117 : decode cX10_edge 117 = .ok (.aload_n 0, 1) := by decide +kernel
theorem dX10_edge_118 : decode cX10_edge 118 = .ok (.iload_n 1, 1) := by decide +kernel
theorem dX10_edge_119 : decode cX10_edge 119 = .ok (.invokevirtual 405, 3) := by decide +kernel
theorem dX10_edge_122 : decode cX10_edge 122 = .ok (.if_icmp .le 8, 3) := by decide +kernel
theorem dX10_edge_125 : decode cX10_edge 125 = .ok (.aload_n 0, 1) := by decide +kernel
theorem dX10_edge_126 : decode cX10_edge 126 = .ok (.getfield 230, 3) := by decide +kernel
theorem dX10_edge_129 : decode cX10_edge 129 = .ok (.istore_n 3, 1) := by decide +kernel
theorem dX10_edge_130 : decode cX10_edge 130 = .ok (.aload_n 0, 1) := by decide +kernel
theorem dX10_edge_131 : decode cX10_edge 131 = .ok (.dup, 1) := by decide +kernel
theorem dX10_edge_132 : decode cX10_edge 132 = .ok (.getfield 230, 3) := by decide +kernel
theorem dX10_edge_135 : decode cX10_edge 135 = .ok (.iconst 1, 1) := by decide +kernel
theorem dX10_edge_136 : decode cX10_edge 136 = .ok (.iadd, 1) := by decide +kernel
theorem dX10_edge_137 : decode cX10_edge 137 = .ok (.putfield 230, 3) := by decide +kernel
theorem dX10_edge_140 : decode cX10_edge 140 = .ok (.goto (-86), 3) := by decide +kernel
theorem dX10_edge_143 : decode cX10_edge 143 = .ok (.aload_n 0, 1) := by decide +kernel
theorem dX10_edge_144 : decode cX10_edge 144 = .ok (.iconst (-1), 1) := by decide +kernel
theorem dX10_edge_145 : decode cX10_edge 145 = .ok (.putfield 233, 3) := by decide +kernel
theorem dX10_edge_148 : decode cX10_edge 148 = .ok (.iload_n 3, 1) := by decide +kernel
theorem dX10_edge_149 : decode cX10_edge 149 = .ok (.ireturn, 1) := by decide +kernel
set_option maxRecDepth 20000 in
theorem dX10_show_0 : decode cX10_show 0 = .ok (.aload_n 0, 1) := by decide +kernel
theorem dX10_show_1 : decode cX10_show 1 = .ok (.iload_n 1, 1) := by decide +kernel
theorem dX10_show_2 : decode cX10_show 2 = .ok (.invokevirtual 309, 3) := by decide +kernel
theorem dX10_show_5 : decode cX10_show 5 = .ok (.ifCond .ne 6, 3) := by decide +kernel
theorem dX10_show_8 : decode cX10_show 8 = .ok (.bipush (-2), 2) := by decide +kernel
theorem dX10_show_10 : decode cX10_show 10 = .ok (.ireturn, 1) := by decide +kernel
theorem dX10_show_11 : decode cX10_show 11 = .ok (.iconst 1, 1) := by decide +kernel
theorem dX10_show_12 : decode cX10_show 12 = .ok (.istore_n 2, 1) := by decide +kernel
theorem dX10_show_13 : decode cX10_show 13 = .ok (.ldc_w 395, 3) := by decide +kernel
theorem dX10_show_16 : decode cX10_show 16 = .ok (.istore_n 3, 1) := by decide +kernel
theorem dX10_show_17 : decode cX10_show 17 = .ok (.aload_n 0, 1) := by decide +kernel
theorem dX10_show_18 : decode cX10_show 18 = .ok (.iconst 1, 1) := by decide +kernel
theorem dX10_show_19 : decode cX10_show 19 = .ok (.putfield 228, 3) := by decide +kernel
theorem dX10_show_22 : decode cX10_show 22 = .ok (.aload_n 0, 1) := by decide +kernel
theorem dX10_show_23 : decode cX10_show 23 = .ok (.getfield 228, 3) := by decide +kernel
theorem dX10_show_26 : decode cX10_show 26 = .ok (.iconst 4, 1) := by decide +kernel
theorem dX10_show_27 : decode cX10_show 27 = .ok (.if_icmp .gt 40, 3) := by decide +kernel
theorem dX10_show_30 : decode cX10_show 30 = .ok (.aload_n 0, 1) := by decide +kernel
theorem dX10_show_31 : decode cX10_show 31 = .ok (.iload_n 1, 1) := by decide +kernel
theorem dX10_show_32 : decode cX10_show 32 = .ok (.invokevirtual 408, 3) := by decide +kernel
theorem dX10_show_35 : decode cX10_show 35 = .ok (.istore 4, 2) := by decide +kernel
theorem dX10_show_37 : decode cX10_show 37 = .ok (.iload 4, 2) := by decide +kernel
theorem dX10_show_39 : decode cX10_show 39 = .ok (.iload_n 3, 1) := by decide +kernel
theorem dX10_show_40 : decode cX10_show 40 = .ok (.if_icmp .gt 6, 3) := by decide +kernel
theorem dX10_show_43 : decode cX10_show 43 = .ok (.goto 11, 3) := by decide +kernel
theorem dX10_show_46 : decode cX10_show 46 = .ok (.iload 4, 2) := by decide +kernel
theorem dX10_show_48 : decode cX10_show 48 = .ok (.istore_n 3, 1) := by decide +kernel
theorem dX10_show_49 : decode cX10_show 49 = .ok (.aload_n 0, 1) := by decide +kernel
theorem dX10_show_50 : decode cX10_show 50 = .ok (.getfield 228, 3) := by decide +kernel
theorem dX10_show_53 : decode cX10_show 53 = .ok (.istore_n 2, 1) := by decide +kernel
theorem dX10_show_54 : decode cX10_show 54 = .ok (.aload_n 0, 1) := by decide +kernel
theorem dX10_show_55 : decode cX10_show 55 = .ok (.dup, 1) := by decide +kernel
theorem dX10_show_56 : decode cX10_show 56 = .ok (.getfield 228, 3) := by decide +kernel
theorem dX10_show_59 : decode cX10_show 59 = .ok (.iconst 1, 1) := by decide +kernel
theorem dX10_show_60 : decode cX10_show 60 = .ok (.iadd, 1) := by decide +kernel
theorem dX10_show_61 : decode cX10_show 61 = .ok (.putfield 228, 3) := by decide +kernel
theorem dX10_show_64 : decode cX10_show 64 = .ok (.goto (-42), 3) := by decide +kernel
theorem dX10_show_67 : decode cX10_show 67 = .ok (.aload_n 0, 1) := by decide +kernel
theorem dX10_show_68 : decode cX10_show 68 = .ok (.iconst (-1), 1) := by decide +kernel
theorem dX10_show_69 : decode cX10_show 69 = .ok (.putfield 228, 3) := by decide +kernel
theorem dX10_show_72 : decode cX10_show 72 = .ok (.iload_n 2, 1) := by decide +kernel
theorem dX10_show_73 : decode cX10_show 73 = .ok (.ireturn, 1) := by decide +kernel
set_option maxRecDepth 20000 in
theorem dX10_readBook_0 : decode cX10_readBook 0 = .ok (.aload_n 0, 1) := by decide +kernel
theorem dX10_readBook_1 : decode cX10_readBook 1 = .ok (.getfield 3, 3) := by decide +kernel
theorem dX10_readBook_4 : decode cX10_readBook 4 = .ok (.istore_n 1, 1) := by decide +kernel
theorem dX10_readBook_5 : decode cX10_readBook 5 = .ok (.aload_n 0, 1) := by decide +kernel
theorem dX10_readBook_6 : decode cX10_readBook 6 = .ok (.getfield 10, 3) := by decide +kernel
theorem dX10_readBook_9 : decode cX10_readBook 9 = .ok (.istore_n 2, 1) := by decide +kernel
theorem dX10_readBook_10 : decode cX10_readBook 10 = .ok (.aload_n 0, 1) := by decide +kernel
theorem dX10_readBook_11 : decode cX10_readBook 11 = .ok (.invokevirtual 276, 3) := by decide +kernel
theorem dX10_readBook_14 : decode cX10_readBook 14 = .ok (.aload_n 0, 1) := by decide +kernel
theorem dX10_readBook_15 : decode cX10_readBook 15 = .ok (.iconst 0, 1) := by decide +kernel
theorem dX10_readBook_16 : decode cX10_readBook 16 = .ok (.putfield 474, 3) := by decide +kernel
theorem dX10_readBook_19 : decode cX10_readBook 19 = .ok (.iconst 1, 1) := by decide +kernel
theorem dX10_readBook_20 : decode cX10_readBook 20 = .ok (.istore_n 3, 1) := by decide +kernel
theorem dX10_readBook_21 : decode cX10_readBook 21 = .ok (.aload_n 0, 1) := by decide +kernel
theorem dX10_readBook_22 : decode cX10_readBook 22 = .ok (.getfield 27, 3) := by decide +kernel
theorem dX10_readBook_25 : decode cX10_readBook 25 = .ok (.ifCond .eq 134, 3) := by decide +kernel
theorem dX10_readBook_28 : decode cX10_readBook 28 = .ok (.iload_n 3, 1) := by decide +kernel
theorem dX10_readBook_29 : decode cX10_readBook 29 = .ok (.ifCond .eq 130, 3) := by decide +kernel
theorem dX10_readBook_32 : decode cX10_readBook 32 = .ok (.aload_n 0, 1) := by decide +kernel
theorem dX10_readBook_33 : decode cX10_readBook 33 = .ok (.iconst 0, 1) := by decide +kernel
theorem dX10_readBook_34 : decode cX10_readBook 34 = .ok (.bipush 99, 2) := by decide +kernel
theorem dX10_readBook_36 : decode cX10_readBook 36 = .ok (.invokevirtual 85, 3) := by decide +kernel
theorem dX10_readBook_39 : decode cX10_readBook 39 = .ok (.istore_n 3, 1) := by decide +kernel
theorem dX10_readBook_40 : decode cX10_readBook 40 = .ok (.iload_n 3, 1) := by decide +kernel
theorem dX10_readBook_41 : decode cX10_readBook 41 = .ok (.ifCond .eq 16, 3) := by decide +kernel
theorem dX10_readBook_44 : decode cX10_readBook 44 = .ok (.aload_n 0, 1) := by decide +kernel
theorem dX10_readBook_45 : decode cX10_readBook 45 = .ok (.getfield 259, 3) := by decide +kernel
theorem dX10_readBook_48 : decode cX10_readBook 48 = .ok (.aload_n 0, 1) := by decide +kernel
theorem dX10_readBook_49 : decode cX10_readBook 49 = .ok (.getfield 474, 3) := by decide +kernel
theorem dX10_readBook_52 : decode cX10_readBook 52 = .ok (.aload_n 0, 1) := by decide +kernel
theorem dX10_readBook_53 : decode cX10_readBook 53 = .ok (.getfield 56, 3) := by decide +kernel
theorem dX10_readBook_56 : decode cX10_readBook 56 = .ok (.iastore, 1) := by decide +kernel
theorem dX10_readBook_57 : decode cX10_readBook 57 = .ok (.iload_n 3, 1) := by decide +kernel
theorem dX10_readBook_58 : decode cX10_readBook 58 = .ok (.ifCond .eq 16, 3) := by decide +kernel
theorem dX10_readBook_61 : decode cX10_readBook 61 = .ok (.aload_n 0, 1) := by decide +kernel
theorem dX10_readBook_62 : decode cX10_readBook 62 = .ok (.iconst 0, 1) := by decide +kernel
theorem dX10_readBook_63 : decode cX10_readBook 63 = .ok (.iconst 4, 1) := by decide +kernel
theorem dX10_readBook_64 : decode cX10_readBook 64 = .ok (.invokevirtual 85, 3) := by decide +kernel
theorem dX10_readBook_67 : decode cX10_readBook 67 = .ok (.ifCond .eq 7, 3) := by decide +kernel
theorem dX10_readBook_70 : decode cX10_readBook 70 = .ok (.iconst 1, 1) := by decide +kernel
theorem dX10_readBook_71 : decode cX10_readBook 71 = .ok (.goto 4, 3) := by decide +kernel
theorem dX10_readBook_74 : decode cX10_readBook 74 = .ok (.iconst 0, 1) := by decide +kernel
theorem dX10_readBook_75 : decode cX10_readBook 75 = .ok (.istore_n 3, 1) := by decide +kernel
theorem dX10_readBook_76 : decode cX10_readBook 76 = .ok (.iload_n 3, 1) := by decide +kernel
theorem dX10_readBook_77 : decode cX10_readBook 77 = .ok (.ifCond .eq 16, 3) := by decide +kernel
theorem dX10_readBook_80 : decode cX10_readBook 80 = .ok (.aload_n 0, 1) := by decide +kernel
theorem dX10_readBook_81 : decode cX10_readBook 81 = .ok (.getfield 262, 3) := by decide +kernel
theorem dX10_readBook_84 : decode cX10_readBook 84 = .ok (.aload_n 0, 1) := by decide +kernel
theorem dX10_readBook_85 : decode cX10_readBook 85 = .ok (.getfield 474, 3) := by decide +kernel
theorem dX10_readBook_88 : decode cX10_readBook 88 = .ok (.aload_n 0, 1) := by decide +kernel
theorem dX10_readBook_89 : decode cX10_readBook 89 = .ok (.getfield 56, 3) := by decide +kernel
theorem dX10_readBook_92 : decode cX10_readBook 92 = .ok (.iastore, 1) := by decide +kernel
theorem dX10_readBook_93 : decode cX10_readBook 93 = .ok (.iload_n 3, 1) := by decide +kernel
theorem dX10_readBook_94 : decode cX10_readBook 94 = .ok (.ifCond .eq 16, 3) := by decide +kernel
theorem dX10_readBook_97 : decode cX10_readBook 97 = .ok (.aload_n 0, 1) := by decide +kernel
theorem dX10_readBook_98 : decode cX10_readBook 98 = .ok (.iconst 0, 1) := by decide +kernel
theorem dX10_readBook_99 : decode cX10_readBook 99 = .ok (.iconst 5, 1) := by decide +kernel
theorem dX10_readBook_100 : decode cX10_readBook 100 = .ok (.invokevirtual 85, 3) := by decide +kernel
theorem dX10_readBook_103 : decode cX10_readBook 103 = .ok (.ifCond .eq 7, 3) := by decide +kernel
theorem dX10_readBook_106 : decode cX10_readBook 106 = .ok (.iconst 1, 1) := by decide +kernel
theorem dX10_readBook_107 : decode cX10_readBook 107 = .ok (.goto 4, 3) := by decide +kernel
theorem dX10_readBook_110 : decode cX10_readBook 110 = .ok (.iconst 0, 1) := by decide +kernel
theorem dX10_readBook_111 : decode cX10_readBook 111 = .ok (.istore_n 3, 1) := by decide +kernel
theorem dX10_readBook_112 : decode cX10_readBook 112 = .ok (.iload_n 3, 1) := by decide +kernel
theorem dX10_readBook_113 : decode cX10_readBook 113 = .ok (.ifCond .eq 16, 3) := by decide +kernel
theorem dX10_readBook_116 : decode cX10_readBook 116 = .ok (.aload_n 0, 1) := by decide +kernel
theorem dX10_readBook_117 : decode cX10_readBook 117 = .ok (.getfield 265, 3) := by decide +kernel
theorem dX10_readBook_120 : decode cX10_readBook 120 = .ok (.aload_n 0, 1) := by decide +kernel
theorem dX10_readBook_121 : decode cX10_readBook 121 = .ok (.getfield 474, 3) := by decide +kernel
theorem dX10_readBook_124 : decode cX10_readBook 124 = .ok (.aload_n 0, 1) := by decide +kernel
theorem dX10_readBook_125 : decode cX10_readBook 125 = .ok (.getfield 56, 3) := by decide +kernel
theorem dX10_readBook_128 : decode cX10_readBook 128 = .ok (.iastore, 1) := by decide +kernel
theorem dX10_readBook_129 : decode cX10_readBook 129 = .ok (.iload_n 3, 1) := by decide +kernel
theorem dX10_readBook_130 : decode cX10_readBook 130 = .ok (.ifCond .eq 14, 3) := by decide +kernel
theorem dX10_readBook_133 : decode cX10_readBook 133 = .ok (.aload_n 0, 1) := by decide +kernel
theorem dX10_readBook_134 : decode cX10_readBook 134 = .ok (.invokevirtual 189, 3) := by decide +kernel
theorem dX10_readBook_137 : decode cX10_readBook 137 = .ok (.ifCond .eq 7, 3) := by decide +kernel
theorem dX10_readBook_140 : decode cX10_readBook 140 = .ok (.iconst 1, 1) := by decide +kernel
theorem dX10_readBook_141 : decode cX10_readBook 141 = .ok (.goto 4, 3) := by decide +kernel
theorem dX10_readBook_144 : decode cX10_readBook 144 = .ok (.iconst 0, 1) := by decide +kernel
theorem dX10_readBook_145 : decode cX10_readBook 145 = .ok (.istore_n 3, 1) := by decide +kernel
theorem dX10_readBook_146 : decode cX10_readBook 146 = .ok (.aload_n 0, 1) := by decide +kernel
theorem dX10_readBook_147 : decode cX10_readBook 147 = .ok (.dup, 1) := by decide +kernel
theorem dX10_readBook_148 : decode cX10_readBook 148 = .ok (.getfield 474, 3) := by decide +kernel
theorem dX10_readBook_151 : decode cX10_readBook 151 = .ok (.iconst 1, 1) := by decide +kernel
theorem dX10_readBook_152 : decode cX10_readBook 152 = .ok (.iadd, 1) := by decide +kernel
theorem dX10_readBook_153 : decode cX10_readBook 153 = .ok (.putfield 474, 3) := by decide +kernel
theorem dX10_readBook_156 : decode cX10_readBook 156 = .ok (.goto (-135), 3) := by decide +kernel
theorem dX10_readBook_159 : decode cX10_readBook 159 = .ok (.aload_n 0, 1) := by decide +kernel
theorem dX10_readBook_160 : decode cX10_readBook 160 = .ok (.iload_n 1, 1) := by decide +kernel
theorem dX10_readBook_161 : decode cX10_readBook 161 = .ok (.putfield 3, 3) := by decide +kernel
theorem dX10_readBook_164 : decode cX10_readBook 164 = .ok (.aload_n 0, 1) := by decide +kernel
theorem dX10_readBook_165 : decode cX10_readBook 165 = .ok (.iload_n 2, 1) := by decide +kernel
theorem dX10_readBook_166 : decode cX10_readBook 166 = .ok (.putfield 10, 3) := by decide +kernel
theorem dX10_readBook_169 : decode cX10_readBook 169 = .ok (.iload_n 3, 1) := by decide +kernel
theorem dX10_readBook_170 : decode cX10_readBook 170 = .ok (.ireturn, 1) := by decide +kernel
set_option maxRecDepth 20000 in
theorem dX10_isInOrder_0 : decode cX10_isInOrder 0 = .ok (.aload_n 0, 1) := by decide +kernel
theorem dX10_isInOrder_1 : decode cX10_isInOrder 1 = .ok (.aload_n 0, 1) := by decide +kernel
theorem dX10_isInOrder_2 : decode cX10_isInOrder 2 = .ok (.getfield 262, 3) := by decide +kernel
theorem dX10_isInOrder_5 : decode cX10_isInOrder 5 = .ok (.iload_n 1, 1) := by decide +kernel
theorem dX10_isInOrder_6 : decode cX10_isInOrder 6 = .ok (.iaload, 1) := by decide +kernel
theorem dX10_isInOrder_7 : decode cX10_isInOrder 7 = .ok (.invokevirtual 309, 3) := by decide +kernel
theorem dX10_isInOrder_10 : decode cX10_isInOrder 10 = .ok (.ifCond .eq 26, 3) := by decide +kernel
theorem dX10_isInOrder_13 : decode cX10_isInOrder 13 = .ok (.aload_n 0, 1) := by decide +kernel
theorem dX10_isInOrder_14 : decode cX10_isInOrder 14 = .ok (.getfield 265, 3) := by decide +kernel
theorem dX10_isInOrder_17 : decode cX10_isInOrder 17 = .ok (.iload_n 1, 1) := by decide +kernel
theorem dX10_isInOrder_18 : decode cX10_isInOrder 18 = .ok (.iaload, 1) := by decide +kernel
theorem dX10_isInOrder_19 : decode cX10_isInOrder 19 = .ok (.iconst 5, 1) := by decide +kernel
theorem dX10_isInOrder_20 : decode cX10_isInOrder 20 = .ok (.if_icmp .eq 18, 3) := by decide +kernel
theorem dX10_isInOrder_23 : decode cX10_isInOrder 23 = .ok (.aload_n 0, 1) := by decide +kernel
theorem dX10_isInOrder_24 : decode cX10_isInOrder 24 = .ok (.aload_n 0, 1) := by decide +kernel
theorem dX10_isInOrder_25 : decode cX10_isInOrder 25 = .ok (.getfield 265, 3) := by decide +kernel
theorem dX10_isInOrder_28 : decode cX10_isInOrder 28 = .ok (.iload_n 1, 1) := by decide +kernel
theorem dX10_isInOrder_29 : decode cX10_isInOrder 29 = .ok (.iaload, 1) := by decide +kernel
theorem dX10_isInOrder_30 : decode cX10_isInOrder 30 = .ok (.invokevirtual 371, 3) := by decide +kernel
theorem dX10_isInOrder_33 : decode cX10_isInOrder 33 = .ok (.ifCond .ne 5, 3) := by decide +kernel
theorem dX10_isInOrder_36 : decode cX10_isInOrder 36 = .ok (.iconst 0, 1) := by decide +kernel
theorem dX10_isInOrder_37 : decode cX10_isInOrder 37 = .ok (.ireturn, 1) := by decide +kernel
theorem dX10_isInOrder_38 : decode cX10_isInOrder 38 = .ok (.iload_n 1, 1) := by decide +kernel
theorem dX10_isInOrder_39 : decode cX10_isInOrder 39 = .ok (.ifCond .le 22, 3) := by decide +kernel
theorem dX10_isInOrder_42 : decode cX10_isInOrder 42 = .ok (.aload_n 0, 1) := by decide +kernel
theorem dX10_isInOrder_43 : decode cX10_isInOrder 43 = .ok (.getfield 259, 3) := by decide +kernel
theorem dX10_isInOrder_46 : decode cX10_isInOrder 46 = .ok (.iload_n 1, 1) := by decide +kernel
theorem dX10_isInOrder_47 : decode cX10_isInOrder 47 = .ok (.iaload, 1) := by decide +kernel
theorem dX10_isInOrder_48 : decode cX10_isInOrder 48 = .ok (.aload_n 0, 1) := by decide +kernel
theorem dX10_isInOrder_49 : decode cX10_isInOrder 49 = .ok (.getfield 259, 3) := by decide +kernel
theorem dX10_isInOrder_52 : decode cX10_isInOrder 52 = .ok (.iload_n 1, 1) := by decide +kernel
theorem dX10_isInOrder_53 : decode cX10_isInOrder 53 = .ok (.iconst 1, 1) := by decide +kernel
theorem dX10_isInOrder_54 : decode cX10_isInOrder 54 = .ok (.isub, 1) := by decide +kernel
theorem dX10_isInOrder_55 : decode cX10_isInOrder 55 = .ok (.iaload, 1) := by decide +kernel
theorem dX10_isInOrder_56 : decode cX10_isInOrder 56 = .ok (.if_icmp .ge 5, 3) := by decide +kernel
theorem dX10_isInOrder_59 : decode cX10_isInOrder 59 = .ok (.iconst 0, 1) := by decide +kernel
theorem dX10_isInOrder_60 : decode cX10_isInOrder 60 = .ok (.ireturn, 1) := by decide +kernel
theorem dX10_isInOrder_61 : decode cX10_isInOrder 61 = .ok (.iload_n 1, 1) := by decide +kernel
theorem dX10_isInOrder_62 : decode cX10_isInOrder 62 = .ok (.iconst 1, 1) := by decide +kernel
theorem dX10_isInOrder_63 : decode cX10_isInOrder 63 = .ok (.isub, 1) := by decide +kernel
theorem dX10_isInOrder_64 : decode cX10_isInOrder 64 = .ok (.istore_n 2, 1) := by decide +kernel
theorem dX10_isInOrder_65 : decode cX10_isInOrder 65 = .ok (.iload_n 2, 1) := by decide +kernel
theorem dX10_isInOrder_66 : decode cX10_isInOrder 66 = .ok (.ifCond .lt 41, 3) := by decide +kernel
theorem dX10_isInOrder_69 : decode cX10_isInOrder 69 = .ok (.aload_n 0, 1) := by decide +kernel
theorem dX10_isInOrder_70 : decode cX10_isInOrder 70 = .ok (.getfield 259, 3) := by decide +kernel
theorem dX10_isInOrder_73 : decode cX10_isInOrder 73 = .ok (.iload_n 2, 1) := by decide +kernel
theorem dX10_isInOrder_74 : decode cX10_isInOrder 74 = .ok (.iaload, 1) := by decide +kernel
theorem dX10_isInOrder_75 : decode cX10_isInOrder 75 = .ok (.aload_n 0, 1) := by decide +kernel
theorem dX10_isInOrder_76 : decode cX10_isInOrder 76 = .ok (.getfield 259, 3) := by decide +kernel
theorem dX10_isInOrder_79 : decode cX10_isInOrder 79 = .ok (.iload_n 1, 1) := by decide +kernel
theorem dX10_isInOrder_80 : decode cX10_isInOrder 80 = .ok (.iaload, 1) := by decide +kernel
theorem dX10_isInOrder_81 : decode cX10_isInOrder 81 = .ok (.if_icmp .ne 26, 3) := by decide +kernel
theorem dX10_isInOrder_84 : decode cX10_isInOrder 84 = .ok (.aload_n 0, 1) := by decide +kernel
theorem dX10_isInOrder_85 : decode cX10_isInOrder 85 = .ok (.getfield 262, 3) := by decide +kernel
theorem dX10_isInOrder_88 : decode cX10_isInOrder 88 = .ok (.iload_n 2, 1) := by decide +kernel
theorem dX10_isInOrder_89 : decode cX10_isInOrder 89 = .ok (.iaload, 1) := by decide +kernel
theorem dX10_isInOrder_90 : decode cX10_isInOrder 90 = .ok (.aload_n 0, 1) := by decide +kernel
theorem dX10_isInOrder_91 : decode cX10_isInOrder 91 = .ok (.getfield 262, 3) := by decide +kernel
theorem dX10_isInOrder_94 : decode cX10_isInOrder 94 = .ok (.iload_n 1, 1) := by decide +kernel
theorem dX10_isInOrder_95 : decode cX10_isInOrder 95 = .ok (.iaload, 1) := by decide +kernel
theorem dX10_isInOrder_96 : decode cX10_isInOrder 96 = .ok (.if_icmp .ne 5, 3) := by decide +kernel
theorem dX10_isInOrder_99 : decode cX10_isInOrder 99 = .ok (.iconst 0, 1) := by decide +kernel
theorem dX10_isInOrder_100 : decode cX10_isInOrder 100 = .ok (.ireturn, 1) := by decide +kernel
theorem dX10_isInOrder_101 : decode cX10_isInOrder 101 = .ok (.iinc 2 (-1), 3) := by decide +kernel
theorem dX10_isInOrder_104 : decode cX10_isInOrder 104 = .ok (.goto (-39), 3) := by decide +kernel
theorem dX10_isInOrder_107 : decode cX10_isInOrder 107 = .ok (.iconst 1, 1) := by decide +kernel
theorem dX10_isInOrder_108 : decode cX10_isInOrder 108 = .ok (.ireturn, 1) := by decide +kernel
set_option maxRecDepth 20000 in
theorem dX10_book_0 : decode cX10_book 0 = .ok (.aload_n 0, 1) := by decide +kernel
theorem dX10_book_1 : decode cX10_book 1 = .ok (.invokevirtual 477, 3) := by decide +kernel
theorem dX10_book_4 : decode cX10_book 4 = .ok (.ifCond .ne 7, 3) := by decide +kernel
theorem dX10_book_7 : decode cX10_book 7 = .ok (.sipush (-1000), 3) := by decide +kernel
theorem dX10_book_10 : decode cX10_book 10 = .ok (.ireturn, 1) := by decide +kernel
theorem dX10_book_11 : decode cX10_book 11 = .ok (.iconst 0, 1) := by decide +kernel
theorem dX10_book_12 : decode cX10_book 12 = .ok (.istore_n 1, 1) := by decide +kernel
theorem dX10_book_13 : decode cX10_book 13 = .ok (.iload_n 1, 1) := by decide +kernel
theorem dX10_book_14 : decode cX10_book 14 = .ok (.aload_n 0, 1) := by decide +kernel
theorem dX10_book_15 : decode cX10_book 15 = .ok (.getfield 474, 3) := by decide +kernel
theorem dX10_book_18 : decode cX10_book 18 = .ok (.if_icmp .ge 17, 3) := by decide +kernel
theorem dX10_book_21 : decode cX10_book 21 = .ok (.aload_n 0, 1) := by decide +kernel
theorem dX10_book_22 : decode cX10_book 22 = .ok (.iload_n 1, 1) := by decide +kernel
theorem dX10_book_23 : decode cX10_book 23 = .ok (.invokevirtual 480, 3) := by decide +kernel
theorem dX10_book_26 : decode cX10_book 26 = .ok (.ifCond .eq 9, 3) := by decide +kernel
theorem dX10_book_29 : decode cX10_book 29 = .ok (.iinc 1 1, 3) := by decide +kernel
theorem dX10_book_32 : decode cX10_book 32 = .ok (.goto (-19), 3) := by decide +kernel
theorem dX10_book_35 : decode cX10_book 35 = .ok (.aload_n 0, 1) := by decide +kernel
theorem dX10_book_36 : decode cX10_book 36 = .ok (.aload_n 0, 1) := by decide +kernel
theorem dX10_book_37 : decode cX10_book 37 = .ok (.getfield 222, 3) := by decide +kernel
theorem dX10_book_40 : decode cX10_book 40 = .ok (.invokevirtual 268, 3) := by decide +kernel
theorem dX10_book_43 : decode cX10_book 43 = .ok (.iconst 0, 1) := by decide +kernel
theorem dX10_book_44 : decode cX10_book 44 = .ok (.istore_n 2, 1) := by decide +kernel
theorem dX10_book_45 : decode cX10_book 45 = .ok (.iload_n 2, 1) := by decide +kernel
theorem dX10_book_46 : decode cX10_book 46 = .ok (.aload_n 0, 1) := by decide +kernel
theorem dX10_book_47 : decode cX10_book 47 = .ok (.getfield 285, 3) := by decide +kernel
theorem dX10_book_50 : decode cX10_book 50 = .ok (.if_icmp .ge 27, 3) := by decide +kernel
theorem dX10_book_53 : decode cX10_book 53 = .ok (.aload_n 0, 1) := by decide +kernel
theorem dX10_book_54 : decode cX10_book 54 = .ok (.getfield 222, 3) := by decide +kernel
theorem dX10_book_57 : decode cX10_book 57 = .ok (.bipush 30, 2) := by decide +kernel
theorem dX10_book_59 : decode cX10_book 59 = .ok (.iload_n 2, 1) := by decide +kernel
theorem dX10_book_60 : decode cX10_book 60 = .ok (.iadd, 1) := by decide +kernel
theorem dX10_book_61 : decode cX10_book 61 = .ok (.aload_n 0, 1) := by decide +kernel
theorem dX10_book_62 : decode cX10_book 62 = .ok (.getfield 219, 3) := by decide +kernel
theorem dX10_book_65 : decode cX10_book 65 = .ok (.bipush 30, 2) := by decide +kernel
theorem dX10_book_67 : decode cX10_book 67 = .ok (.iload_n 2, 1) := by decide +kernel
theorem dX10_book_68 : decode cX10_book 68 = .ok (.iadd, 1) := by decide +kernel
theorem dX10_book_69 : decode cX10_book 69 = .ok (.iaload, 1) := by decide +kernel
theorem dX10_book_70 : decode cX10_book 70 = .ok (.iastore, 1) := by decide +kernel
theorem dX10_book_71 : decode cX10_book 71 = .ok (.iinc 2 1, 3) := by decide +kernel
theorem dX10_book_74 : decode cX10_book 74 = .ok (.goto (-29), 3) := by decide +kernel
theorem dX10_book_77 : decode cX10_book 77 = .ok (.iconst 0, 1) := by decide +kernel
theorem dX10_book_78 : decode cX10_book 78 = .ok (.istore_n 2, 1) := by decide +kernel
theorem dX10_book_79 : decode cX10_book 79 = .ok (.iload_n 2, 1) := by decide +kernel
theorem dX10_book_80 : decode cX10_book 80 = .ok (.iload_n 1, 1) := by decide +kernel
theorem dX10_book_81 : decode cX10_book 81 = .ok (.if_icmp .ge 181, 3) := by decide +kernel
theorem dX10_book_84 : decode cX10_book 84 = .ok (.aload_n 0, 1) := by decide +kernel
theorem dX10_book_85 : decode cX10_book 85 = .ok (.getfield 222, 3) := by decide +kernel
theorem dX10_book_88 : decode cX10_book 88 = .ok (.bipush 55, 2) := by decide +kernel
theorem dX10_book_90 : decode cX10_book 90 = .ok (.iaload, 1) := by decide +kernel
theorem dX10_book_91 : decode cX10_book 91 = .ok (.istore_n 3, 1) := by decide +kernel
theorem dX10_book_92 : decode cX10_book 92 = .ok (.iconst 0, 1) := by decide +kernel
theorem dX10_book_93 : decode cX10_book 93 = .ok (.istore 4, 2) := by decide +kernel
theorem dX10_book_95 : decode cX10_book 95 = .ok (.iload 4, 2) := by decide +kernel
theorem dX10_book_97 : decode cX10_book 97 = .ok (.aload_n 0, 1) := by decide +kernel
theorem dX10_book_98 : decode cX10_book 98 = .ok (.getfield 285, 3) := by decide +kernel
theorem dX10_book_101 : decode cX10_book 101 = .ok (.if_icmp .ge 25, 3) := by decide +kernel
theorem dX10_book_104 : decode cX10_book 104 = .ok (.aload_n 0, 1) := by decide +kernel
theorem dX10_book_105 : decode cX10_book 105 = .ok (.getfield 236, 3) := by decide +kernel
theorem dX10_book_108 : decode cX10_book 108 = .ok (.iload 4, 2) := by decide +kernel
theorem dX10_book_110 : decode cX10_book 110 = .ok (.aload_n 0, 1) := by decide +kernel
theorem dX10_book_111 : decode cX10_book 111 = .ok (.getfield 222, 3) := by decide +kernel
theorem dX10_book_114 : decode cX10_book 114 = .ok (.iconst 0, 1) := by decide +kernel
theorem dX10_book_115 : decode cX10_book 115 = .ok (.iload 4, 2) := by decide +kernel
theorem dX10_book_117 : decode cX10_book 117 = .ok (.iadd, 1) := by decide +kernel
theorem dX10_book_118 : decode cX10_book 118 = .ok (.iaload, 1) := by decide +kernel
theorem dX10_book_119 : decode cX10_book 119 = .ok (.iastore, 1) := by decide +kernel
theorem dX10_book_120 : decode cX10_book 120 = .ok (.iinc 4 1, 3) := by decide +kernel
theorem dX10_book_123 : decode cX10_book 123 = .ok (.goto (-28), 3) := by decide +kernel
theorem dX10_book_126 : decode cX10_book 126 = .ok (.iload_n 2, 1) := by decide +kernel
theorem dX10_book_127 : decode cX10_book 127 = .ok (.istore 4, 2) := by decide +kernel
theorem dX10_book_129 : decode cX10_book 129 = .ok (.iload_n 2, 1) := by decide +kernel
theorem dX10_book_130 : decode cX10_book 130 = .ok (.iload_n 1, 1) := by decide +kernel
theorem dX10_book_131 : decode cX10_book 131 = .ok (.if_icmp .ge 36, 3) := by decide +kernel
theorem dX10_book_134 : decode cX10_book 134 = .ok (.aload_n 0, 1) := by decide +kernel
theorem dX10_book_135 : decode cX10_book 135 = .ok (.getfield 259, 3) := by decide +kernel
theorem dX10_book_138 : decode cX10_book 138 = .ok (.iload_n 2, 1) := by decide +kernel
theorem dX10_book_139 : decode cX10_book 139 = .ok (.iaload, 1) := by decide +kernel
theorem dX10_book_140 : decode cX10_book 140 = .ok (.iload_n 3, 1) := by decide +kernel
theorem dX10_book_141 : decode cX10_book 141 = .ok (.if_icmp .ne 26, 3) := by decide +kernel
theorem dX10_book_144 : decode cX10_book 144 = .ok (.aload_n 0, 1) := by decide +kernel
theorem dX10_book_145 : decode cX10_book 145 = .ok (.getfield 236, 3) := by decide +kernel
theorem dX10_book_148 : decode cX10_book 148 = .ok (.aload_n 0, 1) := by decide +kernel
theorem dX10_book_149 : decode cX10_book 149 = .ok (.getfield 262, 3) := by decide +kernel
theorem dX10_book_152 : decode cX10_book 152 = .ok (.iload_n 2, 1) := by decide +kernel
theorem dX10_book_153 : decode cX10_book 153 = .ok (.iaload, 1) := by decide +kernel
theorem dX10_book_154 : decode cX10_book 154 = .ok (.aload_n 0, 1) := by decide +kernel
theorem dX10_book_155 : decode cX10_book 155 = .ok (.getfield 265, 3) := by decide +kernel
theorem dX10_book_158 : decode cX10_book 158 = .ok (.iload_n 2, 1) := by decide +kernel
theorem dX10_book_159 : decode cX10_book 159 = .ok (.iaload, 1) := by decide +kernel
theorem dX10_book_160 : decode cX10_book 160 = .ok (.iastore, 1) := by decide +kernel
theorem dX10_book_161 : decode cX10_book 161 = .ok (.iinc 2 1, 3) := by decide +kernel
theorem dX10_book_164 : decode cX10_book 164 = .ok (.goto (-35), 3) := by decide +kernel
theorem dX10_book_167 : decode cX10_book 167 = .ok (.iconst 0, 1) := by decide +kernel
theorem dX10_book_168 : decode cX10_book 168 = .ok (.istore 5, 2) := by decide +kernel
theorem dX10_book_170 : decode cX10_book 170 = .ok (.iload 5, 2) := by decide +kernel
theorem dX10_book_172 : decode cX10_book 172 = .ok (.aload_n 0, 1) := by decide +kernel
theorem dX10_book_173 : decode cX10_book 173 = .ok (.getfield 285, 3) := by decide +kernel
theorem dX10_book_176 : decode cX10_book 176 = .ok (.if_icmp .ge 30, 3) := by decide +kernel
theorem dX10_book_179 : decode cX10_book 179 = .ok (.aload_n 0, 1) := by decide +kernel
theorem dX10_book_180 : decode cX10_book 180 = .ok (.aload_n 0, 1) := by decide +kernel
theorem dX10_book_181 : decode cX10_book 181 = .ok (.getfield 222, 3) := by decide +kernel
theorem dX10_book_184 : decode cX10_book 184 = .ok (.iload 5, 2) := by decide +kernel
theorem dX10_book_186 : decode cX10_book 186 = .ok (.invokevirtual 338, 3) := by decide +kernel
theorem dX10_book_189 : decode cX10_book 189 = .ok (.ifCond .eq 11, 3) := by decide +kernel
theorem dX10_book_192 : decode cX10_book 192 = .ok (.aload_n 0, 1) := by decide +kernel
theorem dX10_book_193 : decode cX10_book 193 = .ok (.getfield 236, 3) := by decide +kernel
theorem dX10_book_196 : decode cX10_book 196 = .ok (.iload 5, 2) := by decide +kernel
theorem dX10_book_198 : decode cX10_book 198 = .ok (.iconst 5, 1) := by decide +kernel
theorem dX10_book_199 : decode cX10_book 199 = .ok (.iastore, 1) := by decide +kernel
theorem dX10_book_200 : decode cX10_book 200 = .ok (.iinc 5 1, 3) := by decide +kernel
theorem dX10_book_203 : decode cX10_book 203 = .ok (.goto (-33), 3) := by decide +kernel
theorem dX10_book_206 : decode cX10_book 206 = .ok (.aload_n 0, 1) := by decide +kernel
theorem dX10_book_207 : decode cX10_book 207 = .ok (.aload_n 0, 1) := by decide +kernel
theorem dX10_book_208 : decode cX10_book 208 = .ok (.getfield 222, 3) := by decide +kernel
theorem dX10_book_211 : decode cX10_book 211 = .ok (.invokevirtual 392, 3) := by decide +kernel
theorem dX10_book_214 : decode cX10_book 214 = .ok (.iload 4, 2) := by decide +kernel
theorem dX10_book_216 : decode cX10_book 216 = .ok (.istore 5, 2) := by decide +kernel
theorem dX10_book_218 : decode cX10_book 218 = .ok (.iload 5, 2) := by decide +kernel
theorem dX10_book_220 : decode cX10_book 220 = .ok (.iload_n 2, 1) := by decide +kernel
theorem dX10_book_221 : decode cX10_book 221 = .ok (.if_icmp .ge 38, 3) := by decide +kernel
theorem dX10_book_224 : decode cX10_book 224 = .ok (.aload_n 0, 1) := by decide +kernel
theorem dX10_book_225 : decode cX10_book 225 = .ok (.getfield 222, 3) := by decide +kernel
theorem dX10_book_228 : decode cX10_book 228 = .ok (.iconst 0, 1) := by decide +kernel
theorem dX10_book_229 : decode cX10_book 229 = .ok (.aload_n 0, 1) := by decide +kernel
theorem dX10_book_230 : decode cX10_book 230 = .ok (.getfield 262, 3) := by decide +kernel
theorem dX10_book_233 : decode cX10_book 233 = .ok (.iload 5, 2) := by decide +kernel
theorem dX10_book_235 : decode cX10_book 235 = .ok (.iaload, 1) := by decide +kernel
theorem dX10_book_236 : decode cX10_book 236 = .ok (.iadd, 1) := by decide +kernel
theorem dX10_book_237 : decode cX10_book 237 = .ok (.iaload, 1) := by decide +kernel
theorem dX10_book_238 : decode cX10_book 238 = .ok (.aload_n 0, 1) := by decide +kernel
theorem dX10_book_239 : decode cX10_book 239 = .ok (.getfield 265, 3) := by decide +kernel
theorem dX10_book_242 : decode cX10_book 242 = .ok (.iload 5, 2) := by decide +kernel
theorem dX10_book_244 : decode cX10_book 244 = .ok (.iaload, 1) := by decide +kernel
theorem dX10_book_245 : decode cX10_book 245 = .ok (.if_icmp .eq 8, 3) := by decide +kernel
theorem dX10_book_248 : decode cX10_book 248 = .ok (.iconst (-1), 1) := by decide +kernel
theorem dX10_book_249 : decode cX10_book 249 = .ok (.iload 5, 2) := by decide +kernel
theorem dX10_book_251 : decode cX10_book 251 = .ok (.isub, 1) := by decide +kernel
theorem dX10_book_252 : decode cX10_book 252 = .ok (.ireturn, 1) := by decide +kernel
theorem dX10_book_253 : decode cX10_book 253 = .ok (.iinc 5 1, 3) := by decide +kernel
theorem dX10_book_256 : decode cX10_book 256 = .ok (.goto (-38), 3) := by decide +kernel
theorem dX10_book_259 : decode cX10_book 259 = .ok (.goto (-180), 3) := by decide +kernel
theorem dX10_book_262 : decode cX10_book 262 = .ok (.iload_n 1, 1) := by decide +kernel
theorem dX10_book_263 : decode cX10_book 263 = .ok (.aload_n 0, 1) := by decide +kernel
theorem dX10_book_264 : decode cX10_book 264 = .ok (.getfield 474, 3) := by decide +kernel
theorem dX10_book_267 : decode cX10_book 267 = .ok (.if_icmp .ge 9, 3) := by decide +kernel
theorem dX10_book_270 : decode cX10_book 270 = .ok (.iconst (-1), 1) := by decide +kernel
theorem dX10_book_271 : decode cX10_book 271 = .ok (.iload_n 1, 1) := by decide +kernel
theorem dX10_book_272 : decode cX10_book 272 = .ok (.isub, 1) := by decide +kernel
theorem dX10_book_273 : decode cX10_book 273 = .ok (.goto 7, 3) := by decide +kernel
theorem dX10_book_276 : decode cX10_book 276 = .ok (.aload_n 0, 1) := by decide +kernel
theorem dX10_book_277 : decode cX10_book 277 = .ok (.getfield 474, 3) := by decide +kernel
theorem dX10_book_280 : decode cX10_book 280 = .ok (.ireturn, 1) := by decide +kernel
theorem dX10_count_0 : decode cX10_count 0 = .ok (.iload_n 1, 1) := by decide +kernel
theorem dX10_count_1 : decode cX10_count 1 = .ok (.tableswitch 45 0 2 #[27, 32, 40], 27) := by decide +kernel
theorem dX10_count_28 : decode cX10_count 28 = .ok (.aload_n 0, 1) := by decide +kernel
theorem dX10_count_29 : decode cX10_count 29 = .ok (.getfield 291, 3) := by decide +kernel
theorem dX10_count_32 : decode cX10_count 32 = .ok (.ireturn, 1) := by decide +kernel
theorem dX10_count_33 : decode cX10_count 33 = .ok (.aload_n 0, 1) := by decide +kernel
theorem dX10_count_34 : decode cX10_count 34 = .ok (.getfield 219, 3) := by decide +kernel
theorem dX10_count_37 : decode cX10_count 37 = .ok (.bipush 55, 2) := by decide +kernel
theorem dX10_count_39 : decode cX10_count 39 = .ok (.iaload, 1) := by decide +kernel
theorem dX10_count_40 : decode cX10_count 40 = .ok (.ireturn, 1) := by decide +kernel
theorem dX10_count_41 : decode cX10_count 41 = .ok (.aload_n 0, 1) := by decide +kernel
theorem dX10_count_42 : decode cX10_count 42 = .ok (.getfield 71, 3) := by decide +kernel
theorem dX10_count_45 : decode cX10_count 45 = .ok (.ireturn, 1) := by decide +kernel
theorem dX10_count_46 : decode cX10_count 46 = .ok (.iconst (-1), 1) := by decide +kernel
theorem dX10_count_47 : decode cX10_count 47 = .ok (.ireturn, 1) := by decide +kernel
theorem dJ9_max_7cf53_0 : decode cJ9_max_7cf53 0 = .ok (.iload_n 0, 1) := by decide +kernel
theorem dJ9_max_7cf53_1 : decode cJ9_max_7cf53 1 = .ok (.iload_n 1, 1) := by decide +kernel
theorem dJ9_max_7cf53_2 : decode cJ9_max_7cf53 2 = .ok (.if_icmp .lt 7, 3) := by decide +kernel
theorem dJ9_max_7cf53_5 : decode cJ9_max_7cf53 5 = .ok (.iload_n 0, 1) := by decide +kernel
theorem dJ9_max_7cf53_6 : decode cJ9_max_7cf53 6 = .ok (.goto 4, 3) := by decide +kernel
theorem dJ9_max_7cf53_9 : decode cJ9_max_7cf53 9 = .ok (.iload_n 1, 1) := by decide +kernel
theorem dJ9_max_7cf53_10 : decode cJ9_max_7cf53 10 = .ok (.ireturn, 1) := by decide +kernel
theorem dJ9_min_7cf53_0 : decode cJ9_min_7cf53 0 = .ok (.iload_n 0, 1) := by decide +kernel
theorem dJ9_min_7cf53_1 : decode cJ9_min_7cf53 1 = .ok (.iload_n 1, 1) := by decide +kernel
theorem dJ9_min_7cf53_2 : decode cJ9_min_7cf53 2 = .ok (.if_icmp .gt 7, 3) := by decide +kernel
theorem dJ9_min_7cf53_5 : decode cJ9_min_7cf53 5 = .ok (.iload_n 0, 1) := by decide +kernel
theorem dJ9_min_7cf53_6 : decode cJ9_min_7cf53 6 = .ok (.goto 4, 3) := by decide +kernel
theorem dJ9_min_7cf53_9 : decode cJ9_min_7cf53 9 = .ok (.iload_n 1, 1) := by decide +kernel
theorem dJ9_min_7cf53_10 : decode cJ9_min_7cf53 10 = .ok (.ireturn, 1) := by decide +kernel
set_option maxRecDepth 20000 in
theorem dJ0_length_8abf5_0 : decode cJ0_length_8abf5 0 = .ok (.aload_n 0, 1) := by decide +kernel
theorem dJ0_length_8abf5_1 : decode cJ0_length_8abf5 1 = .ok (.getfield 9, 3) := by decide +kernel
theorem dJ0_length_8abf5_4 : decode cJ0_length_8abf5 4 = .ok (.arraylength, 1) := by decide +kernel
theorem dJ0_length_8abf5_5 : decode cJ0_length_8abf5 5 = .ok (.aload_n 0, 1) := by decide +kernel
theorem dJ0_length_8abf5_6 : decode cJ0_length_8abf5 6 = .ok (.invokevirtual 335, 3) := by decide +kernel
theorem dJ0_length_8abf5_9 : decode cJ0_length_8abf5 9 = .ok (.ishr, 1) := by decide +kernel
theorem dJ0_length_8abf5_10 : decode cJ0_length_8abf5 10 = .ok (.ireturn, 1) := by decide +kernel
set_option maxRecDepth 20000 in
theorem dJ0_charAt_5068e_0 : decode cJ0_charAt_5068e 0 = .ok (.aload_n 0, 1) := by decide +kernel
theorem dJ0_charAt_5068e_1 : decode cJ0_charAt_5068e 1 = .ok (.invokevirtual 492, 3) := by decide +kernel
theorem dJ0_charAt_5068e_4 : decode cJ0_charAt_5068e 4 = .ok (.ifCond .eq 12, 3) := by decide +kernel
theorem dJ0_charAt_5068e_7 : decode cJ0_charAt_5068e 7 = .ok (.aload_n 0, 1) := by decide +kernel
theorem dJ0_charAt_5068e_8 : decode cJ0_charAt_5068e 8 = .ok (.getfield 9, 3) := by decide +kernel
theorem dJ0_charAt_5068e_11 : decode cJ0_charAt_5068e 11 = .ok (.iload_n 1, 1) := by decide +kernel
theorem dJ0_charAt_5068e_12 : decode cJ0_charAt_5068e 12 = .ok (.invokestatic 495, 3) := by decide +kernel
theorem dJ0_charAt_5068e_15 : decode cJ0_charAt_5068e 15 = .ok (.ireturn, 1) := by decide +kernel
theorem dJ0_charAt_5068e_16 : decode cJ0_charAt_5068e 16 = .ok (.aload_n 0, 1) := by decide +kernel
theorem dJ0_charAt_5068e_17 : decode cJ0_charAt_5068e 17 = .ok (.getfield 9, 3) := by decide +kernel
theorem dJ0_charAt_5068e_20 : decode cJ0_charAt_5068e 20 = .ok (.iload_n 1, 1) := by decide +kernel
theorem dJ0_charAt_5068e_21 : decode cJ0_charAt_5068e 21 = .ok (.invokestatic 498, 3) := by decide +kernel
theorem dJ0_charAt_5068e_24 : decode cJ0_charAt_5068e 24 = .ok (.ireturn, 1) := by decide +kernel
theorem dJ0_coder_7d493_0 : decode cJ0_coder_7d493 0 = .ok (.getstatic 38, 3) := by decide +kernel
theorem dJ0_coder_7d493_3 : decode cJ0_coder_7d493 3 = .ok (.ifCond .eq 10, 3) := by decide +kernel
theorem dJ0_coder_7d493_6 : decode cJ0_coder_7d493 6 = .ok (.aload_n 0, 1) := by decide +kernel
theorem dJ0_coder_7d493_7 : decode cJ0_coder_7d493 7 = .ok (.getfield 15, 3) := by decide +kernel
theorem dJ0_coder_7d493_10 : decode cJ0_coder_7d493 10 = .ok (.goto 4, 3) := by decide +kernel
theorem dJ0_coder_7d493_13 : decode cJ0_coder_7d493 13 = .ok (.iconst 1, 1) := by decide +kernel
theorem dJ0_coder_7d493_14 : decode cJ0_coder_7d493 14 = .ok (.ireturn, 1) := by decide +kernel
theorem dJ0_isLatin1_aae02_0 : decode cJ0_isLatin1_aae02 0 = .ok (.getstatic 38, 3) := by decide +kernel
theorem dJ0_isLatin1_aae02_3 : decode cJ0_isLatin1_aae02 3 = .ok (.ifCond .eq 14, 3) := by decide +kernel
theorem dJ0_isLatin1_aae02_6 : decode cJ0_isLatin1_aae02 6 = .ok (.aload_n 0, 1) := by decide +kernel
theorem dJ0_isLatin1_aae02_7 : decode cJ0_isLatin1_aae02 7 = .ok (.getfield 15, 3) := by decide +kernel
theorem dJ0_isLatin1_aae02_10 : decode cJ0_isLatin1_aae02 10 = .ok (.ifCond .ne 7, 3) := by decide +kernel
theorem dJ0_isLatin1_aae02_13 : decode cJ0_isLatin1_aae02 13 = .ok (.iconst 1, 1) := by decide +kernel
theorem dJ0_isLatin1_aae02_14 : decode cJ0_isLatin1_aae02 14 = .ok (.goto 4, 3) := by decide +kernel
theorem dJ0_isLatin1_aae02_17 : decode cJ0_isLatin1_aae02 17 = .ok (.iconst 0, 1) := by decide +kernel
theorem dJ0_isLatin1_aae02_18 : decode cJ0_isLatin1_aae02 18 = .ok (.ireturn, 1) := by decide +kernel
set_option maxRecDepth 20000 in
theorem dJ0_checkIndex_df160_0 : decode cJ0_checkIndex_df160 0 = .ok (.iload_n 0, 1) := by decide +kernel
theorem dJ0_checkIndex_df160_1 : decode cJ0_checkIndex_df160 1 = .ok (.iload_n 1, 1) := by decide +kernel
theorem dJ0_checkIndex_df160_2 : decode cJ0_checkIndex_df160 2 = .ok (.getstatic 1053, 3) := by decide +kernel
theorem dJ0_checkIndex_df160_5 : decode cJ0_checkIndex_df160 5 = .ok (.invokestatic 1059, 3) := by decide +kernel
theorem dJ0_checkIndex_df160_8 : decode cJ0_checkIndex_df160 8 = .ok (.pop, 1) := by decide +kernel
theorem dJ0_checkIndex_df160_9 : decode cJ0_checkIndex_df160 9 = .ok (.return_, 1) := by decide +kernel
set_option maxRecDepth 20000 in
theorem dJ1_charAt_3b067_0 : decode cJ1_charAt_3b067 0 = .ok (.iload_n 1, 1) := by decide +kernel
theorem dJ1_charAt_3b067_1 : decode cJ1_charAt_3b067 1 = .ok (.aload_n 0, 1) := by decide +kernel
theorem dJ1_charAt_3b067_2 : decode cJ1_charAt_3b067 2 = .ok (.arraylength, 1) := by decide +kernel
theorem dJ1_charAt_3b067_3 : decode cJ1_charAt_3b067 3 = .ok (.invokestatic 9, 3) := by decide +kernel
theorem dJ1_charAt_3b067_6 : decode cJ1_charAt_3b067 6 = .ok (.aload_n 0, 1) := by decide +kernel
theorem dJ1_charAt_3b067_7 : decode cJ1_charAt_3b067 7 = .ok (.iload_n 1, 1) := by decide +kernel
theorem dJ1_charAt_3b067_8 : decode cJ1_charAt_3b067 8 = .ok (.baload, 1) := by decide +kernel
theorem dJ1_charAt_3b067_9 : decode cJ1_charAt_3b067 9 = .ok (.sipush 255, 3) := by decide +kernel
theorem dJ1_charAt_3b067_12 : decode cJ1_charAt_3b067 12 = .ok (.iand, 1) := by decide +kernel
theorem dJ1_charAt_3b067_13 : decode cJ1_charAt_3b067 13 = .ok (.i2c, 1) := by decide +kernel
theorem dJ1_charAt_3b067_14 : decode cJ1_charAt_3b067 14 = .ok (.ireturn, 1) := by decide +kernel
set_option maxRecDepth 20000 in
theorem dJ2_getChar_3b067_0 : decode cJ2_getChar_3b067 0 = .ok (.getstatic 44, 3) := by decide +kernel
theorem dJ2_getChar_3b067_3 : decode cJ2_getChar_3b067 3 = .ok (.ifCond .ne 25, 3) := by decide +kernel
theorem dJ2_getChar_3b067_6 : decode cJ2_getChar_3b067 6 = .ok (.iload_n 1, 1) := by decide +kernel
theorem dJ2_getChar_3b067_7 : decode cJ2_getChar_3b067 7 = .ok (.ifCond .lt 11, 3) := by decide +kernel
theorem dJ2_getChar_3b067_10 : decode cJ2_getChar_3b067 10 = .ok (.iload_n 1, 1) := by decide +kernel
theorem dJ2_getChar_3b067_11 : decode cJ2_getChar_3b067 11 = .ok (.aload_n 0, 1) := by decide +kernel
theorem dJ2_getChar_3b067_12 : decode cJ2_getChar_3b067 12 = .ok (.invokestatic 48, 3) := by decide +kernel
theorem dJ2_getChar_3b067_15 : decode cJ2_getChar_3b067 15 = .ok (.if_icmp .lt 13, 3) := by decide +kernel
theorem dJ2_getChar_3b067_18 : decode cJ2_getChar_3b067 18 = .ok (.new 52, 3) := by decide +kernel
theorem dJ2_getChar_3b067_21 : decode cJ2_getChar_3b067 21 = .ok (.dup, 1) := by decide +kernel
theorem dJ2_getChar_3b067_22 : decode cJ2_getChar_3b067 22 = .ok (.ldc 54, 2) := by decide +kernel
theorem dJ2_getChar_3b067_24 : decode cJ2_getChar_3b067 24 = .ok (.invokespecial 56, 3) := by decide +kernel
theorem dJ2_getChar_3b067_27 : decode cJ2_getChar_3b067 27 = .ok (.athrow, 1) := by decide +kernel
theorem dJ2_getChar_3b067_28 : decode cJ2_getChar_3b067 28 = .ok (.iload_n 1, 1) := by decide +kernel
theorem dJ2_getChar_3b067_29 : decode cJ2_getChar_3b067 29 = .ok (.iconst 1, 1) := by decide +kernel
theorem dJ2_getChar_3b067_30 : decode cJ2_getChar_3b067 30 = .ok (.ishl, 1) := by decide +kernel
theorem dJ2_getChar_3b067_31 : decode cJ2_getChar_3b067 31 = .ok (.istore_n 1, 1) := by decide +kernel
theorem dJ2_getChar_3b067_32 : decode cJ2_getChar_3b067 32 = .ok (.aload_n 0, 1) := by decide +kernel
theorem dJ2_getChar_3b067_33 : decode cJ2_getChar_3b067 33 = .ok (.iload_n 1, 1) := by decide +kernel
theorem dJ2_getChar_3b067_34 : decode cJ2_getChar_3b067 34 = .ok (.iinc 1 1, 3) := by decide +kernel
theorem dJ2_getChar_3b067_37 : decode cJ2_getChar_3b067 37 = .ok (.baload, 1) := by decide +kernel
theorem dJ2_getChar_3b067_38 : decode cJ2_getChar_3b067 38 = .ok (.sipush 255, 3) := by decide +kernel
theorem dJ2_getChar_3b067_41 : decode cJ2_getChar_3b067 41 = .ok (.iand, 1) := by decide +kernel
theorem dJ2_getChar_3b067_42 : decode cJ2_getChar_3b067 42 = .ok (.getstatic 59, 3) := by decide +kernel
theorem dJ2_getChar_3b067_45 : decode cJ2_getChar_3b067 45 = .ok (.ishl, 1) := by decide +kernel
theorem dJ2_getChar_3b067_46 : decode cJ2_getChar_3b067 46 = .ok (.aload_n 0, 1) := by decide +kernel
theorem dJ2_getChar_3b067_47 : decode cJ2_getChar_3b067 47 = .ok (.iload_n 1, 1) := by decide +kernel
theorem dJ2_getChar_3b067_48 : decode cJ2_getChar_3b067 48 = .ok (.baload, 1) := by decide +kernel
theorem dJ2_getChar_3b067_49 : decode cJ2_getChar_3b067 49 = .ok (.sipush 255, 3) := by decide +kernel
theorem dJ2_getChar_3b067_52 : decode cJ2_getChar_3b067 52 = .ok (.iand, 1) := by decide +kernel
theorem dJ2_getChar_3b067_53 : decode cJ2_getChar_3b067 53 = .ok (.getstatic 63, 3) := by decide +kernel
theorem dJ2_getChar_3b067_56 : decode cJ2_getChar_3b067 56 = .ok (.ishl, 1) := by decide +kernel
theorem dJ2_getChar_3b067_57 : decode cJ2_getChar_3b067 57 = .ok (.ior, 1) := by decide +kernel
theorem dJ2_getChar_3b067_58 : decode cJ2_getChar_3b067 58 = .ok (.i2c, 1) := by decide +kernel
theorem dJ2_getChar_3b067_59 : decode cJ2_getChar_3b067 59 = .ok (.ireturn, 1) := by decide +kernel
theorem dJ2_length_9d52b_0 : decode cJ2_length_9d52b 0 = .ok (.aload_n 0, 1) := by decide +kernel
theorem dJ2_length_9d52b_1 : decode cJ2_length_9d52b 1 = .ok (.arraylength, 1) := by decide +kernel
theorem dJ2_length_9d52b_2 : decode cJ2_length_9d52b 2 = .ok (.iconst 1, 1) := by decide +kernel
theorem dJ2_length_9d52b_3 : decode cJ2_length_9d52b 3 = .ok (.ishr, 1) := by decide +kernel
theorem dJ2_length_9d52b_4 : decode cJ2_length_9d52b 4 = .ok (.ireturn, 1) := by decide +kernel
set_option maxRecDepth 20000 in
theorem dJ2_charAt_3b067_0 : decode cJ2_charAt_3b067 0 = .ok (.iload_n 1, 1) := by decide +kernel
theorem dJ2_charAt_3b067_1 : decode cJ2_charAt_3b067 1 = .ok (.aload_n 0, 1) := by decide +kernel
theorem dJ2_charAt_3b067_2 : decode cJ2_charAt_3b067 2 = .ok (.invokestatic 67, 3) := by decide +kernel
theorem dJ2_charAt_3b067_5 : decode cJ2_charAt_3b067 5 = .ok (.aload_n 0, 1) := by decide +kernel
theorem dJ2_charAt_3b067_6 : decode cJ2_charAt_3b067 6 = .ok (.iload_n 1, 1) := by decide +kernel
theorem dJ2_charAt_3b067_7 : decode cJ2_charAt_3b067 7 = .ok (.invokestatic 71, 3) := by decide +kernel
theorem dJ2_charAt_3b067_10 : decode cJ2_charAt_3b067 10 = .ok (.ireturn, 1) := by decide +kernel
set_option maxRecDepth 20000 in
theorem dJ2_checkIndex_2214a_0 : decode cJ2_checkIndex_2214a 0 = .ok (.iload_n 0, 1) := by decide +kernel
theorem dJ2_checkIndex_2214a_1 : decode cJ2_checkIndex_2214a 1 = .ok (.aload_n 1, 1) := by decide +kernel
theorem dJ2_checkIndex_2214a_2 : decode cJ2_checkIndex_2214a 2 = .ok (.invokestatic 48, 3) := by decide +kernel
theorem dJ2_checkIndex_2214a_5 : decode cJ2_checkIndex_2214a 5 = .ok (.invokestatic 414, 3) := by decide +kernel
theorem dJ2_checkIndex_2214a_8 : decode cJ2_checkIndex_2214a 8 = .ok (.return_, 1) := by decide +kernel
theorem dJ3_checkIndex_8e157_0 : decode cJ3_checkIndex_8e157 0 = .ok (.iload_n 0, 1) := by decide +kernel
theorem dJ3_checkIndex_8e157_1 : decode cJ3_checkIndex_8e157 1 = .ok (.ifCond .lt 8, 3) := by decide +kernel
theorem dJ3_checkIndex_8e157_4 : decode cJ3_checkIndex_8e157 4 = .ok (.iload_n 0, 1) := by decide +kernel
theorem dJ3_checkIndex_8e157_5 : decode cJ3_checkIndex_8e157 5 = .ok (.iload_n 1, 1) := by decide +kernel
theorem dJ3_checkIndex_8e157_6 : decode cJ3_checkIndex_8e157 6 = .ok (.if_icmp .lt 10, 3) := by decide +kernel
theorem dJ3_checkIndex_8e157_9 : decode cJ3_checkIndex_8e157 9 = .ok (.aload_n 2, 1) := by decide +kernel
theorem dJ3_checkIndex_8e157_10 : decode cJ3_checkIndex_8e157 10 = .ok (.iload_n 0, 1) := by decide +kernel
theorem dJ3_checkIndex_8e157_11 : decode cJ3_checkIndex_8e157 11 = .ok (.iload_n 1, 1) := by decide +kernel
theorem dJ3_checkIndex_8e157_12 : decode cJ3_checkIndex_8e157 12 = .ok (.invokestatic 95, 3) := by decide +kernel
theorem dJ3_checkIndex_8e157_15 : decode cJ3_checkIndex_8e157 15 = .ok (.athrow, 1) := by decide +kernel
theorem dJ3_checkIndex_8e157_16 : decode cJ3_checkIndex_8e157 16 = .ok (.iload_n 0, 1) := by decide +kernel
theorem dJ3_checkIndex_8e157_17 : decode cJ3_checkIndex_8e157 17 = .ok (.ireturn, 1) := by decide +kernel
set_option maxRecDepth 20000 in
theorem dL_law_0 : decode cL_law 0 = .ok (.new 7, 3) := by decide +kernel
theorem dL_law_3 : decode cL_law 3 = .ok (.dup, 1) := by decide +kernel
theorem dL_law_4 : decode cL_law 4 = .ok (.invokespecial 9, 3) := by decide +kernel
theorem dL_law_7 : decode cL_law 7 = .ok (.astore_n 1, 1) := by decide +kernel
theorem dL_law_8 : decode cL_law 8 = .ok (.new 10, 3) := by decide +kernel
theorem dL_law_11 : decode cL_law 11 = .ok (.dup, 1) := by decide +kernel
theorem dL_law_12 : decode cL_law 12 = .ok (.invokespecial 12, 3) := by decide +kernel
theorem dL_law_15 : decode cL_law 15 = .ok (.astore_n 2, 1) := by decide +kernel
theorem dL_law_16 : decode cL_law 16 = .ok (.iconst 0, 1) := by decide +kernel
theorem dL_law_17 : decode cL_law 17 = .ok (.istore_n 3, 1) := by decide +kernel
theorem dL_law_18 : decode cL_law 18 = .ok (.iload_n 3, 1) := by decide +kernel
theorem dL_law_19 : decode cL_law 19 = .ok (.aload_n 0, 1) := by decide +kernel
theorem dL_law_20 : decode cL_law 20 = .ok (.arraylength, 1) := by decide +kernel
theorem dL_law_21 : decode cL_law 21 = .ok (.bipush 6, 2) := by decide +kernel
theorem dL_law_23 : decode cL_law 23 = .ok (.isub, 1) := by decide +kernel
theorem dL_law_24 : decode cL_law 24 = .ok (.if_icmp .gt 1141, 3) := by decide +kernel
theorem dL_law_27 : decode cL_law 27 = .ok (.aload_n 0, 1) := by decide +kernel
theorem dL_law_28 : decode cL_law 28 = .ok (.iload_n 3, 1) := by decide +kernel
theorem dL_law_29 : decode cL_law 29 = .ok (.iaload, 1) := by decide +kernel
theorem dL_law_30 : decode cL_law 30 = .ok (.bipush 63, 2) := by decide +kernel
theorem dL_law_32 : decode cL_law 32 = .ok (.iand, 1) := by decide +kernel
theorem dL_law_33 : decode cL_law 33 = .ok (.tableswitch 1126 0 34 #[155, 218, 241, 254, 277, 300, 333, 356, 389, 422, 445, 468, 501, 534, 557, 580, 603, 626, 659, 672, 705, 718, 761, 794, 817, 840, 873, 942, 965, 978, 1011, 1034, 1067, 1090, 1103], 155) := by decide +kernel
theorem dL_law_188 : decode cL_law 188 = .ok (.aload_n 1, 1) := by decide +kernel
theorem dL_law_189 : decode cL_law 189 = .ok (.aload_n 0, 1) := by decide +kernel
theorem dL_law_190 : decode cL_law 190 = .ok (.iload_n 3, 1) := by decide +kernel
theorem dL_law_191 : decode cL_law 191 = .ok (.iconst 1, 1) := by decide +kernel
theorem dL_law_192 : decode cL_law 192 = .ok (.iadd, 1) := by decide +kernel
theorem dL_law_193 : decode cL_law 193 = .ok (.iaload, 1) := by decide +kernel
theorem dL_law_194 : decode cL_law 194 = .ok (.aload_n 0, 1) := by decide +kernel
theorem dL_law_195 : decode cL_law 195 = .ok (.iload_n 3, 1) := by decide +kernel
theorem dL_law_196 : decode cL_law 196 = .ok (.iconst 2, 1) := by decide +kernel
theorem dL_law_197 : decode cL_law 197 = .ok (.iadd, 1) := by decide +kernel
theorem dL_law_198 : decode cL_law 198 = .ok (.iaload, 1) := by decide +kernel
theorem dL_law_199 : decode cL_law 199 = .ok (.aload_n 0, 1) := by decide +kernel
theorem dL_law_200 : decode cL_law 200 = .ok (.iload_n 3, 1) := by decide +kernel
theorem dL_law_201 : decode cL_law 201 = .ok (.iconst 3, 1) := by decide +kernel
theorem dL_law_202 : decode cL_law 202 = .ok (.iadd, 1) := by decide +kernel
theorem dL_law_203 : decode cL_law 203 = .ok (.iaload, 1) := by decide +kernel
theorem dL_law_204 : decode cL_law 204 = .ok (.aload_n 0, 1) := by decide +kernel
theorem dL_law_205 : decode cL_law 205 = .ok (.iload_n 3, 1) := by decide +kernel
theorem dL_law_206 : decode cL_law 206 = .ok (.iconst 4, 1) := by decide +kernel
theorem dL_law_207 : decode cL_law 207 = .ok (.iadd, 1) := by decide +kernel
theorem dL_law_208 : decode cL_law 208 = .ok (.iaload, 1) := by decide +kernel
theorem dL_law_209 : decode cL_law 209 = .ok (.aload_n 0, 1) := by decide +kernel
theorem dL_law_210 : decode cL_law 210 = .ok (.iload_n 3, 1) := by decide +kernel
theorem dL_law_211 : decode cL_law 211 = .ok (.iconst 5, 1) := by decide +kernel
theorem dL_law_212 : decode cL_law 212 = .ok (.iadd, 1) := by decide +kernel
theorem dL_law_213 : decode cL_law 213 = .ok (.iaload, 1) := by decide +kernel
theorem dL_law_214 : decode cL_law 214 = .ok (.invokevirtual 13, 3) := by decide +kernel
theorem dL_law_217 : decode cL_law 217 = .ok (.aload_n 2, 1) := by decide +kernel
theorem dL_law_218 : decode cL_law 218 = .ok (.aload_n 0, 1) := by decide +kernel
theorem dL_law_219 : decode cL_law 219 = .ok (.iload_n 3, 1) := by decide +kernel
theorem dL_law_220 : decode cL_law 220 = .ok (.iconst 1, 1) := by decide +kernel
theorem dL_law_221 : decode cL_law 221 = .ok (.iadd, 1) := by decide +kernel
theorem dL_law_222 : decode cL_law 222 = .ok (.iaload, 1) := by decide +kernel
theorem dL_law_223 : decode cL_law 223 = .ok (.aload_n 0, 1) := by decide +kernel
theorem dL_law_224 : decode cL_law 224 = .ok (.iload_n 3, 1) := by decide +kernel
theorem dL_law_225 : decode cL_law 225 = .ok (.iconst 2, 1) := by decide +kernel
theorem dL_law_226 : decode cL_law 226 = .ok (.iadd, 1) := by decide +kernel
theorem dL_law_227 : decode cL_law 227 = .ok (.iaload, 1) := by decide +kernel
theorem dL_law_228 : decode cL_law 228 = .ok (.aload_n 0, 1) := by decide +kernel
theorem dL_law_229 : decode cL_law 229 = .ok (.iload_n 3, 1) := by decide +kernel
theorem dL_law_230 : decode cL_law 230 = .ok (.iconst 3, 1) := by decide +kernel
theorem dL_law_231 : decode cL_law 231 = .ok (.iadd, 1) := by decide +kernel
theorem dL_law_232 : decode cL_law 232 = .ok (.iaload, 1) := by decide +kernel
theorem dL_law_233 : decode cL_law 233 = .ok (.aload_n 0, 1) := by decide +kernel
theorem dL_law_234 : decode cL_law 234 = .ok (.iload_n 3, 1) := by decide +kernel
theorem dL_law_235 : decode cL_law 235 = .ok (.iconst 4, 1) := by decide +kernel
theorem dL_law_236 : decode cL_law 236 = .ok (.iadd, 1) := by decide +kernel
theorem dL_law_237 : decode cL_law 237 = .ok (.iaload, 1) := by decide +kernel
theorem dL_law_238 : decode cL_law 238 = .ok (.aload_n 0, 1) := by decide +kernel
theorem dL_law_239 : decode cL_law 239 = .ok (.iload_n 3, 1) := by decide +kernel
theorem dL_law_240 : decode cL_law 240 = .ok (.iconst 5, 1) := by decide +kernel
theorem dL_law_241 : decode cL_law 241 = .ok (.iadd, 1) := by decide +kernel
theorem dL_law_242 : decode cL_law 242 = .ok (.iaload, 1) := by decide +kernel
theorem dL_law_243 : decode cL_law 243 = .ok (.invokevirtual 17, 3) := by decide +kernel
theorem dL_law_246 : decode cL_law 246 = .ok (.if_icmp .eq 913, 3) := by decide +kernel
theorem dL_law_249 : decode cL_law 249 = .ok (.iconst 0, 1) := by decide +kernel
theorem dL_law_250 : decode cL_law 250 = .ok (.ireturn, 1) := by decide +kernel
theorem dL_law_251 : decode cL_law 251 = .ok (.aload_n 1, 1) := by decide +kernel
theorem dL_law_252 : decode cL_law 252 = .ok (.aload_n 0, 1) := by decide +kernel
theorem dL_law_253 : decode cL_law 253 = .ok (.iload_n 3, 1) := by decide +kernel
theorem dL_law_254 : decode cL_law 254 = .ok (.iconst 1, 1) := by decide +kernel
theorem dL_law_255 : decode cL_law 255 = .ok (.iadd, 1) := by decide +kernel
theorem dL_law_256 : decode cL_law 256 = .ok (.iaload, 1) := by decide +kernel
theorem dL_law_257 : decode cL_law 257 = .ok (.invokevirtual 18, 3) := by decide +kernel
theorem dL_law_260 : decode cL_law 260 = .ok (.aload_n 2, 1) := by decide +kernel
theorem dL_law_261 : decode cL_law 261 = .ok (.aload_n 0, 1) := by decide +kernel
theorem dL_law_262 : decode cL_law 262 = .ok (.iload_n 3, 1) := by decide +kernel
theorem dL_law_263 : decode cL_law 263 = .ok (.iconst 1, 1) := by decide +kernel
theorem dL_law_264 : decode cL_law 264 = .ok (.iadd, 1) := by decide +kernel
theorem dL_law_265 : decode cL_law 265 = .ok (.iaload, 1) := by decide +kernel
theorem dL_law_266 : decode cL_law 266 = .ok (.invokevirtual 22, 3) := by decide +kernel
theorem dL_law_269 : decode cL_law 269 = .ok (.if_icmp .eq 890, 3) := by decide +kernel
theorem dL_law_272 : decode cL_law 272 = .ok (.iconst 0, 1) := by decide +kernel
theorem dL_law_273 : decode cL_law 273 = .ok (.ireturn, 1) := by decide +kernel
theorem dL_law_274 : decode cL_law 274 = .ok (.aload_n 1, 1) := by decide +kernel
theorem dL_law_275 : decode cL_law 275 = .ok (.invokevirtual 23, 3) := by decide +kernel
theorem dL_law_278 : decode cL_law 278 = .ok (.aload_n 2, 1) := by decide +kernel
theorem dL_law_279 : decode cL_law 279 = .ok (.invokevirtual 27, 3) := by decide +kernel
theorem dL_law_282 : decode cL_law 282 = .ok (.if_icmp .eq 877, 3) := by decide +kernel
theorem dL_law_285 : decode cL_law 285 = .ok (.iconst 0, 1) := by decide +kernel
theorem dL_law_286 : decode cL_law 286 = .ok (.ireturn, 1) := by decide +kernel
theorem dL_law_287 : decode cL_law 287 = .ok (.aload_n 1, 1) := by decide +kernel
theorem dL_law_288 : decode cL_law 288 = .ok (.aload_n 0, 1) := by decide +kernel
theorem dL_law_289 : decode cL_law 289 = .ok (.iload_n 3, 1) := by decide +kernel
theorem dL_law_290 : decode cL_law 290 = .ok (.iconst 1, 1) := by decide +kernel
theorem dL_law_291 : decode cL_law 291 = .ok (.iadd, 1) := by decide +kernel
theorem dL_law_292 : decode cL_law 292 = .ok (.iaload, 1) := by decide +kernel
theorem dL_law_293 : decode cL_law 293 = .ok (.invokevirtual 28, 3) := by decide +kernel
theorem dL_law_296 : decode cL_law 296 = .ok (.aload_n 2, 1) := by decide +kernel
theorem dL_law_297 : decode cL_law 297 = .ok (.aload_n 0, 1) := by decide +kernel
theorem dL_law_298 : decode cL_law 298 = .ok (.iload_n 3, 1) := by decide +kernel
theorem dL_law_299 : decode cL_law 299 = .ok (.iconst 1, 1) := by decide +kernel
theorem dL_law_300 : decode cL_law 300 = .ok (.iadd, 1) := by decide +kernel
theorem dL_law_301 : decode cL_law 301 = .ok (.iaload, 1) := by decide +kernel
theorem dL_law_302 : decode cL_law 302 = .ok (.invokevirtual 31, 3) := by decide +kernel
theorem dL_law_305 : decode cL_law 305 = .ok (.if_icmp .eq 854, 3) := by decide +kernel
theorem dL_law_308 : decode cL_law 308 = .ok (.iconst 0, 1) := by decide +kernel
theorem dL_law_309 : decode cL_law 309 = .ok (.ireturn, 1) := by decide +kernel
theorem dL_law_310 : decode cL_law 310 = .ok (.aload_n 1, 1) := by decide +kernel
theorem dL_law_311 : decode cL_law 311 = .ok (.aload_n 0, 1) := by decide +kernel
theorem dL_law_312 : decode cL_law 312 = .ok (.iload_n 3, 1) := by decide +kernel
theorem dL_law_313 : decode cL_law 313 = .ok (.iconst 1, 1) := by decide +kernel
theorem dL_law_314 : decode cL_law 314 = .ok (.iadd, 1) := by decide +kernel
theorem dL_law_315 : decode cL_law 315 = .ok (.iaload, 1) := by decide +kernel
theorem dL_law_316 : decode cL_law 316 = .ok (.invokevirtual 32, 3) := by decide +kernel
theorem dL_law_319 : decode cL_law 319 = .ok (.aload_n 2, 1) := by decide +kernel
theorem dL_law_320 : decode cL_law 320 = .ok (.aload_n 0, 1) := by decide +kernel
theorem dL_law_321 : decode cL_law 321 = .ok (.iload_n 3, 1) := by decide +kernel
theorem dL_law_322 : decode cL_law 322 = .ok (.iconst 1, 1) := by decide +kernel
theorem dL_law_323 : decode cL_law 323 = .ok (.iadd, 1) := by decide +kernel
theorem dL_law_324 : decode cL_law 324 = .ok (.iaload, 1) := by decide +kernel
theorem dL_law_325 : decode cL_law 325 = .ok (.invokevirtual 35, 3) := by decide +kernel
theorem dL_law_328 : decode cL_law 328 = .ok (.if_icmp .eq 831, 3) := by decide +kernel
theorem dL_law_331 : decode cL_law 331 = .ok (.iconst 0, 1) := by decide +kernel
theorem dL_law_332 : decode cL_law 332 = .ok (.ireturn, 1) := by decide +kernel
theorem dL_law_333 : decode cL_law 333 = .ok (.aload_n 1, 1) := by decide +kernel
theorem dL_law_334 : decode cL_law 334 = .ok (.aload_n 0, 1) := by decide +kernel
theorem dL_law_335 : decode cL_law 335 = .ok (.iload_n 3, 1) := by decide +kernel
theorem dL_law_336 : decode cL_law 336 = .ok (.iconst 1, 1) := by decide +kernel
theorem dL_law_337 : decode cL_law 337 = .ok (.iadd, 1) := by decide +kernel
theorem dL_law_338 : decode cL_law 338 = .ok (.iaload, 1) := by decide +kernel
theorem dL_law_339 : decode cL_law 339 = .ok (.aload_n 0, 1) := by decide +kernel
theorem dL_law_340 : decode cL_law 340 = .ok (.iload_n 3, 1) := by decide +kernel
theorem dL_law_341 : decode cL_law 341 = .ok (.iconst 2, 1) := by decide +kernel
theorem dL_law_342 : decode cL_law 342 = .ok (.iadd, 1) := by decide +kernel
theorem dL_law_343 : decode cL_law 343 = .ok (.iaload, 1) := by decide +kernel
theorem dL_law_344 : decode cL_law 344 = .ok (.invokevirtual 36, 3) := by decide +kernel
theorem dL_law_347 : decode cL_law 347 = .ok (.aload_n 2, 1) := by decide +kernel
theorem dL_law_348 : decode cL_law 348 = .ok (.aload_n 0, 1) := by decide +kernel
theorem dL_law_349 : decode cL_law 349 = .ok (.iload_n 3, 1) := by decide +kernel
theorem dL_law_350 : decode cL_law 350 = .ok (.iconst 1, 1) := by decide +kernel
theorem dL_law_351 : decode cL_law 351 = .ok (.iadd, 1) := by decide +kernel
theorem dL_law_352 : decode cL_law 352 = .ok (.iaload, 1) := by decide +kernel
theorem dL_law_353 : decode cL_law 353 = .ok (.aload_n 0, 1) := by decide +kernel
theorem dL_law_354 : decode cL_law 354 = .ok (.iload_n 3, 1) := by decide +kernel
theorem dL_law_355 : decode cL_law 355 = .ok (.iconst 2, 1) := by decide +kernel
theorem dL_law_356 : decode cL_law 356 = .ok (.iadd, 1) := by decide +kernel
theorem dL_law_357 : decode cL_law 357 = .ok (.iaload, 1) := by decide +kernel
theorem dL_law_358 : decode cL_law 358 = .ok (.invokevirtual 40, 3) := by decide +kernel
theorem dL_law_361 : decode cL_law 361 = .ok (.if_icmp .eq 798, 3) := by decide +kernel
theorem dL_law_364 : decode cL_law 364 = .ok (.iconst 0, 1) := by decide +kernel
theorem dL_law_365 : decode cL_law 365 = .ok (.ireturn, 1) := by decide +kernel
theorem dL_law_366 : decode cL_law 366 = .ok (.aload_n 1, 1) := by decide +kernel
theorem dL_law_367 : decode cL_law 367 = .ok (.aload_n 0, 1) := by decide +kernel
theorem dL_law_368 : decode cL_law 368 = .ok (.iload_n 3, 1) := by decide +kernel
theorem dL_law_369 : decode cL_law 369 = .ok (.iconst 1, 1) := by decide +kernel
theorem dL_law_370 : decode cL_law 370 = .ok (.iadd, 1) := by decide +kernel
theorem dL_law_371 : decode cL_law 371 = .ok (.iaload, 1) := by decide +kernel
theorem dL_law_372 : decode cL_law 372 = .ok (.invokevirtual 41, 3) := by decide +kernel
theorem dL_law_375 : decode cL_law 375 = .ok (.aload_n 2, 1) := by decide +kernel
theorem dL_law_376 : decode cL_law 376 = .ok (.aload_n 0, 1) := by decide +kernel
theorem dL_law_377 : decode cL_law 377 = .ok (.iload_n 3, 1) := by decide +kernel
theorem dL_law_378 : decode cL_law 378 = .ok (.iconst 1, 1) := by decide +kernel
theorem dL_law_379 : decode cL_law 379 = .ok (.iadd, 1) := by decide +kernel
theorem dL_law_380 : decode cL_law 380 = .ok (.iaload, 1) := by decide +kernel
theorem dL_law_381 : decode cL_law 381 = .ok (.invokevirtual 44, 3) := by decide +kernel
theorem dL_law_384 : decode cL_law 384 = .ok (.if_icmp .eq 775, 3) := by decide +kernel
theorem dL_law_387 : decode cL_law 387 = .ok (.iconst 0, 1) := by decide +kernel
theorem dL_law_388 : decode cL_law 388 = .ok (.ireturn, 1) := by decide +kernel
theorem dL_law_389 : decode cL_law 389 = .ok (.aload_n 1, 1) := by decide +kernel
theorem dL_law_390 : decode cL_law 390 = .ok (.aload_n 0, 1) := by decide +kernel
theorem dL_law_391 : decode cL_law 391 = .ok (.iload_n 3, 1) := by decide +kernel
theorem dL_law_392 : decode cL_law 392 = .ok (.iconst 1, 1) := by decide +kernel
theorem dL_law_393 : decode cL_law 393 = .ok (.iadd, 1) := by decide +kernel
theorem dL_law_394 : decode cL_law 394 = .ok (.iaload, 1) := by decide +kernel
theorem dL_law_395 : decode cL_law 395 = .ok (.aload_n 0, 1) := by decide +kernel
theorem dL_law_396 : decode cL_law 396 = .ok (.iload_n 3, 1) := by decide +kernel
theorem dL_law_397 : decode cL_law 397 = .ok (.iconst 2, 1) := by decide +kernel
theorem dL_law_398 : decode cL_law 398 = .ok (.iadd, 1) := by decide +kernel
theorem dL_law_399 : decode cL_law 399 = .ok (.iaload, 1) := by decide +kernel
theorem dL_law_400 : decode cL_law 400 = .ok (.invokevirtual 45, 3) := by decide +kernel
theorem dL_law_403 : decode cL_law 403 = .ok (.aload_n 2, 1) := by decide +kernel
theorem dL_law_404 : decode cL_law 404 = .ok (.aload_n 0, 1) := by decide +kernel
theorem dL_law_405 : decode cL_law 405 = .ok (.iload_n 3, 1) := by decide +kernel
theorem dL_law_406 : decode cL_law 406 = .ok (.iconst 1, 1) := by decide +kernel
theorem dL_law_407 : decode cL_law 407 = .ok (.iadd, 1) := by decide +kernel
theorem dL_law_408 : decode cL_law 408 = .ok (.iaload, 1) := by decide +kernel
theorem dL_law_409 : decode cL_law 409 = .ok (.aload_n 0, 1) := by decide +kernel
theorem dL_law_410 : decode cL_law 410 = .ok (.iload_n 3, 1) := by decide +kernel
theorem dL_law_411 : decode cL_law 411 = .ok (.iconst 2, 1) := by decide +kernel
theorem dL_law_412 : decode cL_law 412 = .ok (.iadd, 1) := by decide +kernel
theorem dL_law_413 : decode cL_law 413 = .ok (.iaload, 1) := by decide +kernel
theorem dL_law_414 : decode cL_law 414 = .ok (.invokevirtual 48, 3) := by decide +kernel
theorem dL_law_417 : decode cL_law 417 = .ok (.if_icmp .eq 742, 3) := by decide +kernel
theorem dL_law_420 : decode cL_law 420 = .ok (.iconst 0, 1) := by decide +kernel
theorem dL_law_421 : decode cL_law 421 = .ok (.ireturn, 1) := by decide +kernel
theorem dL_law_422 : decode cL_law 422 = .ok (.aload_n 1, 1) := by decide +kernel
theorem dL_law_423 : decode cL_law 423 = .ok (.aload_n 0, 1) := by decide +kernel
theorem dL_law_424 : decode cL_law 424 = .ok (.iload_n 3, 1) := by decide +kernel
theorem dL_law_425 : decode cL_law 425 = .ok (.iconst 1, 1) := by decide +kernel
theorem dL_law_426 : decode cL_law 426 = .ok (.iadd, 1) := by decide +kernel
theorem dL_law_427 : decode cL_law 427 = .ok (.iaload, 1) := by decide +kernel
theorem dL_law_428 : decode cL_law 428 = .ok (.aload_n 0, 1) := by decide +kernel
theorem dL_law_429 : decode cL_law 429 = .ok (.iload_n 3, 1) := by decide +kernel
theorem dL_law_430 : decode cL_law 430 = .ok (.iconst 2, 1) := by decide +kernel
theorem dL_law_431 : decode cL_law 431 = .ok (.iadd, 1) := by decide +kernel
theorem dL_law_432 : decode cL_law 432 = .ok (.iaload, 1) := by decide +kernel
theorem dL_law_433 : decode cL_law 433 = .ok (.invokevirtual 49, 3) := by decide +kernel
theorem dL_law_436 : decode cL_law 436 = .ok (.aload_n 2, 1) := by decide +kernel
theorem dL_law_437 : decode cL_law 437 = .ok (.aload_n 0, 1) := by decide +kernel
theorem dL_law_438 : decode cL_law 438 = .ok (.iload_n 3, 1) := by decide +kernel
theorem dL_law_439 : decode cL_law 439 = .ok (.iconst 1, 1) := by decide +kernel
theorem dL_law_440 : decode cL_law 440 = .ok (.iadd, 1) := by decide +kernel
theorem dL_law_441 : decode cL_law 441 = .ok (.iaload, 1) := by decide +kernel
theorem dL_law_442 : decode cL_law 442 = .ok (.aload_n 0, 1) := by decide +kernel
theorem dL_law_443 : decode cL_law 443 = .ok (.iload_n 3, 1) := by decide +kernel
theorem dL_law_444 : decode cL_law 444 = .ok (.iconst 2, 1) := by decide +kernel
theorem dL_law_445 : decode cL_law 445 = .ok (.iadd, 1) := by decide +kernel
theorem dL_law_446 : decode cL_law 446 = .ok (.iaload, 1) := by decide +kernel
theorem dL_law_447 : decode cL_law 447 = .ok (.invokevirtual 52, 3) := by decide +kernel
theorem dL_law_450 : decode cL_law 450 = .ok (.if_icmp .eq 709, 3) := by decide +kernel
theorem dL_law_453 : decode cL_law 453 = .ok (.iconst 0, 1) := by decide +kernel
theorem dL_law_454 : decode cL_law 454 = .ok (.ireturn, 1) := by decide +kernel
theorem dL_law_455 : decode cL_law 455 = .ok (.aload_n 1, 1) := by decide +kernel
theorem dL_law_456 : decode cL_law 456 = .ok (.aload_n 0, 1) := by decide +kernel
theorem dL_law_457 : decode cL_law 457 = .ok (.iload_n 3, 1) := by decide +kernel
theorem dL_law_458 : decode cL_law 458 = .ok (.iconst 1, 1) := by decide +kernel
theorem dL_law_459 : decode cL_law 459 = .ok (.iadd, 1) := by decide +kernel
theorem dL_law_460 : decode cL_law 460 = .ok (.iaload, 1) := by decide +kernel
theorem dL_law_461 : decode cL_law 461 = .ok (.invokevirtual 53, 3) := by decide +kernel
theorem dL_law_464 : decode cL_law 464 = .ok (.aload_n 2, 1) := by decide +kernel
theorem dL_law_465 : decode cL_law 465 = .ok (.aload_n 0, 1) := by decide +kernel
theorem dL_law_466 : decode cL_law 466 = .ok (.iload_n 3, 1) := by decide +kernel
theorem dL_law_467 : decode cL_law 467 = .ok (.iconst 1, 1) := by decide +kernel
theorem dL_law_468 : decode cL_law 468 = .ok (.iadd, 1) := by decide +kernel
theorem dL_law_469 : decode cL_law 469 = .ok (.iaload, 1) := by decide +kernel
theorem dL_law_470 : decode cL_law 470 = .ok (.invokevirtual 56, 3) := by decide +kernel
theorem dL_law_473 : decode cL_law 473 = .ok (.if_icmp .eq 686, 3) := by decide +kernel
theorem dL_law_476 : decode cL_law 476 = .ok (.iconst 0, 1) := by decide +kernel
theorem dL_law_477 : decode cL_law 477 = .ok (.ireturn, 1) := by decide +kernel
theorem dL_law_478 : decode cL_law 478 = .ok (.aload_n 1, 1) := by decide +kernel
theorem dL_law_479 : decode cL_law 479 = .ok (.aload_n 0, 1) := by decide +kernel
theorem dL_law_480 : decode cL_law 480 = .ok (.iload_n 3, 1) := by decide +kernel
theorem dL_law_481 : decode cL_law 481 = .ok (.iconst 1, 1) := by decide +kernel
theorem dL_law_482 : decode cL_law 482 = .ok (.iadd, 1) := by decide +kernel
theorem dL_law_483 : decode cL_law 483 = .ok (.iaload, 1) := by decide +kernel
theorem dL_law_484 : decode cL_law 484 = .ok (.invokevirtual 57, 3) := by decide +kernel
theorem dL_law_487 : decode cL_law 487 = .ok (.aload_n 2, 1) := by decide +kernel
theorem dL_law_488 : decode cL_law 488 = .ok (.aload_n 0, 1) := by decide +kernel
theorem dL_law_489 : decode cL_law 489 = .ok (.iload_n 3, 1) := by decide +kernel
theorem dL_law_490 : decode cL_law 490 = .ok (.iconst 1, 1) := by decide +kernel
theorem dL_law_491 : decode cL_law 491 = .ok (.iadd, 1) := by decide +kernel
theorem dL_law_492 : decode cL_law 492 = .ok (.iaload, 1) := by decide +kernel
theorem dL_law_493 : decode cL_law 493 = .ok (.invokevirtual 60, 3) := by decide +kernel
theorem dL_law_496 : decode cL_law 496 = .ok (.if_icmp .eq 663, 3) := by decide +kernel
theorem dL_law_499 : decode cL_law 499 = .ok (.iconst 0, 1) := by decide +kernel
theorem dL_law_500 : decode cL_law 500 = .ok (.ireturn, 1) := by decide +kernel
theorem dL_law_501 : decode cL_law 501 = .ok (.aload_n 1, 1) := by decide +kernel
theorem dL_law_502 : decode cL_law 502 = .ok (.aload_n 0, 1) := by decide +kernel
theorem dL_law_503 : decode cL_law 503 = .ok (.iload_n 3, 1) := by decide +kernel
theorem dL_law_504 : decode cL_law 504 = .ok (.iconst 1, 1) := by decide +kernel
theorem dL_law_505 : decode cL_law 505 = .ok (.iadd, 1) := by decide +kernel
theorem dL_law_506 : decode cL_law 506 = .ok (.iaload, 1) := by decide +kernel
theorem dL_law_507 : decode cL_law 507 = .ok (.aload_n 0, 1) := by decide +kernel
theorem dL_law_508 : decode cL_law 508 = .ok (.iload_n 3, 1) := by decide +kernel
theorem dL_law_509 : decode cL_law 509 = .ok (.iconst 2, 1) := by decide +kernel
theorem dL_law_510 : decode cL_law 510 = .ok (.iadd, 1) := by decide +kernel
theorem dL_law_511 : decode cL_law 511 = .ok (.iaload, 1) := by decide +kernel
theorem dL_law_512 : decode cL_law 512 = .ok (.invokevirtual 61, 3) := by decide +kernel
theorem dL_law_515 : decode cL_law 515 = .ok (.aload_n 2, 1) := by decide +kernel
theorem dL_law_516 : decode cL_law 516 = .ok (.aload_n 0, 1) := by decide +kernel
theorem dL_law_517 : decode cL_law 517 = .ok (.iload_n 3, 1) := by decide +kernel
theorem dL_law_518 : decode cL_law 518 = .ok (.iconst 1, 1) := by decide +kernel
theorem dL_law_519 : decode cL_law 519 = .ok (.iadd, 1) := by decide +kernel
theorem dL_law_520 : decode cL_law 520 = .ok (.iaload, 1) := by decide +kernel
theorem dL_law_521 : decode cL_law 521 = .ok (.aload_n 0, 1) := by decide +kernel
theorem dL_law_522 : decode cL_law 522 = .ok (.iload_n 3, 1) := by decide +kernel
theorem dL_law_523 : decode cL_law 523 = .ok (.iconst 2, 1) := by decide +kernel
theorem dL_law_524 : decode cL_law 524 = .ok (.iadd, 1) := by decide +kernel
theorem dL_law_525 : decode cL_law 525 = .ok (.iaload, 1) := by decide +kernel
theorem dL_law_526 : decode cL_law 526 = .ok (.invokevirtual 64, 3) := by decide +kernel
theorem dL_law_529 : decode cL_law 529 = .ok (.if_icmp .eq 630, 3) := by decide +kernel
theorem dL_law_532 : decode cL_law 532 = .ok (.iconst 0, 1) := by decide +kernel
theorem dL_law_533 : decode cL_law 533 = .ok (.ireturn, 1) := by decide +kernel
theorem dL_law_534 : decode cL_law 534 = .ok (.aload_n 1, 1) := by decide +kernel
theorem dL_law_535 : decode cL_law 535 = .ok (.aload_n 0, 1) := by decide +kernel
theorem dL_law_536 : decode cL_law 536 = .ok (.iload_n 3, 1) := by decide +kernel
theorem dL_law_537 : decode cL_law 537 = .ok (.iconst 1, 1) := by decide +kernel
theorem dL_law_538 : decode cL_law 538 = .ok (.iadd, 1) := by decide +kernel
theorem dL_law_539 : decode cL_law 539 = .ok (.iaload, 1) := by decide +kernel
theorem dL_law_540 : decode cL_law 540 = .ok (.aload_n 0, 1) := by decide +kernel
theorem dL_law_541 : decode cL_law 541 = .ok (.iload_n 3, 1) := by decide +kernel
theorem dL_law_542 : decode cL_law 542 = .ok (.iconst 2, 1) := by decide +kernel
theorem dL_law_543 : decode cL_law 543 = .ok (.iadd, 1) := by decide +kernel
theorem dL_law_544 : decode cL_law 544 = .ok (.iaload, 1) := by decide +kernel
theorem dL_law_545 : decode cL_law 545 = .ok (.invokevirtual 65, 3) := by decide +kernel
theorem dL_law_548 : decode cL_law 548 = .ok (.aload_n 2, 1) := by decide +kernel
theorem dL_law_549 : decode cL_law 549 = .ok (.aload_n 0, 1) := by decide +kernel
theorem dL_law_550 : decode cL_law 550 = .ok (.iload_n 3, 1) := by decide +kernel
theorem dL_law_551 : decode cL_law 551 = .ok (.iconst 1, 1) := by decide +kernel
theorem dL_law_552 : decode cL_law 552 = .ok (.iadd, 1) := by decide +kernel
theorem dL_law_553 : decode cL_law 553 = .ok (.iaload, 1) := by decide +kernel
theorem dL_law_554 : decode cL_law 554 = .ok (.aload_n 0, 1) := by decide +kernel
theorem dL_law_555 : decode cL_law 555 = .ok (.iload_n 3, 1) := by decide +kernel
theorem dL_law_556 : decode cL_law 556 = .ok (.iconst 2, 1) := by decide +kernel
theorem dL_law_557 : decode cL_law 557 = .ok (.iadd, 1) := by decide +kernel
theorem dL_law_558 : decode cL_law 558 = .ok (.iaload, 1) := by decide +kernel
theorem dL_law_559 : decode cL_law 559 = .ok (.invokevirtual 68, 3) := by decide +kernel
theorem dL_law_562 : decode cL_law 562 = .ok (.if_icmp .eq 597, 3) := by decide +kernel
theorem dL_law_565 : decode cL_law 565 = .ok (.iconst 0, 1) := by decide +kernel
theorem dL_law_566 : decode cL_law 566 = .ok (.ireturn, 1) := by decide +kernel
theorem dL_law_567 : decode cL_law 567 = .ok (.aload_n 1, 1) := by decide +kernel
theorem dL_law_568 : decode cL_law 568 = .ok (.aload_n 0, 1) := by decide +kernel
theorem dL_law_569 : decode cL_law 569 = .ok (.iload_n 3, 1) := by decide +kernel
theorem dL_law_570 : decode cL_law 570 = .ok (.iconst 1, 1) := by decide +kernel
theorem dL_law_571 : decode cL_law 571 = .ok (.iadd, 1) := by decide +kernel
theorem dL_law_572 : decode cL_law 572 = .ok (.iaload, 1) := by decide +kernel
theorem dL_law_573 : decode cL_law 573 = .ok (.invokevirtual 69, 3) := by decide +kernel
theorem dL_law_576 : decode cL_law 576 = .ok (.aload_n 2, 1) := by decide +kernel
theorem dL_law_577 : decode cL_law 577 = .ok (.aload_n 0, 1) := by decide +kernel
theorem dL_law_578 : decode cL_law 578 = .ok (.iload_n 3, 1) := by decide +kernel
theorem dL_law_579 : decode cL_law 579 = .ok (.iconst 1, 1) := by decide +kernel
theorem dL_law_580 : decode cL_law 580 = .ok (.iadd, 1) := by decide +kernel
theorem dL_law_581 : decode cL_law 581 = .ok (.iaload, 1) := by decide +kernel
theorem dL_law_582 : decode cL_law 582 = .ok (.invokevirtual 72, 3) := by decide +kernel
theorem dL_law_585 : decode cL_law 585 = .ok (.if_icmp .eq 574, 3) := by decide +kernel
theorem dL_law_588 : decode cL_law 588 = .ok (.iconst 0, 1) := by decide +kernel
theorem dL_law_589 : decode cL_law 589 = .ok (.ireturn, 1) := by decide +kernel
theorem dL_law_590 : decode cL_law 590 = .ok (.aload_n 1, 1) := by decide +kernel
theorem dL_law_591 : decode cL_law 591 = .ok (.aload_n 0, 1) := by decide +kernel
theorem dL_law_592 : decode cL_law 592 = .ok (.iload_n 3, 1) := by decide +kernel
theorem dL_law_593 : decode cL_law 593 = .ok (.iconst 1, 1) := by decide +kernel
theorem dL_law_594 : decode cL_law 594 = .ok (.iadd, 1) := by decide +kernel
theorem dL_law_595 : decode cL_law 595 = .ok (.iaload, 1) := by decide +kernel
theorem dL_law_596 : decode cL_law 596 = .ok (.invokevirtual 73, 3) := by decide +kernel
theorem dL_law_599 : decode cL_law 599 = .ok (.aload_n 2, 1) := by decide +kernel
theorem dL_law_600 : decode cL_law 600 = .ok (.aload_n 0, 1) := by decide +kernel
theorem dL_law_601 : decode cL_law 601 = .ok (.iload_n 3, 1) := by decide +kernel
theorem dL_law_602 : decode cL_law 602 = .ok (.iconst 1, 1) := by decide +kernel
theorem dL_law_603 : decode cL_law 603 = .ok (.iadd, 1) := by decide +kernel
theorem dL_law_604 : decode cL_law 604 = .ok (.iaload, 1) := by decide +kernel
theorem dL_law_605 : decode cL_law 605 = .ok (.invokevirtual 76, 3) := by decide +kernel
theorem dL_law_608 : decode cL_law 608 = .ok (.if_icmp .eq 551, 3) := by decide +kernel
theorem dL_law_611 : decode cL_law 611 = .ok (.iconst 0, 1) := by decide +kernel
theorem dL_law_612 : decode cL_law 612 = .ok (.ireturn, 1) := by decide +kernel
theorem dL_law_613 : decode cL_law 613 = .ok (.aload_n 1, 1) := by decide +kernel
theorem dL_law_614 : decode cL_law 614 = .ok (.aload_n 0, 1) := by decide +kernel
theorem dL_law_615 : decode cL_law 615 = .ok (.iload_n 3, 1) := by decide +kernel
theorem dL_law_616 : decode cL_law 616 = .ok (.iconst 1, 1) := by decide +kernel
theorem dL_law_617 : decode cL_law 617 = .ok (.iadd, 1) := by decide +kernel
theorem dL_law_618 : decode cL_law 618 = .ok (.iaload, 1) := by decide +kernel
theorem dL_law_619 : decode cL_law 619 = .ok (.invokevirtual 77, 3) := by decide +kernel
theorem dL_law_622 : decode cL_law 622 = .ok (.aload_n 2, 1) := by decide +kernel
theorem dL_law_623 : decode cL_law 623 = .ok (.aload_n 0, 1) := by decide +kernel
theorem dL_law_624 : decode cL_law 624 = .ok (.iload_n 3, 1) := by decide +kernel
theorem dL_law_625 : decode cL_law 625 = .ok (.iconst 1, 1) := by decide +kernel
theorem dL_law_626 : decode cL_law 626 = .ok (.iadd, 1) := by decide +kernel
theorem dL_law_627 : decode cL_law 627 = .ok (.iaload, 1) := by decide +kernel
theorem dL_law_628 : decode cL_law 628 = .ok (.invokevirtual 80, 3) := by decide +kernel
theorem dL_law_631 : decode cL_law 631 = .ok (.if_icmp .eq 528, 3) := by decide +kernel
theorem dL_law_634 : decode cL_law 634 = .ok (.iconst 0, 1) := by decide +kernel
theorem dL_law_635 : decode cL_law 635 = .ok (.ireturn, 1) := by decide +kernel
theorem dL_law_636 : decode cL_law 636 = .ok (.aload_n 1, 1) := by decide +kernel
theorem dL_law_637 : decode cL_law 637 = .ok (.aload_n 0, 1) := by decide +kernel
theorem dL_law_638 : decode cL_law 638 = .ok (.iload_n 3, 1) := by decide +kernel
theorem dL_law_639 : decode cL_law 639 = .ok (.iconst 1, 1) := by decide +kernel
theorem dL_law_640 : decode cL_law 640 = .ok (.iadd, 1) := by decide +kernel
theorem dL_law_641 : decode cL_law 641 = .ok (.iaload, 1) := by decide +kernel
theorem dL_law_642 : decode cL_law 642 = .ok (.invokevirtual 81, 3) := by decide +kernel
theorem dL_law_645 : decode cL_law 645 = .ok (.aload_n 2, 1) := by decide +kernel
theorem dL_law_646 : decode cL_law 646 = .ok (.aload_n 0, 1) := by decide +kernel
theorem dL_law_647 : decode cL_law 647 = .ok (.iload_n 3, 1) := by decide +kernel
theorem dL_law_648 : decode cL_law 648 = .ok (.iconst 1, 1) := by decide +kernel
theorem dL_law_649 : decode cL_law 649 = .ok (.iadd, 1) := by decide +kernel
theorem dL_law_650 : decode cL_law 650 = .ok (.iaload, 1) := by decide +kernel
theorem dL_law_651 : decode cL_law 651 = .ok (.invokevirtual 84, 3) := by decide +kernel
theorem dL_law_654 : decode cL_law 654 = .ok (.if_icmp .eq 505, 3) := by decide +kernel
theorem dL_law_657 : decode cL_law 657 = .ok (.iconst 0, 1) := by decide +kernel
theorem dL_law_658 : decode cL_law 658 = .ok (.ireturn, 1) := by decide +kernel
theorem dL_law_659 : decode cL_law 659 = .ok (.aload_n 1, 1) := by decide +kernel
theorem dL_law_660 : decode cL_law 660 = .ok (.aload_n 0, 1) := by decide +kernel
theorem dL_law_661 : decode cL_law 661 = .ok (.iload_n 3, 1) := by decide +kernel
theorem dL_law_662 : decode cL_law 662 = .ok (.iconst 1, 1) := by decide +kernel
theorem dL_law_663 : decode cL_law 663 = .ok (.iadd, 1) := by decide +kernel
theorem dL_law_664 : decode cL_law 664 = .ok (.iaload, 1) := by decide +kernel
theorem dL_law_665 : decode cL_law 665 = .ok (.aload_n 0, 1) := by decide +kernel
theorem dL_law_666 : decode cL_law 666 = .ok (.iload_n 3, 1) := by decide +kernel
theorem dL_law_667 : decode cL_law 667 = .ok (.iconst 2, 1) := by decide +kernel
theorem dL_law_668 : decode cL_law 668 = .ok (.iadd, 1) := by decide +kernel
theorem dL_law_669 : decode cL_law 669 = .ok (.iaload, 1) := by decide +kernel
theorem dL_law_670 : decode cL_law 670 = .ok (.invokevirtual 85, 3) := by decide +kernel
theorem dL_law_673 : decode cL_law 673 = .ok (.aload_n 2, 1) := by decide +kernel
theorem dL_law_674 : decode cL_law 674 = .ok (.aload_n 0, 1) := by decide +kernel
theorem dL_law_675 : decode cL_law 675 = .ok (.iload_n 3, 1) := by decide +kernel
theorem dL_law_676 : decode cL_law 676 = .ok (.iconst 1, 1) := by decide +kernel
theorem dL_law_677 : decode cL_law 677 = .ok (.iadd, 1) := by decide +kernel
theorem dL_law_678 : decode cL_law 678 = .ok (.iaload, 1) := by decide +kernel
theorem dL_law_679 : decode cL_law 679 = .ok (.aload_n 0, 1) := by decide +kernel
theorem dL_law_680 : decode cL_law 680 = .ok (.iload_n 3, 1) := by decide +kernel
theorem dL_law_681 : decode cL_law 681 = .ok (.iconst 2, 1) := by decide +kernel
theorem dL_law_682 : decode cL_law 682 = .ok (.iadd, 1) := by decide +kernel
theorem dL_law_683 : decode cL_law 683 = .ok (.iaload, 1) := by decide +kernel
theorem dL_law_684 : decode cL_law 684 = .ok (.invokevirtual 88, 3) := by decide +kernel
theorem dL_law_687 : decode cL_law 687 = .ok (.if_icmp .eq 472, 3) := by decide +kernel
theorem dL_law_690 : decode cL_law 690 = .ok (.iconst 0, 1) := by decide +kernel
theorem dL_law_691 : decode cL_law 691 = .ok (.ireturn, 1) := by decide +kernel
theorem dL_law_692 : decode cL_law 692 = .ok (.aload_n 1, 1) := by decide +kernel
theorem dL_law_693 : decode cL_law 693 = .ok (.invokevirtual 89, 3) := by decide +kernel
theorem dL_law_696 : decode cL_law 696 = .ok (.aload_n 2, 1) := by decide +kernel
theorem dL_law_697 : decode cL_law 697 = .ok (.invokevirtual 92, 3) := by decide +kernel
theorem dL_law_700 : decode cL_law 700 = .ok (.if_icmp .eq 459, 3) := by decide +kernel
theorem dL_law_703 : decode cL_law 703 = .ok (.iconst 0, 1) := by decide +kernel
theorem dL_law_704 : decode cL_law 704 = .ok (.ireturn, 1) := by decide +kernel
theorem dL_law_705 : decode cL_law 705 = .ok (.aload_n 1, 1) := by decide +kernel
theorem dL_law_706 : decode cL_law 706 = .ok (.aload_n 0, 1) := by decide +kernel
theorem dL_law_707 : decode cL_law 707 = .ok (.iload_n 3, 1) := by decide +kernel
theorem dL_law_708 : decode cL_law 708 = .ok (.iconst 1, 1) := by decide +kernel
theorem dL_law_709 : decode cL_law 709 = .ok (.iadd, 1) := by decide +kernel
theorem dL_law_710 : decode cL_law 710 = .ok (.iaload, 1) := by decide +kernel
theorem dL_law_711 : decode cL_law 711 = .ok (.aload_n 0, 1) := by decide +kernel
theorem dL_law_712 : decode cL_law 712 = .ok (.iload_n 3, 1) := by decide +kernel
theorem dL_law_713 : decode cL_law 713 = .ok (.iconst 2, 1) := by decide +kernel
theorem dL_law_714 : decode cL_law 714 = .ok (.iadd, 1) := by decide +kernel
theorem dL_law_715 : decode cL_law 715 = .ok (.iaload, 1) := by decide +kernel
theorem dL_law_716 : decode cL_law 716 = .ok (.invokevirtual 93, 3) := by decide +kernel
theorem dL_law_719 : decode cL_law 719 = .ok (.aload_n 2, 1) := by decide +kernel
theorem dL_law_720 : decode cL_law 720 = .ok (.aload_n 0, 1) := by decide +kernel
theorem dL_law_721 : decode cL_law 721 = .ok (.iload_n 3, 1) := by decide +kernel
theorem dL_law_722 : decode cL_law 722 = .ok (.iconst 1, 1) := by decide +kernel
theorem dL_law_723 : decode cL_law 723 = .ok (.iadd, 1) := by decide +kernel
theorem dL_law_724 : decode cL_law 724 = .ok (.iaload, 1) := by decide +kernel
theorem dL_law_725 : decode cL_law 725 = .ok (.aload_n 0, 1) := by decide +kernel
theorem dL_law_726 : decode cL_law 726 = .ok (.iload_n 3, 1) := by decide +kernel
theorem dL_law_727 : decode cL_law 727 = .ok (.iconst 2, 1) := by decide +kernel
theorem dL_law_728 : decode cL_law 728 = .ok (.iadd, 1) := by decide +kernel
theorem dL_law_729 : decode cL_law 729 = .ok (.iaload, 1) := by decide +kernel
theorem dL_law_730 : decode cL_law 730 = .ok (.invokevirtual 96, 3) := by decide +kernel
theorem dL_law_733 : decode cL_law 733 = .ok (.if_icmp .eq 426, 3) := by decide +kernel
theorem dL_law_736 : decode cL_law 736 = .ok (.iconst 0, 1) := by decide +kernel
theorem dL_law_737 : decode cL_law 737 = .ok (.ireturn, 1) := by decide +kernel
theorem dL_law_738 : decode cL_law 738 = .ok (.aload_n 1, 1) := by decide +kernel
theorem dL_law_739 : decode cL_law 739 = .ok (.invokevirtual 97, 3) := by decide +kernel
theorem dL_law_742 : decode cL_law 742 = .ok (.aload_n 2, 1) := by decide +kernel
theorem dL_law_743 : decode cL_law 743 = .ok (.invokevirtual 100, 3) := by decide +kernel
theorem dL_law_746 : decode cL_law 746 = .ok (.if_icmp .eq 413, 3) := by decide +kernel
theorem dL_law_749 : decode cL_law 749 = .ok (.iconst 0, 1) := by decide +kernel
theorem dL_law_750 : decode cL_law 750 = .ok (.ireturn, 1) := by decide +kernel
theorem dL_law_751 : decode cL_law 751 = .ok (.aload_n 1, 1) := by decide +kernel
theorem dL_law_752 : decode cL_law 752 = .ok (.aload_n 0, 1) := by decide +kernel
theorem dL_law_753 : decode cL_law 753 = .ok (.iload_n 3, 1) := by decide +kernel
theorem dL_law_754 : decode cL_law 754 = .ok (.iconst 1, 1) := by decide +kernel
theorem dL_law_755 : decode cL_law 755 = .ok (.iadd, 1) := by decide +kernel
theorem dL_law_756 : decode cL_law 756 = .ok (.iaload, 1) := by decide +kernel
theorem dL_law_757 : decode cL_law 757 = .ok (.aload_n 0, 1) := by decide +kernel
theorem dL_law_758 : decode cL_law 758 = .ok (.iload_n 3, 1) := by decide +kernel
theorem dL_law_759 : decode cL_law 759 = .ok (.iconst 2, 1) := by decide +kernel
theorem dL_law_760 : decode cL_law 760 = .ok (.iadd, 1) := by decide +kernel
theorem dL_law_761 : decode cL_law 761 = .ok (.iaload, 1) := by decide +kernel
theorem dL_law_762 : decode cL_law 762 = .ok (.aload_n 0, 1) := by decide +kernel
theorem dL_law_763 : decode cL_law 763 = .ok (.iload_n 3, 1) := by decide +kernel
theorem dL_law_764 : decode cL_law 764 = .ok (.iconst 3, 1) := by decide +kernel
theorem dL_law_765 : decode cL_law 765 = .ok (.iadd, 1) := by decide +kernel
theorem dL_law_766 : decode cL_law 766 = .ok (.iaload, 1) := by decide +kernel
theorem dL_law_767 : decode cL_law 767 = .ok (.invokevirtual 101, 3) := by decide +kernel
theorem dL_law_770 : decode cL_law 770 = .ok (.aload_n 2, 1) := by decide +kernel
theorem dL_law_771 : decode cL_law 771 = .ok (.aload_n 0, 1) := by decide +kernel
theorem dL_law_772 : decode cL_law 772 = .ok (.iload_n 3, 1) := by decide +kernel
theorem dL_law_773 : decode cL_law 773 = .ok (.iconst 1, 1) := by decide +kernel
theorem dL_law_774 : decode cL_law 774 = .ok (.iadd, 1) := by decide +kernel
theorem dL_law_775 : decode cL_law 775 = .ok (.iaload, 1) := by decide +kernel
theorem dL_law_776 : decode cL_law 776 = .ok (.aload_n 0, 1) := by decide +kernel
theorem dL_law_777 : decode cL_law 777 = .ok (.iload_n 3, 1) := by decide +kernel
theorem dL_law_778 : decode cL_law 778 = .ok (.iconst 2, 1) := by decide +kernel
theorem dL_law_779 : decode cL_law 779 = .ok (.iadd, 1) := by decide +kernel
theorem dL_law_780 : decode cL_law 780 = .ok (.iaload, 1) := by decide +kernel
theorem dL_law_781 : decode cL_law 781 = .ok (.aload_n 0, 1) := by decide +kernel
theorem dL_law_782 : decode cL_law 782 = .ok (.iload_n 3, 1) := by decide +kernel
theorem dL_law_783 : decode cL_law 783 = .ok (.iconst 3, 1) := by decide +kernel
theorem dL_law_784 : decode cL_law 784 = .ok (.iadd, 1) := by decide +kernel
theorem dL_law_785 : decode cL_law 785 = .ok (.iaload, 1) := by decide +kernel
theorem dL_law_786 : decode cL_law 786 = .ok (.invokevirtual 105, 3) := by decide +kernel
theorem dL_law_789 : decode cL_law 789 = .ok (.if_icmp .eq 370, 3) := by decide +kernel
theorem dL_law_792 : decode cL_law 792 = .ok (.iconst 0, 1) := by decide +kernel
theorem dL_law_793 : decode cL_law 793 = .ok (.ireturn, 1) := by decide +kernel
theorem dL_law_794 : decode cL_law 794 = .ok (.aload_n 1, 1) := by decide +kernel
theorem dL_law_795 : decode cL_law 795 = .ok (.aload_n 0, 1) := by decide +kernel
theorem dL_law_796 : decode cL_law 796 = .ok (.iload_n 3, 1) := by decide +kernel
theorem dL_law_797 : decode cL_law 797 = .ok (.iconst 1, 1) := by decide +kernel
theorem dL_law_798 : decode cL_law 798 = .ok (.iadd, 1) := by decide +kernel
theorem dL_law_799 : decode cL_law 799 = .ok (.iaload, 1) := by decide +kernel
theorem dL_law_800 : decode cL_law 800 = .ok (.aload_n 0, 1) := by decide +kernel
theorem dL_law_801 : decode cL_law 801 = .ok (.iload_n 3, 1) := by decide +kernel
theorem dL_law_802 : decode cL_law 802 = .ok (.iconst 2, 1) := by decide +kernel
theorem dL_law_803 : decode cL_law 803 = .ok (.iadd, 1) := by decide +kernel
theorem dL_law_804 : decode cL_law 804 = .ok (.iaload, 1) := by decide +kernel
theorem dL_law_805 : decode cL_law 805 = .ok (.invokevirtual 106, 3) := by decide +kernel
theorem dL_law_808 : decode cL_law 808 = .ok (.aload_n 2, 1) := by decide +kernel
theorem dL_law_809 : decode cL_law 809 = .ok (.aload_n 0, 1) := by decide +kernel
theorem dL_law_810 : decode cL_law 810 = .ok (.iload_n 3, 1) := by decide +kernel
theorem dL_law_811 : decode cL_law 811 = .ok (.iconst 1, 1) := by decide +kernel
theorem dL_law_812 : decode cL_law 812 = .ok (.iadd, 1) := by decide +kernel
theorem dL_law_813 : decode cL_law 813 = .ok (.iaload, 1) := by decide +kernel
theorem dL_law_814 : decode cL_law 814 = .ok (.aload_n 0, 1) := by decide +kernel
theorem dL_law_815 : decode cL_law 815 = .ok (.iload_n 3, 1) := by decide +kernel
theorem dL_law_816 : decode cL_law 816 = .ok (.iconst 2, 1) := by decide +kernel
theorem dL_law_817 : decode cL_law 817 = .ok (.iadd, 1) := by decide +kernel
theorem dL_law_818 : decode cL_law 818 = .ok (.iaload, 1) := by decide +kernel
theorem dL_law_819 : decode cL_law 819 = .ok (.invokevirtual 109, 3) := by decide +kernel
theorem dL_law_822 : decode cL_law 822 = .ok (.if_icmp .eq 337, 3) := by decide +kernel
theorem dL_law_825 : decode cL_law 825 = .ok (.iconst 0, 1) := by decide +kernel
theorem dL_law_826 : decode cL_law 826 = .ok (.ireturn, 1) := by decide +kernel
theorem dL_law_827 : decode cL_law 827 = .ok (.aload_n 1, 1) := by decide +kernel
theorem dL_law_828 : decode cL_law 828 = .ok (.aload_n 0, 1) := by decide +kernel
theorem dL_law_829 : decode cL_law 829 = .ok (.iload_n 3, 1) := by decide +kernel
theorem dL_law_830 : decode cL_law 830 = .ok (.iconst 1, 1) := by decide +kernel
theorem dL_law_831 : decode cL_law 831 = .ok (.iadd, 1) := by decide +kernel
theorem dL_law_832 : decode cL_law 832 = .ok (.iaload, 1) := by decide +kernel
theorem dL_law_833 : decode cL_law 833 = .ok (.invokevirtual 110, 3) := by decide +kernel
theorem dL_law_836 : decode cL_law 836 = .ok (.aload_n 2, 1) := by decide +kernel
theorem dL_law_837 : decode cL_law 837 = .ok (.aload_n 0, 1) := by decide +kernel
theorem dL_law_838 : decode cL_law 838 = .ok (.iload_n 3, 1) := by decide +kernel
theorem dL_law_839 : decode cL_law 839 = .ok (.iconst 1, 1) := by decide +kernel
theorem dL_law_840 : decode cL_law 840 = .ok (.iadd, 1) := by decide +kernel
theorem dL_law_841 : decode cL_law 841 = .ok (.iaload, 1) := by decide +kernel
theorem dL_law_842 : decode cL_law 842 = .ok (.invokevirtual 113, 3) := by decide +kernel
theorem dL_law_845 : decode cL_law 845 = .ok (.if_icmp .eq 314, 3) := by decide +kernel
theorem dL_law_848 : decode cL_law 848 = .ok (.iconst 0, 1) := by decide +kernel
theorem dL_law_849 : decode cL_law 849 = .ok (.ireturn, 1) := by decide +kernel
theorem dL_law_850 : decode cL_law 850 = .ok (.aload_n 1, 1) := by decide +kernel
theorem dL_law_851 : decode cL_law 851 = .ok (.aload_n 0, 1) := by decide +kernel
theorem dL_law_852 : decode cL_law 852 = .ok (.iload_n 3, 1) := by decide +kernel
theorem dL_law_853 : decode cL_law 853 = .ok (.iconst 1, 1) := by decide +kernel
theorem dL_law_854 : decode cL_law 854 = .ok (.iadd, 1) := by decide +kernel
theorem dL_law_855 : decode cL_law 855 = .ok (.iaload, 1) := by decide +kernel
theorem dL_law_856 : decode cL_law 856 = .ok (.invokevirtual 114, 3) := by decide +kernel
theorem dL_law_859 : decode cL_law 859 = .ok (.aload_n 2, 1) := by decide +kernel
theorem dL_law_860 : decode cL_law 860 = .ok (.aload_n 0, 1) := by decide +kernel
theorem dL_law_861 : decode cL_law 861 = .ok (.iload_n 3, 1) := by decide +kernel
theorem dL_law_862 : decode cL_law 862 = .ok (.iconst 1, 1) := by decide +kernel
theorem dL_law_863 : decode cL_law 863 = .ok (.iadd, 1) := by decide +kernel
theorem dL_law_864 : decode cL_law 864 = .ok (.iaload, 1) := by decide +kernel
theorem dL_law_865 : decode cL_law 865 = .ok (.invokevirtual 117, 3) := by decide +kernel
theorem dL_law_868 : decode cL_law 868 = .ok (.if_icmp .eq 291, 3) := by decide +kernel
theorem dL_law_871 : decode cL_law 871 = .ok (.iconst 0, 1) := by decide +kernel
theorem dL_law_872 : decode cL_law 872 = .ok (.ireturn, 1) := by decide +kernel
theorem dL_law_873 : decode cL_law 873 = .ok (.aload_n 1, 1) := by decide +kernel
theorem dL_law_874 : decode cL_law 874 = .ok (.aload_n 0, 1) := by decide +kernel
theorem dL_law_875 : decode cL_law 875 = .ok (.iload_n 3, 1) := by decide +kernel
theorem dL_law_876 : decode cL_law 876 = .ok (.iconst 1, 1) := by decide +kernel
theorem dL_law_877 : decode cL_law 877 = .ok (.iadd, 1) := by decide +kernel
theorem dL_law_878 : decode cL_law 878 = .ok (.iaload, 1) := by decide +kernel
theorem dL_law_879 : decode cL_law 879 = .ok (.aload_n 0, 1) := by decide +kernel
theorem dL_law_880 : decode cL_law 880 = .ok (.iload_n 3, 1) := by decide +kernel
theorem dL_law_881 : decode cL_law 881 = .ok (.iconst 2, 1) := by decide +kernel
theorem dL_law_882 : decode cL_law 882 = .ok (.iadd, 1) := by decide +kernel
theorem dL_law_883 : decode cL_law 883 = .ok (.iaload, 1) := by decide +kernel
theorem dL_law_884 : decode cL_law 884 = .ok (.invokevirtual 118, 3) := by decide +kernel
theorem dL_law_887 : decode cL_law 887 = .ok (.aload_n 2, 1) := by decide +kernel
theorem dL_law_888 : decode cL_law 888 = .ok (.aload_n 0, 1) := by decide +kernel
theorem dL_law_889 : decode cL_law 889 = .ok (.iload_n 3, 1) := by decide +kernel
theorem dL_law_890 : decode cL_law 890 = .ok (.iconst 1, 1) := by decide +kernel
theorem dL_law_891 : decode cL_law 891 = .ok (.iadd, 1) := by decide +kernel
theorem dL_law_892 : decode cL_law 892 = .ok (.iaload, 1) := by decide +kernel
theorem dL_law_893 : decode cL_law 893 = .ok (.aload_n 0, 1) := by decide +kernel
theorem dL_law_894 : decode cL_law 894 = .ok (.iload_n 3, 1) := by decide +kernel
theorem dL_law_895 : decode cL_law 895 = .ok (.iconst 2, 1) := by decide +kernel
theorem dL_law_896 : decode cL_law 896 = .ok (.iadd, 1) := by decide +kernel
theorem dL_law_897 : decode cL_law 897 = .ok (.iaload, 1) := by decide +kernel
theorem dL_law_898 : decode cL_law 898 = .ok (.invokevirtual 121, 3) := by decide +kernel
theorem dL_law_901 : decode cL_law 901 = .ok (.if_icmp .eq 258, 3) := by decide +kernel
theorem dL_law_904 : decode cL_law 904 = .ok (.iconst 0, 1) := by decide +kernel
theorem dL_law_905 : decode cL_law 905 = .ok (.ireturn, 1) := by decide +kernel
theorem dL_law_906 : decode cL_law 906 = .ok (.aload_n 1, 1) := by decide +kernel
theorem dL_law_907 : decode cL_law 907 = .ok (.aload_n 0, 1) := by decide +kernel
theorem dL_law_908 : decode cL_law 908 = .ok (.iload_n 3, 1) := by decide +kernel
theorem dL_law_909 : decode cL_law 909 = .ok (.iconst 1, 1) := by decide +kernel
theorem dL_law_910 : decode cL_law 910 = .ok (.iadd, 1) := by decide +kernel
theorem dL_law_911 : decode cL_law 911 = .ok (.iaload, 1) := by decide +kernel
theorem dL_law_912 : decode cL_law 912 = .ok (.ifCond .eq 7, 3) := by decide +kernel
theorem dL_law_915 : decode cL_law 915 = .ok (.iconst 1, 1) := by decide +kernel
theorem dL_law_916 : decode cL_law 916 = .ok (.goto 4, 3) := by decide +kernel
theorem dL_law_919 : decode cL_law 919 = .ok (.iconst 0, 1) := by decide +kernel
theorem dL_law_920 : decode cL_law 920 = .ok (.aload_n 0, 1) := by decide +kernel
theorem dL_law_921 : decode cL_law 921 = .ok (.iload_n 3, 1) := by decide +kernel
theorem dL_law_922 : decode cL_law 922 = .ok (.iconst 2, 1) := by decide +kernel
theorem dL_law_923 : decode cL_law 923 = .ok (.iadd, 1) := by decide +kernel
theorem dL_law_924 : decode cL_law 924 = .ok (.iaload, 1) := by decide +kernel
theorem dL_law_925 : decode cL_law 925 = .ok (.aload_n 0, 1) := by decide +kernel
theorem dL_law_926 : decode cL_law 926 = .ok (.iload_n 3, 1) := by decide +kernel
theorem dL_law_927 : decode cL_law 927 = .ok (.iconst 3, 1) := by decide +kernel
theorem dL_law_928 : decode cL_law 928 = .ok (.iadd, 1) := by decide +kernel
theorem dL_law_929 : decode cL_law 929 = .ok (.iaload, 1) := by decide +kernel
theorem dL_law_930 : decode cL_law 930 = .ok (.aload_n 0, 1) := by decide +kernel
theorem dL_law_931 : decode cL_law 931 = .ok (.iload_n 3, 1) := by decide +kernel
theorem dL_law_932 : decode cL_law 932 = .ok (.iconst 4, 1) := by decide +kernel
theorem dL_law_933 : decode cL_law 933 = .ok (.iadd, 1) := by decide +kernel
theorem dL_law_934 : decode cL_law 934 = .ok (.iaload, 1) := by decide +kernel
theorem dL_law_935 : decode cL_law 935 = .ok (.invokevirtual 122, 3) := by decide +kernel
theorem dL_law_938 : decode cL_law 938 = .ok (.aload_n 2, 1) := by decide +kernel
theorem dL_law_939 : decode cL_law 939 = .ok (.aload_n 0, 1) := by decide +kernel
theorem dL_law_940 : decode cL_law 940 = .ok (.iload_n 3, 1) := by decide +kernel
theorem dL_law_941 : decode cL_law 941 = .ok (.iconst 1, 1) := by decide +kernel
theorem dL_law_942 : decode cL_law 942 = .ok (.iadd, 1) := by decide +kernel
theorem dL_law_943 : decode cL_law 943 = .ok (.iaload, 1) := by decide +kernel
theorem dL_law_944 : decode cL_law 944 = .ok (.ifCond .eq 7, 3) := by decide +kernel
theorem dL_law_947 : decode cL_law 947 = .ok (.iconst 1, 1) := by decide +kernel
theorem dL_law_948 : decode cL_law 948 = .ok (.goto 4, 3) := by decide +kernel
theorem dL_law_951 : decode cL_law 951 = .ok (.iconst 0, 1) := by decide +kernel
theorem dL_law_952 : decode cL_law 952 = .ok (.aload_n 0, 1) := by decide +kernel
theorem dL_law_953 : decode cL_law 953 = .ok (.iload_n 3, 1) := by decide +kernel
theorem dL_law_954 : decode cL_law 954 = .ok (.iconst 2, 1) := by decide +kernel
theorem dL_law_955 : decode cL_law 955 = .ok (.iadd, 1) := by decide +kernel
theorem dL_law_956 : decode cL_law 956 = .ok (.iaload, 1) := by decide +kernel
theorem dL_law_957 : decode cL_law 957 = .ok (.aload_n 0, 1) := by decide +kernel
theorem dL_law_958 : decode cL_law 958 = .ok (.iload_n 3, 1) := by decide +kernel
theorem dL_law_959 : decode cL_law 959 = .ok (.iconst 3, 1) := by decide +kernel
theorem dL_law_960 : decode cL_law 960 = .ok (.iadd, 1) := by decide +kernel
theorem dL_law_961 : decode cL_law 961 = .ok (.iaload, 1) := by decide +kernel
theorem dL_law_962 : decode cL_law 962 = .ok (.aload_n 0, 1) := by decide +kernel
theorem dL_law_963 : decode cL_law 963 = .ok (.iload_n 3, 1) := by decide +kernel
theorem dL_law_964 : decode cL_law 964 = .ok (.iconst 4, 1) := by decide +kernel
theorem dL_law_965 : decode cL_law 965 = .ok (.iadd, 1) := by decide +kernel
theorem dL_law_966 : decode cL_law 966 = .ok (.iaload, 1) := by decide +kernel
theorem dL_law_967 : decode cL_law 967 = .ok (.invokevirtual 126, 3) := by decide +kernel
theorem dL_law_970 : decode cL_law 970 = .ok (.if_icmp .eq 189, 3) := by decide +kernel
theorem dL_law_973 : decode cL_law 973 = .ok (.iconst 0, 1) := by decide +kernel
theorem dL_law_974 : decode cL_law 974 = .ok (.ireturn, 1) := by decide +kernel
theorem dL_law_975 : decode cL_law 975 = .ok (.aload_n 1, 1) := by decide +kernel
theorem dL_law_976 : decode cL_law 976 = .ok (.aload_n 0, 1) := by decide +kernel
theorem dL_law_977 : decode cL_law 977 = .ok (.iload_n 3, 1) := by decide +kernel
theorem dL_law_978 : decode cL_law 978 = .ok (.iconst 1, 1) := by decide +kernel
theorem dL_law_979 : decode cL_law 979 = .ok (.iadd, 1) := by decide +kernel
theorem dL_law_980 : decode cL_law 980 = .ok (.iaload, 1) := by decide +kernel
theorem dL_law_981 : decode cL_law 981 = .ok (.invokevirtual 127, 3) := by decide +kernel
theorem dL_law_984 : decode cL_law 984 = .ok (.aload_n 2, 1) := by decide +kernel
theorem dL_law_985 : decode cL_law 985 = .ok (.aload_n 0, 1) := by decide +kernel
theorem dL_law_986 : decode cL_law 986 = .ok (.iload_n 3, 1) := by decide +kernel
theorem dL_law_987 : decode cL_law 987 = .ok (.iconst 1, 1) := by decide +kernel
theorem dL_law_988 : decode cL_law 988 = .ok (.iadd, 1) := by decide +kernel
theorem dL_law_989 : decode cL_law 989 = .ok (.iaload, 1) := by decide +kernel
theorem dL_law_990 : decode cL_law 990 = .ok (.invokevirtual 130, 3) := by decide +kernel
theorem dL_law_993 : decode cL_law 993 = .ok (.if_icmp .eq 166, 3) := by decide +kernel
theorem dL_law_996 : decode cL_law 996 = .ok (.iconst 0, 1) := by decide +kernel
theorem dL_law_997 : decode cL_law 997 = .ok (.ireturn, 1) := by decide +kernel
theorem dL_law_998 : decode cL_law 998 = .ok (.aload_n 1, 1) := by decide +kernel
theorem dL_law_999 : decode cL_law 999 = .ok (.invokevirtual 131, 3) := by decide +kernel
theorem dL_law_1002 : decode cL_law 1002 = .ok (.aload_n 2, 1) := by decide +kernel
theorem dL_law_1003 : decode cL_law 1003 = .ok (.invokevirtual 134, 3) := by decide +kernel
theorem dL_law_1006 : decode cL_law 1006 = .ok (.if_icmp .eq 153, 3) := by decide +kernel
theorem dL_law_1009 : decode cL_law 1009 = .ok (.iconst 0, 1) := by decide +kernel
theorem dL_law_1010 : decode cL_law 1010 = .ok (.ireturn, 1) := by decide +kernel
theorem dL_law_1011 : decode cL_law 1011 = .ok (.aload_n 1, 1) := by decide +kernel
theorem dL_law_1012 : decode cL_law 1012 = .ok (.aload_n 0, 1) := by decide +kernel
theorem dL_law_1013 : decode cL_law 1013 = .ok (.iload_n 3, 1) := by decide +kernel
theorem dL_law_1014 : decode cL_law 1014 = .ok (.iconst 1, 1) := by decide +kernel
theorem dL_law_1015 : decode cL_law 1015 = .ok (.iadd, 1) := by decide +kernel
theorem dL_law_1016 : decode cL_law 1016 = .ok (.iaload, 1) := by decide +kernel
theorem dL_law_1017 : decode cL_law 1017 = .ok (.aload_n 0, 1) := by decide +kernel
theorem dL_law_1018 : decode cL_law 1018 = .ok (.iload_n 3, 1) := by decide +kernel
theorem dL_law_1019 : decode cL_law 1019 = .ok (.iconst 2, 1) := by decide +kernel
theorem dL_law_1020 : decode cL_law 1020 = .ok (.iadd, 1) := by decide +kernel
theorem dL_law_1021 : decode cL_law 1021 = .ok (.iaload, 1) := by decide +kernel
theorem dL_law_1022 : decode cL_law 1022 = .ok (.invokevirtual 135, 3) := by decide +kernel
theorem dL_law_1025 : decode cL_law 1025 = .ok (.aload_n 2, 1) := by decide +kernel
theorem dL_law_1026 : decode cL_law 1026 = .ok (.aload_n 0, 1) := by decide +kernel
theorem dL_law_1027 : decode cL_law 1027 = .ok (.iload_n 3, 1) := by decide +kernel
theorem dL_law_1028 : decode cL_law 1028 = .ok (.iconst 1, 1) := by decide +kernel
theorem dL_law_1029 : decode cL_law 1029 = .ok (.iadd, 1) := by decide +kernel
theorem dL_law_1030 : decode cL_law 1030 = .ok (.iaload, 1) := by decide +kernel
theorem dL_law_1031 : decode cL_law 1031 = .ok (.aload_n 0, 1) := by decide +kernel
theorem dL_law_1032 : decode cL_law 1032 = .ok (.iload_n 3, 1) := by decide +kernel
theorem dL_law_1033 : decode cL_law 1033 = .ok (.iconst 2, 1) := by decide +kernel
theorem dL_law_1034 : decode cL_law 1034 = .ok (.iadd, 1) := by decide +kernel
theorem dL_law_1035 : decode cL_law 1035 = .ok (.iaload, 1) := by decide +kernel
theorem dL_law_1036 : decode cL_law 1036 = .ok (.invokevirtual 138, 3) := by decide +kernel
theorem dL_law_1039 : decode cL_law 1039 = .ok (.if_icmp .eq 120, 3) := by decide +kernel
theorem dL_law_1042 : decode cL_law 1042 = .ok (.iconst 0, 1) := by decide +kernel
theorem dL_law_1043 : decode cL_law 1043 = .ok (.ireturn, 1) := by decide +kernel
theorem dL_law_1044 : decode cL_law 1044 = .ok (.aload_n 1, 1) := by decide +kernel
theorem dL_law_1045 : decode cL_law 1045 = .ok (.aload_n 0, 1) := by decide +kernel
theorem dL_law_1046 : decode cL_law 1046 = .ok (.iload_n 3, 1) := by decide +kernel
theorem dL_law_1047 : decode cL_law 1047 = .ok (.iconst 1, 1) := by decide +kernel
theorem dL_law_1048 : decode cL_law 1048 = .ok (.iadd, 1) := by decide +kernel
theorem dL_law_1049 : decode cL_law 1049 = .ok (.iaload, 1) := by decide +kernel
theorem dL_law_1050 : decode cL_law 1050 = .ok (.invokevirtual 139, 3) := by decide +kernel
theorem dL_law_1053 : decode cL_law 1053 = .ok (.aload_n 2, 1) := by decide +kernel
theorem dL_law_1054 : decode cL_law 1054 = .ok (.aload_n 0, 1) := by decide +kernel
theorem dL_law_1055 : decode cL_law 1055 = .ok (.iload_n 3, 1) := by decide +kernel
theorem dL_law_1056 : decode cL_law 1056 = .ok (.iconst 1, 1) := by decide +kernel
theorem dL_law_1057 : decode cL_law 1057 = .ok (.iadd, 1) := by decide +kernel
theorem dL_law_1058 : decode cL_law 1058 = .ok (.iaload, 1) := by decide +kernel
theorem dL_law_1059 : decode cL_law 1059 = .ok (.invokevirtual 142, 3) := by decide +kernel
theorem dL_law_1062 : decode cL_law 1062 = .ok (.if_icmp .eq 97, 3) := by decide +kernel
theorem dL_law_1065 : decode cL_law 1065 = .ok (.iconst 0, 1) := by decide +kernel
theorem dL_law_1066 : decode cL_law 1066 = .ok (.ireturn, 1) := by decide +kernel
theorem dL_law_1067 : decode cL_law 1067 = .ok (.aload_n 1, 1) := by decide +kernel
theorem dL_law_1068 : decode cL_law 1068 = .ok (.aload_n 0, 1) := by decide +kernel
theorem dL_law_1069 : decode cL_law 1069 = .ok (.iload_n 3, 1) := by decide +kernel
theorem dL_law_1070 : decode cL_law 1070 = .ok (.iconst 1, 1) := by decide +kernel
theorem dL_law_1071 : decode cL_law 1071 = .ok (.iadd, 1) := by decide +kernel
theorem dL_law_1072 : decode cL_law 1072 = .ok (.iaload, 1) := by decide +kernel
theorem dL_law_1073 : decode cL_law 1073 = .ok (.aload_n 0, 1) := by decide +kernel
theorem dL_law_1074 : decode cL_law 1074 = .ok (.iload_n 3, 1) := by decide +kernel
theorem dL_law_1075 : decode cL_law 1075 = .ok (.iconst 2, 1) := by decide +kernel
theorem dL_law_1076 : decode cL_law 1076 = .ok (.iadd, 1) := by decide +kernel
theorem dL_law_1077 : decode cL_law 1077 = .ok (.iaload, 1) := by decide +kernel
theorem dL_law_1078 : decode cL_law 1078 = .ok (.invokevirtual 143, 3) := by decide +kernel
theorem dL_law_1081 : decode cL_law 1081 = .ok (.aload_n 2, 1) := by decide +kernel
theorem dL_law_1082 : decode cL_law 1082 = .ok (.aload_n 0, 1) := by decide +kernel
theorem dL_law_1083 : decode cL_law 1083 = .ok (.iload_n 3, 1) := by decide +kernel
theorem dL_law_1084 : decode cL_law 1084 = .ok (.iconst 1, 1) := by decide +kernel
theorem dL_law_1085 : decode cL_law 1085 = .ok (.iadd, 1) := by decide +kernel
theorem dL_law_1086 : decode cL_law 1086 = .ok (.iaload, 1) := by decide +kernel
theorem dL_law_1087 : decode cL_law 1087 = .ok (.aload_n 0, 1) := by decide +kernel
theorem dL_law_1088 : decode cL_law 1088 = .ok (.iload_n 3, 1) := by decide +kernel
theorem dL_law_1089 : decode cL_law 1089 = .ok (.iconst 2, 1) := by decide +kernel
theorem dL_law_1090 : decode cL_law 1090 = .ok (.iadd, 1) := by decide +kernel
theorem dL_law_1091 : decode cL_law 1091 = .ok (.iaload, 1) := by decide +kernel
theorem dL_law_1092 : decode cL_law 1092 = .ok (.invokevirtual 146, 3) := by decide +kernel
theorem dL_law_1095 : decode cL_law 1095 = .ok (.if_icmp .eq 64, 3) := by decide +kernel
theorem dL_law_1098 : decode cL_law 1098 = .ok (.iconst 0, 1) := by decide +kernel
theorem dL_law_1099 : decode cL_law 1099 = .ok (.ireturn, 1) := by decide +kernel
theorem dL_law_1100 : decode cL_law 1100 = .ok (.aload_n 1, 1) := by decide +kernel
theorem dL_law_1101 : decode cL_law 1101 = .ok (.aload_n 0, 1) := by decide +kernel
theorem dL_law_1102 : decode cL_law 1102 = .ok (.iload_n 3, 1) := by decide +kernel
theorem dL_law_1103 : decode cL_law 1103 = .ok (.iconst 1, 1) := by decide +kernel
theorem dL_law_1104 : decode cL_law 1104 = .ok (.iadd, 1) := by decide +kernel
theorem dL_law_1105 : decode cL_law 1105 = .ok (.iaload, 1) := by decide +kernel
theorem dL_law_1106 : decode cL_law 1106 = .ok (.invokevirtual 147, 3) := by decide +kernel
theorem dL_law_1109 : decode cL_law 1109 = .ok (.aload_n 2, 1) := by decide +kernel
theorem dL_law_1110 : decode cL_law 1110 = .ok (.aload_n 0, 1) := by decide +kernel
theorem dL_law_1111 : decode cL_law 1111 = .ok (.iload_n 3, 1) := by decide +kernel
theorem dL_law_1112 : decode cL_law 1112 = .ok (.iconst 1, 1) := by decide +kernel
theorem dL_law_1113 : decode cL_law 1113 = .ok (.iadd, 1) := by decide +kernel
theorem dL_law_1114 : decode cL_law 1114 = .ok (.iaload, 1) := by decide +kernel
theorem dL_law_1115 : decode cL_law 1115 = .ok (.invokevirtual 150, 3) := by decide +kernel
theorem dL_law_1118 : decode cL_law 1118 = .ok (.if_icmp .eq 41, 3) := by decide +kernel
theorem dL_law_1121 : decode cL_law 1121 = .ok (.iconst 0, 1) := by decide +kernel
theorem dL_law_1122 : decode cL_law 1122 = .ok (.ireturn, 1) := by decide +kernel
theorem dL_law_1123 : decode cL_law 1123 = .ok (.aload_n 1, 1) := by decide +kernel
theorem dL_law_1124 : decode cL_law 1124 = .ok (.invokevirtual 151, 3) := by decide +kernel
theorem dL_law_1127 : decode cL_law 1127 = .ok (.aload_n 2, 1) := by decide +kernel
theorem dL_law_1128 : decode cL_law 1128 = .ok (.invokevirtual 154, 3) := by decide +kernel
theorem dL_law_1131 : decode cL_law 1131 = .ok (.if_icmp .eq 28, 3) := by decide +kernel
theorem dL_law_1134 : decode cL_law 1134 = .ok (.iconst 0, 1) := by decide +kernel
theorem dL_law_1135 : decode cL_law 1135 = .ok (.ireturn, 1) := by decide +kernel
theorem dL_law_1136 : decode cL_law 1136 = .ok (.aload_n 1, 1) := by decide +kernel
theorem dL_law_1137 : decode cL_law 1137 = .ok (.aload_n 0, 1) := by decide +kernel
theorem dL_law_1138 : decode cL_law 1138 = .ok (.iload_n 3, 1) := by decide +kernel
theorem dL_law_1139 : decode cL_law 1139 = .ok (.iconst 1, 1) := by decide +kernel
theorem dL_law_1140 : decode cL_law 1140 = .ok (.iadd, 1) := by decide +kernel
theorem dL_law_1141 : decode cL_law 1141 = .ok (.iaload, 1) := by decide +kernel
theorem dL_law_1142 : decode cL_law 1142 = .ok (.invokevirtual 155, 3) := by decide +kernel
theorem dL_law_1145 : decode cL_law 1145 = .ok (.aload_n 2, 1) := by decide +kernel
theorem dL_law_1146 : decode cL_law 1146 = .ok (.aload_n 0, 1) := by decide +kernel
theorem dL_law_1147 : decode cL_law 1147 = .ok (.iload_n 3, 1) := by decide +kernel
theorem dL_law_1148 : decode cL_law 1148 = .ok (.iconst 1, 1) := by decide +kernel
theorem dL_law_1149 : decode cL_law 1149 = .ok (.iadd, 1) := by decide +kernel
theorem dL_law_1150 : decode cL_law 1150 = .ok (.iaload, 1) := by decide +kernel
theorem dL_law_1151 : decode cL_law 1151 = .ok (.invokevirtual 158, 3) := by decide +kernel
theorem dL_law_1154 : decode cL_law 1154 = .ok (.if_icmp .eq 5, 3) := by decide +kernel
theorem dL_law_1157 : decode cL_law 1157 = .ok (.iconst 0, 1) := by decide +kernel
theorem dL_law_1158 : decode cL_law 1158 = .ok (.ireturn, 1) := by decide +kernel
theorem dL_law_1159 : decode cL_law 1159 = .ok (.iinc 3 6, 3) := by decide +kernel
theorem dL_law_1162 : decode cL_law 1162 = .ok (.goto (-1144), 3) := by decide +kernel
theorem dL_law_1165 : decode cL_law 1165 = .ok (.iconst 1, 1) := by decide +kernel
theorem dL_law_1166 : decode cL_law 1166 = .ok (.ireturn, 1) := by decide +kernel
abbrev vwCl : List vw_C := [(RX0, TX0, 3), (RX1, TX1, 5), (RX2, TX2, 6), (RX3, TX3, 7), (RX4, TX4, 7), (RX5, TX5, 4), (RX6, TX6, 13), (RX7, TX7, 16), (RX8, TX8, 2), (RX9, TX9, 9), (RX10, TX10, 61)]
