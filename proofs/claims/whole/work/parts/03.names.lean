/-! names of classes, fields and methods (from the printed names) -/
def RX0 : String := "BondOffice$Clause"
def TX0 : u_T := fun k => match k with
  | 0 => ("BondOffice$Clause", "kind", "LBondOffice$Kind;", true)
  | 1 => ("BondOffice$Clause", "first", "I", true)
  | _ => ("BondOffice$Clause", "second", "I", true)
def tyX0 : Nat → FieldType := fun k => match k with
  | 0 => .object "BondOffice$Kind"
  | 1 => .int
  | _ => .int
theorem nmX0 : ∀ a, a < 3 → ∀ b, b < 3 → a ≠ b → (TX0 a).2.1 ≠ (TX0 b).2.1 := by decide +kernel
theorem tyX0_ok : ∀ k, k < 3 → parseFieldDescriptor (TX0 k).2.2.1 = some (tyX0 k) := by decide +kernel
abbrev cX0_init : ByteArray := prog_2_method_1_code
def yX0_init : MethodName := ⟨RX0, "<init>", "(LBondOffice$Kind;II)V"⟩
abbrev cX0_fundFor : ByteArray := prog_2_method_2_code
def yX0_fundFor : MethodName := ⟨RX0, "fundFor", "(J)J"⟩
abbrev cX0_prizesFrom : ByteArray := prog_2_method_3_code
def yX0_prizesFrom : MethodName := ⟨RX0, "prizesFrom", "(J)J"⟩
def RX1 : String := "BondOffice$Draw"
def TX1 : u_T := fun k => match k with
  | 0 => ("BondOffice$Draw", "day", "I", true)
  | 1 => ("BondOffice$Draw", "ruleNumber", "I", true)
  | 2 => ("BondOffice$Draw", "m", "I", true)
  | 3 => ("BondOffice$Draw", "start", "J", false)
  | 4 => ("BondOffice$Draw", "step", "J", false)
  | 5 => ("BondOffice$Draw", "fund", "J", false)
  | 6 => ("BondOffice$Draw", "winCount", "I", false)
  | 7 => ("BondOffice$Draw", "firstWin", "I", false)
  | _ => ("BondOffice$Draw", "left", "J", false)
def tyX1 : Nat → FieldType := fun k => match k with
  | 0 => .int
  | 1 => .int
  | 2 => .int
  | 3 => .long
  | 4 => .long
  | 5 => .long
  | 6 => .int
  | 7 => .int
  | _ => .long
theorem nmX1 : ∀ a, a < 9 → ∀ b, b < 9 → a ≠ b → (TX1 a).2.1 ≠ (TX1 b).2.1 := by decide +kernel
theorem tyX1_ok : ∀ k, k < 9 → parseFieldDescriptor (TX1 k).2.2.1 = some (tyX1 k) := by decide +kernel
abbrev cX1_init : ByteArray := prog_3_method_1_code
def yX1_init : MethodName := ⟨RX1, "<init>", "(III)V"⟩
abbrev cX1_placeOf : ByteArray := prog_3_method_2_code
def yX1_placeOf : MethodName := ⟨RX1, "placeOf", "(I)I"⟩
abbrev cX1_fact : ByteArray := prog_3_method_3_code
def yX1_fact : MethodName := ⟨RX1, "fact", "(I)J"⟩
def RX2 : String := "BondOffice$Holder"
def TX2 : u_T := fun k => match k with
  | 0 => ("BondOffice$Holder", "gone", "Z", false)
  | _ => ("BondOffice$Holder", "claimedSum", "J", false)
def tyX2 : Nat → FieldType := fun k => match k with
  | 0 => .boolean
  | _ => .long
theorem nmX2 : ∀ a, a < 2 → ∀ b, b < 2 → a ≠ b → (TX2 a).2.1 ≠ (TX2 b).2.1 := by decide +kernel
theorem tyX2_ok : ∀ k, k < 2 → parseFieldDescriptor (TX2 k).2.2.1 = some (tyX2 k) := by decide +kernel
abbrev cX2_init : ByteArray := prog_4_method_1_code
def yX2_init : MethodName := ⟨RX2, "<init>", "()V"⟩
def RX3 : String := "BondOffice$Kind"
def TX3 : u_T := fun k => match k with
  | _ => ("", "", "", false)
def tyX3 : Nat → FieldType := fun k => match k with
  | _ => .int
theorem nmX3 : ∀ a, a < 0 → ∀ b, b < 0 → a ≠ b → (TX3 a).2.1 ≠ (TX3 b).2.1 := by decide +kernel
theorem tyX3_ok : ∀ k, k < 0 → parseFieldDescriptor (TX3 k).2.2.1 = some (tyX3 k) := by decide +kernel
abbrev cX3_hasSecond : ByteArray := prog_5_method_4_code
def yX3_hasSecond : MethodName := ⟨RX3, "hasSecond", "()Z"⟩
def RX4 : String := "BondOffice$Ledger"
def TX4 : u_T := fun k => match k with
  | 0 => ("BondOffice$Ledger", "lines", "Ljava/util/ArrayList;", true)
  | 1 => ("BondOffice$Ledger", "going", "Ljava/util/ArrayList;", true)
  | _ => ("BondOffice$Ledger", "sold", "I", false)
def tyX4 : Nat → FieldType := fun k => match k with
  | 0 => .object "java/util/ArrayList"
  | 1 => .object "java/util/ArrayList"
  | _ => .int
theorem nmX4 : ∀ a, a < 3 → ∀ b, b < 3 → a ≠ b → (TX4 a).2.1 ≠ (TX4 b).2.1 := by decide +kernel
theorem tyX4_ok : ∀ k, k < 3 → parseFieldDescriptor (TX4 k).2.2.1 = some (tyX4 k) := by decide +kernel
abbrev cX4_init : ByteArray := prog_6_method_1_code
def yX4_init : MethodName := ⟨RX4, "<init>", "()V"⟩
abbrev cX4_sell : ByteArray := prog_6_method_2_code
def yX4_sell : MethodName := ⟨RX4, "sell", "(III)I"⟩
abbrev cX4_pass : ByteArray := prog_6_method_3_code
def yX4_pass : MethodName := ⟨RX4, "pass", "(IIIII)I"⟩
abbrev cX4_inherit : ByteArray := prog_6_method_4_code
def yX4_inherit : MethodName := ⟨RX4, "inherit", "(III)I"⟩
abbrev cX4_holderOn : ByteArray := prog_6_method_5_code
def yX4_holderOn : MethodName := ⟨RX4, "holderOn", "(II)I"⟩
abbrev cX4_holderNow : ByteArray := prog_6_method_6_code
def yX4_holderNow : MethodName := ⟨RX4, "holderNow", "(I)I"⟩
abbrev cX4_bondsOf : ByteArray := prog_6_method_7_code
def yX4_bondsOf : MethodName := ⟨RX4, "bondsOf", "(I)I"⟩
abbrev cX4_bondsHeld : ByteArray := prog_6_method_8_code
def yX4_bondsHeld : MethodName := ⟨RX4, "bondsHeld", "()I"⟩
abbrev cX4_bondsSince : ByteArray := prog_6_method_9_code
def yX4_bondsSince : MethodName := ⟨RX4, "bondsSince", "(I)I"⟩
abbrev cX4_bondAt : ByteArray := prog_6_method_10_code
def yX4_bondAt : MethodName := ⟨RX4, "bondAt", "(II)I"⟩
abbrev cX4_begin : ByteArray := prog_6_method_11_code
def yX4_begin : MethodName := ⟨RX4, "begin", "(IIII)LBondOffice$Line;"⟩
abbrev cX4_ownsAll : ByteArray := prog_6_method_12_code
def yX4_ownsAll : MethodName := ⟨RX4, "ownsAll", "(III)Z"⟩
abbrev cX4_linesMadeByPassing : ByteArray := prog_6_method_13_code
def yX4_linesMadeByPassing : MethodName := ⟨RX4, "linesMadeByPassing", "(III)I"⟩
abbrev cX4_passOne : ByteArray := prog_6_method_14_code
def yX4_passOne : MethodName := ⟨RX4, "passOne", "(LBondOffice$Line;IIII)V"⟩
abbrev cX4_placeAmongGoing : ByteArray := prog_6_method_15_code
def yX4_placeAmongGoing : MethodName := ⟨RX4, "placeAmongGoing", "(I)I"⟩
abbrev cX4_replaceAmongGoing : ByteArray := prog_6_method_16_code
def yX4_replaceAmongGoing : MethodName := ⟨RX4, "replaceAmongGoing", "(ILBondOffice$Line;LBondOffice$Line;LBondOffice$Line;)V"⟩
def RX5 : String := "BondOffice$Line"
def TX5 : u_T := fun k => match k with
  | 0 => ("BondOffice$Line", "first", "I", true)
  | 1 => ("BondOffice$Line", "last", "I", true)
  | 2 => ("BondOffice$Line", "holder", "I", true)
  | 3 => ("BondOffice$Line", "since", "I", true)
  | _ => ("BondOffice$Line", "ended", "I", false)
def tyX5 : Nat → FieldType := fun k => match k with
  | 0 => .int
  | 1 => .int
  | 2 => .int
  | 3 => .int
  | _ => .int
theorem nmX5 : ∀ a, a < 5 → ∀ b, b < 5 → a ≠ b → (TX5 a).2.1 ≠ (TX5 b).2.1 := by decide +kernel
theorem tyX5_ok : ∀ k, k < 5 → parseFieldDescriptor (TX5 k).2.2.1 = some (tyX5 k) := by decide +kernel
abbrev cX5_init : ByteArray := prog_7_method_1_code
def yX5_init : MethodName := ⟨RX5, "<init>", "(IIII)V"⟩
abbrev cX5_size : ByteArray := prog_7_method_2_code
def yX5_size : MethodName := ⟨RX5, "size", "()I"⟩
abbrev cX5_goesOn : ByteArray := prog_7_method_3_code
def yX5_goesOn : MethodName := ⟨RX5, "goesOn", "()Z"⟩
abbrev cX5_isInForceOn : ByteArray := prog_7_method_4_code
def yX5_isInForceOn : MethodName := ⟨RX5, "isInForceOn", "(I)Z"⟩
abbrev cX5_contains : ByteArray := prog_7_method_5_code
def yX5_contains : MethodName := ⟨RX5, "contains", "(I)Z"⟩
abbrev cX5_common : ByteArray := prog_7_method_6_code
def yX5_common : MethodName := ⟨RX5, "common", "(II)I"⟩
abbrev cX5_fact : ByteArray := prog_7_method_7_code
def yX5_fact : MethodName := ⟨RX5, "fact", "(I)I"⟩
def RX6 : String := "BondOffice$Rule"
def TX6 : u_T := fun k => match k with
  | 0 => ("BondOffice$Rule", "from", "I", true)
  | _ => ("BondOffice$Rule", "clauses", "Ljava/util/ArrayList;", true)
def tyX6 : Nat → FieldType := fun k => match k with
  | 0 => .int
  | _ => .object "java/util/ArrayList"
theorem nmX6 : ∀ a, a < 2 → ∀ b, b < 2 → a ≠ b → (TX6 a).2.1 ≠ (TX6 b).2.1 := by decide +kernel
theorem tyX6_ok : ∀ k, k < 2 → parseFieldDescriptor (TX6 k).2.2.1 = some (tyX6 k) := by decide +kernel
abbrev cX6_init : ByteArray := prog_8_method_1_code
def yX6_init : MethodName := ⟨RX6, "<init>", "(I)V"⟩
abbrev cX6_daysNeeded : ByteArray := prog_8_method_2_code
def yX6_daysNeeded : MethodName := ⟨RX6, "daysNeeded", "()I"⟩
abbrev cX6_fundFor : ByteArray := prog_8_method_3_code
def yX6_fundFor : MethodName := ⟨RX6, "fundFor", "(J)J"⟩
def RX7 : String := "BondOffice$RuleReader"
def TX7 : u_T := fun k => match k with
  | 0 => ("BondOffice$RuleReader", "text", "[B", true)
  | 1 => ("BondOffice$RuleReader", "length", "I", true)
  | 2 => ("BondOffice$RuleReader", "place", "I", false)
  | 3 => ("BondOffice$RuleReader", "faultKind", "I", false)
  | _ => ("BondOffice$RuleReader", "faultPlace", "I", false)
def tyX7 : Nat → FieldType := fun k => match k with
  | 0 => .array .byte
  | 1 => .int
  | 2 => .int
  | 3 => .int
  | _ => .int
theorem nmX7 : ∀ a, a < 5 → ∀ b, b < 5 → a ≠ b → (TX7 a).2.1 ≠ (TX7 b).2.1 := by decide +kernel
theorem tyX7_ok : ∀ k, k < 5 → parseFieldDescriptor (TX7 k).2.2.1 = some (tyX7 k) := by decide +kernel
abbrev cX7_init : ByteArray := prog_9_method_1_code
def yX7_init : MethodName := ⟨RX7, "<init>", "([BI)V"⟩
abbrev cX7_readInto : ByteArray := prog_9_method_2_code
def yX7_readInto : MethodName := ⟨RX7, "readInto", "(LBondOffice$Rule;)V"⟩
abbrev cX7_readClause : ByteArray := prog_9_method_3_code
def yX7_readClause : MethodName := ⟨RX7, "readClause", "(LBondOffice$Rule;)V"⟩
abbrev cX7_readKind : ByteArray := prog_9_method_4_code
def yX7_readKind : MethodName := ⟨RX7, "readKind", "()LBondOffice$Kind;"⟩
abbrev cX7_readNumber : ByteArray := prog_9_method_5_code
def yX7_readNumber : MethodName := ⟨RX7, "readNumber", "(II)I"⟩
abbrev cX7_expect : ByteArray := prog_9_method_6_code
def yX7_expect : MethodName := ⟨RX7, "expect", "(Ljava/lang/String;)V"⟩
abbrev cX7_blame : ByteArray := prog_9_method_7_code
def yX7_blame : MethodName := ⟨RX7, "blame", "(II)V"⟩
abbrev cX7_skipBlanks : ByteArray := prog_9_method_8_code
def yX7_skipBlanks : MethodName := ⟨RX7, "skipBlanks", "()V"⟩
abbrev cX7_endOfToken : ByteArray := prog_9_method_9_code
def yX7_endOfToken : MethodName := ⟨RX7, "endOfToken", "(I)I"⟩
abbrev cX7_isToken : ByteArray := prog_9_method_10_code
def yX7_isToken : MethodName := ⟨RX7, "isToken", "(IILjava/lang/String;)Z"⟩
abbrev cX7_byteAt : ByteArray := prog_9_method_11_code
def yX7_byteAt : MethodName := ⟨RX7, "byteAt", "(I)I"⟩
abbrev cX7_isDigit : ByteArray := prog_9_method_12_code
def yX7_isDigit : MethodName := ⟨RX7, "isDigit", "(I)Z"⟩
abbrev cX7_isLetter : ByteArray := prog_9_method_13_code
def yX7_isLetter : MethodName := ⟨RX7, "isLetter", "(I)Z"⟩
def RX8 : String := "BondOffice$Win"
def TX8 : u_T := fun k => match k with
  | 0 => ("BondOffice$Win", "drawNumber", "I", true)
  | 1 => ("BondOffice$Win", "drawDay", "I", true)
  | 2 => ("BondOffice$Win", "bond", "I", true)
  | 3 => ("BondOffice$Win", "holder", "I", false)
  | 4 => ("BondOffice$Win", "prize", "I", true)
  | _ => ("BondOffice$Win", "state", "I", false)
def tyX8 : Nat → FieldType := fun k => match k with
  | 0 => .int
  | 1 => .int
  | 2 => .int
  | 3 => .int
  | 4 => .int
  | _ => .int
theorem nmX8 : ∀ a, a < 6 → ∀ b, b < 6 → a ≠ b → (TX8 a).2.1 ≠ (TX8 b).2.1 := by decide +kernel
theorem tyX8_ok : ∀ k, k < 6 → parseFieldDescriptor (TX8 k).2.2.1 = some (tyX8 k) := by decide +kernel
abbrev cX8_init : ByteArray := prog_10_method_1_code
def yX8_init : MethodName := ⟨RX8, "<init>", "(IIIII)V"⟩
abbrev cX8_isTooOld : ByteArray := prog_10_method_2_code
def yX8_isTooOld : MethodName := ⟨RX8, "isTooOld", "(I)Z"⟩
abbrev cX8_fact : ByteArray := prog_10_method_3_code
def yX8_fact : MethodName := ⟨RX8, "fact", "(I)I"⟩
def RX9 : String := "BondOffice"
def TX9 : u_T := fun k => match k with
  | 0 => ("BondOffice", "holders", "Ljava/util/ArrayList;", true)
  | 1 => ("BondOffice", "ledger", "LBondOffice$Ledger;", true)
  | 2 => ("BondOffice", "tape", "[B", true)
  | 3 => ("BondOffice", "tapeSize", "I", false)
  | 4 => ("BondOffice", "rules", "Ljava/util/ArrayList;", true)
  | 5 => ("BondOffice", "faultPlace", "I", false)
  | 6 => ("BondOffice", "noises", "[I", true)
  | 7 => ("BondOffice", "noiseSize", "I", false)
  | 8 => ("BondOffice", "draws", "Ljava/util/ArrayList;", true)
  | 9 => ("BondOffice", "wins", "Ljava/util/ArrayList;", true)
  | 10 => ("BondOffice", "carriedSum", "J", false)
  | _ => ("BondOffice", "today", "I", false)
def tyX9 : Nat → FieldType := fun k => match k with
  | 0 => .object "java/util/ArrayList"
  | 1 => .object "BondOffice$Ledger"
  | 2 => .array .byte
  | 3 => .int
  | 4 => .object "java/util/ArrayList"
  | 5 => .int
  | 6 => .array .int
  | 7 => .int
  | 8 => .object "java/util/ArrayList"
  | 9 => .object "java/util/ArrayList"
  | 10 => .long
  | _ => .int
theorem nmX9 : ∀ a, a < 12 → ∀ b, b < 12 → a ≠ b → (TX9 a).2.1 ≠ (TX9 b).2.1 := by decide +kernel
theorem tyX9_ok : ∀ k, k < 12 → parseFieldDescriptor (TX9 k).2.2.1 = some (tyX9 k) := by decide +kernel
abbrev cX9_init : ByteArray := prog_1_method_1_code
def yX9_init : MethodName := ⟨RX9, "<init>", "()V"⟩
abbrev cX9_holder : ByteArray := prog_1_method_2_code
def yX9_holder : MethodName := ⟨RX9, "holder", "()I"⟩
abbrev cX9_buy : ByteArray := prog_1_method_3_code
def yX9_buy : MethodName := ⟨RX9, "buy", "(II)I"⟩
abbrev cX9_give : ByteArray := prog_1_method_4_code
def yX9_give : MethodName := ⟨RX9, "give", "(IIII)I"⟩
abbrev cX9_cash : ByteArray := prog_1_method_5_code
def yX9_cash : MethodName := ⟨RX9, "cash", "(III)I"⟩
abbrev cX9_died : ByteArray := prog_1_method_6_code
def yX9_died : MethodName := ⟨RX9, "died", "(II)I"⟩
abbrev cX9_held : ByteArray := prog_1_method_7_code
def yX9_held : MethodName := ⟨RX9, "held", "(II)I"⟩
abbrev cX9_has : ByteArray := prog_1_method_8_code
def yX9_has : MethodName := ⟨RX9, "has", "(I)I"⟩
abbrev cX9_line : ByteArray := prog_1_method_9_code
def yX9_line : MethodName := ⟨RX9, "line", "(II)I"⟩
abbrev cX9_wait : ByteArray := prog_1_method_10_code
def yX9_wait : MethodName := ⟨RX9, "wait", "(I)I"⟩
abbrev cX9_feed : ByteArray := prog_1_method_11_code
def yX9_feed : MethodName := ⟨RX9, "feed", "(IIIII)I"⟩
abbrev cX9_rule : ByteArray := prog_1_method_12_code
def yX9_rule : MethodName := ⟨RX9, "rule", "(II)I"⟩
abbrev cX9_fault : ByteArray := prog_1_method_13_code
def yX9_fault : MethodName := ⟨RX9, "fault", "()I"⟩
abbrev cX9_force : ByteArray := prog_1_method_14_code
def yX9_force : MethodName := ⟨RX9, "force", "(I)I"⟩
abbrev cX9_noise : ByteArray := prog_1_method_15_code
def yX9_noise : MethodName := ⟨RX9, "noise", "(I)I"⟩
abbrev cX9_draw : ByteArray := prog_1_method_16_code
def yX9_draw : MethodName := ⟨RX9, "draw", "()I"⟩
abbrev cX9_drawn : ByteArray := prog_1_method_17_code
def yX9_drawn : MethodName := ⟨RX9, "drawn", "(II)J"⟩
abbrev cX9_win : ByteArray := prog_1_method_18_code
def yX9_win : MethodName := ⟨RX9, "win", "(II)I"⟩
abbrev cX9_claim : ByteArray := prog_1_method_19_code
def yX9_claim : MethodName := ⟨RX9, "claim", "(I)I"⟩
abbrev cX9_paid : ByteArray := prog_1_method_20_code
def yX9_paid : MethodName := ⟨RX9, "paid", "(I)J"⟩
abbrev cX9_carried : ByteArray := prog_1_method_21_code
def yX9_carried : MethodName := ⟨RX9, "carried", "()J"⟩
abbrev cX9_count : ByteArray := prog_1_method_22_code
def yX9_count : MethodName := ⟨RX9, "count", "(I)I"⟩
abbrev cX9_checkHolder : ByteArray := prog_1_method_23_code
def yX9_checkHolder : MethodName := ⟨RX9, "checkHolder", "(I)V"⟩
abbrev cX9_checkAlive : ByteArray := prog_1_method_24_code
def yX9_checkAlive : MethodName := ⟨RX9, "checkAlive", "(I)V"⟩
abbrev cX9_checkPair : ByteArray := prog_1_method_25_code
def yX9_checkPair : MethodName := ⟨RX9, "checkPair", "(II)V"⟩
abbrev cX9_checkWin : ByteArray := prog_1_method_26_code
def yX9_checkWin : MethodName := ⟨RX9, "checkWin", "(I)V"⟩
abbrev cX9_payOut : ByteArray := prog_1_method_27_code
def yX9_payOut : MethodName := ⟨RX9, "payOut", "(II)V"⟩
abbrev cX9_putOnTape : ByteArray := prog_1_method_28_code
def yX9_putOnTape : MethodName := ⟨RX9, "putOnTape", "(I)V"⟩
abbrev cX9_openWins : ByteArray := prog_1_method_29_code
def yX9_openWins : MethodName := ⟨RX9, "openWins", "()I"⟩
abbrev cX9_lapseOldWins : ByteArray := prog_1_method_30_code
def yX9_lapseOldWins : MethodName := ⟨RX9, "lapseOldWins", "()V"⟩
abbrev cX9_mixNoise : ByteArray := prog_1_method_31_code
def yX9_mixNoise : MethodName := ⟨RX9, "mixNoise", "(II)J"⟩
abbrev cX9_nextWithoutDivisor : ByteArray := prog_1_method_32_code
def yX9_nextWithoutDivisor : MethodName := ⟨RX9, "nextWithoutDivisor", "(JI)J"⟩
abbrev cX9_greatestDivisor : ByteArray := prog_1_method_33_code
def yX9_greatestDivisor : MethodName := ⟨RX9, "greatestDivisor", "(JJ)J"⟩
abbrev cX9_cutBy : ByteArray := prog_1_method_34_code
def yX9_cutBy : MethodName := ⟨RX9, "cutBy", "(JJ)J"⟩
abbrev cX9_awardPrizes : ByteArray := prog_1_method_35_code
def yX9_awardPrizes : MethodName := ⟨RX9, "awardPrizes", "(LBondOffice$Draw;LBondOffice$Rule;I)V"⟩
abbrev cX9_awardPrize : ByteArray := prog_1_method_36_code
def yX9_awardPrize : MethodName := ⟨RX9, "awardPrize", "(LBondOffice$Draw;II)V"⟩
def RX10 : String := "BondOfficeModel"
def TX10 : u_T := fun k => match k with
  | 0 => ("BondOfficeModel", "thrown", "I", false)
  | 1 => ("BondOfficeModel", "holders", "I", false)
  | 2 => ("BondOfficeModel", "today", "I", false)
  | 3 => ("BondOfficeModel", "sold", "I", false)
  | 4 => ("BondOfficeModel", "isDead", "[Z", true)
  | 5 => ("BondOfficeModel", "paidTo", "[J", true)
  | 6 => ("BondOfficeModel", "first", "[I", true)
  | 7 => ("BondOfficeModel", "last", "[I", true)
  | 8 => ("BondOfficeModel", "whose", "[I", true)
  | 9 => ("BondOfficeModel", "since", "[I", true)
  | 10 => ("BondOfficeModel", "ended", "[I", true)
  | 11 => ("BondOfficeModel", "lines", "I", false)
  | 12 => ("BondOfficeModel", "tape", "[B", true)
  | 13 => ("BondOfficeModel", "taped", "I", false)
  | 14 => ("BondOfficeModel", "size", "I", false)
  | 15 => ("BondOfficeModel", "at", "I", false)
  | 16 => ("BondOfficeModel", "fault", "I", false)
  | 17 => ("BondOfficeModel", "place", "I", false)
  | 18 => ("BondOfficeModel", "ruleDay", "[I", true)
  | 19 => ("BondOfficeModel", "clauses", "[I", true)
  | 20 => ("BondOfficeModel", "sort", "[I", true)
  | 21 => ("BondOfficeModel", "one", "[I", true)
  | 22 => ("BondOfficeModel", "two", "[I", true)
  | 23 => ("BondOfficeModel", "rules", "I", false)
  | 24 => ("BondOfficeModel", "noise", "[I", true)
  | 25 => ("BondOfficeModel", "noises", "I", false)
  | 26 => ("BondOfficeModel", "draws", "[J", true)
  | 27 => ("BondOfficeModel", "drawMany", "I", false)
  | 28 => ("BondOfficeModel", "winDraw", "[I", true)
  | 29 => ("BondOfficeModel", "winBond", "[I", true)
  | 30 => ("BondOfficeModel", "winner", "[I", true)
  | 31 => ("BondOfficeModel", "prize", "[I", true)
  | 32 => ("BondOfficeModel", "winState", "[I", true)
  | 33 => ("BondOfficeModel", "wins", "I", false)
  | 34 => ("BondOfficeModel", "carry", "J", false)
  | 35 => ("BondOfficeModel", "may", "[I", true)
  | _ => ("BondOfficeModel", "mays", "I", false)
def tyX10 : Nat → FieldType := fun k => match k with
  | 0 => .int
  | 1 => .int
  | 2 => .int
  | 3 => .int
  | 4 => .array .boolean
  | 5 => .array .long
  | 6 => .array .int
  | 7 => .array .int
  | 8 => .array .int
  | 9 => .array .int
  | 10 => .array .int
  | 11 => .int
  | 12 => .array .byte
  | 13 => .int
  | 14 => .int
  | 15 => .int
  | 16 => .int
  | 17 => .int
  | 18 => .array .int
  | 19 => .array .int
  | 20 => .array .int
  | 21 => .array .int
  | 22 => .array .int
  | 23 => .int
  | 24 => .array .int
  | 25 => .int
  | 26 => .array .long
  | 27 => .int
  | 28 => .array .int
  | 29 => .array .int
  | 30 => .array .int
  | 31 => .array .int
  | 32 => .array .int
  | 33 => .int
  | 34 => .long
  | 35 => .array .int
  | _ => .int
theorem nmX10 : ∀ a, a < 37 → ∀ b, b < 37 → a ≠ b → (TX10 a).2.1 ≠ (TX10 b).2.1 := by decide +kernel
theorem tyX10_ok : ∀ k, k < 37 → parseFieldDescriptor (TX10 k).2.2.1 = some (tyX10 k) := by decide +kernel
abbrev cX10_init : ByteArray := prog_12_method_1_code
def yX10_init : MethodName := ⟨RX10, "<init>", "()V"⟩
abbrev cX10_thrown : ByteArray := prog_12_method_2_code
def yX10_thrown : MethodName := ⟨RX10, "thrown", "()I"⟩
abbrev cX10_bad : ByteArray := prog_12_method_3_code
def yX10_bad : MethodName := ⟨RX10, "bad", "(ZI)Z"⟩
abbrev cX10_holder : ByteArray := prog_12_method_4_code
def yX10_holder : MethodName := ⟨RX10, "holder", "()I"⟩
abbrev cX10_isHolder : ByteArray := prog_12_method_5_code
def yX10_isHolder : MethodName := ⟨RX10, "isHolder", "(I)Z"⟩
abbrev cX10_adds : ByteArray := prog_12_method_6_code
def yX10_adds : MethodName := ⟨RX10, "adds", "(IIII)V"⟩
abbrev cX10_buy : ByteArray := prog_12_method_7_code
def yX10_buy : MethodName := ⟨RX10, "buy", "(II)I"⟩
abbrev cX10_goesOn : ByteArray := prog_12_method_8_code
def yX10_goesOn : MethodName := ⟨RX10, "goesOn", "(II)Z"⟩
abbrev cX10_hasOf : ByteArray := prog_12_method_9_code
def yX10_hasOf : MethodName := ⟨RX10, "hasOf", "(III)J"⟩
abbrev cX10_goes : ByteArray := prog_12_method_10_code
def yX10_goes : MethodName := ⟨RX10, "goes", "(IIII)I"⟩
abbrev cX10_give : ByteArray := prog_12_method_11_code
def yX10_give : MethodName := ⟨RX10, "give", "(IIII)I"⟩
abbrev cX10_cash : ByteArray := prog_12_method_12_code
def yX10_cash : MethodName := ⟨RX10, "cash", "(III)I"⟩
abbrev cX10_died : ByteArray := prog_12_method_13_code
def yX10_died : MethodName := ⟨RX10, "died", "(II)I"⟩
abbrev cX10_held : ByteArray := prog_12_method_14_code
def yX10_held : MethodName := ⟨RX10, "held", "(II)I"⟩
abbrev cX10_has : ByteArray := prog_12_method_15_code
def yX10_has : MethodName := ⟨RX10, "has", "(I)I"⟩
abbrev cX10_line : ByteArray := prog_12_method_16_code
def yX10_line : MethodName := ⟨RX10, "line", "(II)I"⟩
abbrev cX10_wait : ByteArray := prog_12_method_17_code
def yX10_wait : MethodName := ⟨RX10, "wait", "(I)I"⟩
abbrev cX10_feed : ByteArray := prog_12_method_18_code
def yX10_feed : MethodName := ⟨RX10, "feed", "(IIIII)I"⟩
abbrev cX10_byteAt : ByteArray := prog_12_method_19_code
def yX10_byteAt : MethodName := ⟨RX10, "byteAt", "(I)I"⟩
abbrev cX10_blanks : ByteArray := prog_12_method_20_code
def yX10_blanks : MethodName := ⟨RX10, "blanks", "()V"⟩
abbrev cX10_isSmall : ByteArray := prog_12_method_21_code
def yX10_isSmall : MethodName := ⟨RX10, "isSmall", "(I)Z"⟩
abbrev cX10_isDigit : ByteArray := prog_12_method_22_code
def yX10_isDigit : MethodName := ⟨RX10, "isDigit", "(I)Z"⟩
abbrev cX10_wrong : ByteArray := prog_12_method_23_code
def yX10_wrong : MethodName := ⟨RX10, "wrong", "(II)V"⟩
abbrev cX10_isWord : ByteArray := prog_12_method_24_code
def yX10_isWord : MethodName := ⟨RX10, "isWord", "(Ljava/lang/String;)Z"⟩
abbrev cX10_need : ByteArray := prog_12_method_25_code
def yX10_need : MethodName := ⟨RX10, "need", "(Ljava/lang/String;)V"⟩
abbrev cX10_number : ByteArray := prog_12_method_26_code
def yX10_number : MethodName := ⟨RX10, "number", "(II)I"⟩
abbrev cX10_sign : ByteArray := prog_12_method_27_code
def yX10_sign : MethodName := ⟨RX10, "sign", "(I)V"⟩
abbrev cX10_clause : ByteArray := prog_12_method_28_code
def yX10_clause : MethodName := ⟨RX10, "clause", "(I)V"⟩
abbrev cX10_rule : ByteArray := prog_12_method_29_code
def yX10_rule : MethodName := ⟨RX10, "rule", "(II)I"⟩
abbrev cX10_fault : ByteArray := prog_12_method_30_code
def yX10_fault : MethodName := ⟨RX10, "fault", "()I"⟩
abbrev cX10_forceOf : ByteArray := prog_12_method_31_code
def yX10_forceOf : MethodName := ⟨RX10, "forceOf", "(I)I"⟩
abbrev cX10_force : ByteArray := prog_12_method_32_code
def yX10_force : MethodName := ⟨RX10, "force", "(I)I"⟩
abbrev cX10_noise : ByteArray := prog_12_method_33_code
def yX10_noise : MethodName := ⟨RX10, "noise", "(I)I"⟩
abbrev cX10_mix : ByteArray := prog_12_method_34_code
def yX10_mix : MethodName := ⟨RX10, "mix", "(JJ)J"⟩
abbrev cX10_common : ByteArray := prog_12_method_35_code
def yX10_common : MethodName := ⟨RX10, "common", "(JJ)J"⟩
abbrev cX10_sorts : ByteArray := prog_12_method_36_code
def yX10_sorts : MethodName := ⟨RX10, "sorts", "(I)J"⟩
abbrev cX10_draw : ByteArray := prog_12_method_37_code
def yX10_draw : MethodName := ⟨RX10, "draw", "()I"⟩
abbrev cX10_winsAt : ByteArray := prog_12_method_38_code
def yX10_winsAt : MethodName := ⟨RX10, "winsAt", "(JI)V"⟩
abbrev cX10_drawn : ByteArray := prog_12_method_39_code
def yX10_drawn : MethodName := ⟨RX10, "drawn", "(II)J"⟩
abbrev cX10_isWin : ByteArray := prog_12_method_40_code
def yX10_isWin : MethodName := ⟨RX10, "isWin", "(I)Z"⟩
abbrev cX10_win : ByteArray := prog_12_method_41_code
def yX10_win : MethodName := ⟨RX10, "win", "(II)I"⟩
abbrev cX10_claim : ByteArray := prog_12_method_42_code
def yX10_claim : MethodName := ⟨RX10, "claim", "(I)I"⟩
abbrev cX10_paid : ByteArray := prog_12_method_43_code
def yX10_paid : MethodName := ⟨RX10, "paid", "(I)J"⟩
abbrev cX10_carried : ByteArray := prog_12_method_44_code
def yX10_carried : MethodName := ⟨RX10, "carried", "()J"⟩
abbrev cX10_heldNow : ByteArray := prog_12_method_45_code
def yX10_heldNow : MethodName := ⟨RX10, "heldNow", "()J"⟩
abbrev cX10_count : ByteArray := prog_12_method_46_code
def yX10_count : MethodName := ⟨RX10, "count", "(I)I"⟩
def RJx145de : String := "java/io/Serializable"
def TJx145de : u_T := fun k => match k with
  | _ => ("", "", "", false)
def tyJx145de : Nat → FieldType := fun k => match k with
  | _ => .int
theorem nmJx145de : ∀ a, a < 0 → ∀ b, b < 0 → a ≠ b → (TJx145de a).2.1 ≠ (TJx145de b).2.1 := by decide +kernel
theorem tyJx145de_ok : ∀ k, k < 0 → parseFieldDescriptor (TJx145de k).2.2.1 = some (tyJx145de k) := by decide +kernel
def RJ5 : String := "java/lang/AbstractStringBuilder"
def TJ5 : u_T := fun k => match k with
  | _ => ("", "", "", false)
def tyJ5 : Nat → FieldType := fun k => match k with
  | _ => .int
theorem nmJ5 : ∀ a, a < 0 → ∀ b, b < 0 → a ≠ b → (TJ5 a).2.1 ≠ (TJ5 b).2.1 := by decide +kernel
theorem tyJ5_ok : ∀ k, k < 0 → parseFieldDescriptor (TJ5 k).2.2.1 = some (tyJ5 k) := by decide +kernel
abbrev cJ5_init_d00df : ByteArray := prog_14_method_2_code
def yJ5_init_d00df : MethodName := ⟨RJ5, "<init>", "(I)V"⟩
abbrev cJ5_length_8abf5 : ByteArray := prog_14_method_6_code
def yJ5_length_8abf5 : MethodName := ⟨RJ5, "length", "()I"⟩
abbrev cJ5_ensureCapacityInternal_d00df : ByteArray := prog_14_method_9_code
def yJ5_ensureCapacityInternal_d00df : MethodName := ⟨RJ5, "ensureCapacityInternal", "(I)V"⟩
abbrev cJ5_newCapacity_0f7a4 : ByteArray := prog_14_method_10_code
def yJ5_newCapacity_0f7a4 : MethodName := ⟨RJ5, "newCapacity", "(I)I"⟩
abbrev cJ5_inflate_da8c8 : ByteArray := prog_14_method_11_code
def yJ5_inflate_da8c8 : MethodName := ⟨RJ5, "inflate", "()V"⟩
abbrev cJ5_append_cf1ce : ByteArray := prog_14_method_22_code
def yJ5_append_cf1ce : MethodName := ⟨RJ5, "append", "(Ljava/lang/String;)Ljava/lang/AbstractStringBuilder;"⟩
abbrev cJ5_appendNull_278bc : ByteArray := prog_14_method_26_code
def yJ5_appendNull_278bc : MethodName := ⟨RJ5, "appendNull", "()Ljava/lang/AbstractStringBuilder;"⟩
abbrev cJ5_append_c97b9 : ByteArray := prog_14_method_32_code
def yJ5_append_c97b9 : MethodName := ⟨RJ5, "append", "(I)Ljava/lang/AbstractStringBuilder;"⟩
abbrev cJ5_getValue_6d5f1 : ByteArray := prog_14_method_64_code
def yJ5_getValue_6d5f1 : MethodName := ⟨RJ5, "getValue", "()[B"⟩
abbrev cJ5_isLatin1_aae02 : ByteArray := prog_14_method_68_code
def yJ5_isLatin1_aae02 : MethodName := ⟨RJ5, "isLatin1", "()Z"⟩
abbrev cJ5_inflateIfNeededFor_a7421 : ByteArray := prog_14_method_71_code
def yJ5_inflateIfNeededFor_a7421 : MethodName := ⟨RJ5, "inflateIfNeededFor", "(Ljava/lang/String;)V"⟩
abbrev cJ5_putStringAt_47b60 : ByteArray := prog_14_method_73_code
def yJ5_putStringAt_47b60 : MethodName := ⟨RJ5, "putStringAt", "(ILjava/lang/String;)V"⟩
def RJx8e188 : String := "java/lang/Cloneable"
def TJx8e188 : u_T := fun k => match k with
  | _ => ("", "", "", false)
def tyJx8e188 : Nat → FieldType := fun k => match k with
  | _ => .int
theorem nmJx8e188 : ∀ a, a < 0 → ∀ b, b < 0 → a ≠ b → (TJx8e188 a).2.1 ≠ (TJx8e188 b).2.1 := by decide +kernel
theorem tyJx8e188_ok : ∀ k, k < 0 → parseFieldDescriptor (TJx8e188 k).2.2.1 = some (tyJx8e188 k) := by decide +kernel
def RJx29ce0 : String := "java/lang/Enum"
def TJx29ce0 : u_T := fun k => match k with
  | _ => ("", "", "", false)
def tyJx29ce0 : Nat → FieldType := fun k => match k with
  | _ => .int
theorem nmJx29ce0 : ∀ a, a < 0 → ∀ b, b < 0 → a ≠ b → (TJx29ce0 a).2.1 ≠ (TJx29ce0 b).2.1 := by decide +kernel
theorem tyJx29ce0_ok : ∀ k, k < 0 → parseFieldDescriptor (TJx29ce0 k).2.2.1 = some (tyJx29ce0 k) := by decide +kernel
def RJ6 : String := "java/lang/Integer"
def TJ6 : u_T := fun k => match k with
  | _ => ("", "", "", false)
def tyJ6 : Nat → FieldType := fun k => match k with
  | _ => .int
theorem nmJ6 : ∀ a, a < 0 → ∀ b, b < 0 → a ≠ b → (TJ6 a).2.1 ≠ (TJ6 b).2.1 := by decide +kernel
theorem tyJ6_ok : ∀ k, k < 0 → parseFieldDescriptor (TJ6 k).2.2.1 = some (tyJ6 k) := by decide +kernel
abbrev cJ6_getChars_ba4f3 : ByteArray := prog_21_method_12_code
def yJ6_getChars_ba4f3 : MethodName := ⟨RJ6, "getChars", "(II[B)I"⟩
abbrev cJ6_stringSize_0f7a4 : ByteArray := prog_21_method_13_code
def yJ6_stringSize_0f7a4 : MethodName := ⟨RJ6, "stringSize", "(I)I"⟩
def RJxab1ab : String := "java/lang/Iterable"
def TJxab1ab : u_T := fun k => match k with
  | _ => ("", "", "", false)
def tyJxab1ab : Nat → FieldType := fun k => match k with
  | _ => .int
theorem nmJxab1ab : ∀ a, a < 0 → ∀ b, b < 0 → a ≠ b → (TJxab1ab a).2.1 ≠ (TJxab1ab b).2.1 := by decide +kernel
theorem tyJxab1ab_ok : ∀ k, k < 0 → parseFieldDescriptor (TJxab1ab k).2.2.1 = some (tyJxab1ab k) := by decide +kernel
def RJ9 : String := "java/lang/Math"
def TJ9 : u_T := fun k => match k with
  | _ => ("", "", "", false)
def tyJ9 : Nat → FieldType := fun k => match k with
  | _ => .int
theorem nmJ9 : ∀ a, a < 0 → ∀ b, b < 0 → a ≠ b → (TJ9 a).2.1 ≠ (TJ9 b).2.1 := by decide +kernel
theorem tyJ9_ok : ∀ k, k < 0 → parseFieldDescriptor (TJ9 k).2.2.1 = some (tyJ9 k) := by decide +kernel
abbrev cJ9_max_7cf53 : ByteArray := prog_23_method_65_code
def yJ9_max_7cf53 : MethodName := ⟨RJ9, "max", "(II)I"⟩
abbrev cJ9_min_7cf53 : ByteArray := prog_23_method_69_code
def yJ9_min_7cf53 : MethodName := ⟨RJ9, "min", "(II)I"⟩
abbrev cJ9_min_f86c9 : ByteArray := prog_23_method_70_code
def yJ9_min_f86c9 : MethodName := ⟨RJ9, "min", "(JJ)J"⟩
def RJ0 : String := "java/lang/String"
def TJ0 : u_T := fun k => match k with
  | 0 => ("java/lang/String", "value", "[B", true)
  | 1 => ("java/lang/String", "coder", "B", true)
  | 2 => ("java/lang/String", "hash", "I", false)
  | _ => ("java/lang/String", "hashIsZero", "Z", false)
def tyJ0 : Nat → FieldType := fun k => match k with
  | 0 => .array .byte
  | 1 => .byte
  | 2 => .int
  | _ => .boolean
theorem nmJ0 : ∀ a, a < 4 → ∀ b, b < 4 → a ≠ b → (TJ0 a).2.1 ≠ (TJ0 b).2.1 := by decide +kernel
theorem tyJ0_ok : ∀ k, k < 4 → parseFieldDescriptor (TJ0 k).2.2.1 = some (tyJ0 k) := by decide +kernel
abbrev cJ0_init_81219 : ByteArray := prog_25_method_53_code
def yJ0_init_81219 : MethodName := ⟨RJ0, "<init>", "(Ljava/lang/StringBuilder;)V"⟩
abbrev cJ0_length_8abf5 : ByteArray := prog_25_method_54_code
def yJ0_length_8abf5 : MethodName := ⟨RJ0, "length", "()I"⟩
abbrev cJ0_isEmpty_aae02 : ByteArray := prog_25_method_55_code
def yJ0_isEmpty_aae02 : MethodName := ⟨RJ0, "isEmpty", "()Z"⟩
abbrev cJ0_charAt_5068e : ByteArray := prog_25_method_56_code
def yJ0_charAt_5068e : MethodName := ⟨RJ0, "charAt", "(I)C"⟩
abbrev cJ0_getBytes_840e7 : ByteArray := prog_25_method_147_code
def yJ0_getBytes_840e7 : MethodName := ⟨RJ0, "getBytes", "([BIB)V"⟩
abbrev cJ0_init_db425 : ByteArray := prog_25_method_150_code
def yJ0_init_db425 : MethodName := ⟨RJ0, "<init>", "(Ljava/lang/AbstractStringBuilder;Ljava/lang/Void;)V"⟩
abbrev cJ0_coder_7d493 : ByteArray := prog_25_method_152_code
def yJ0_coder_7d493 : MethodName := ⟨RJ0, "coder", "()B"⟩
abbrev cJ0_isLatin1_aae02 : ByteArray := prog_25_method_154_code
def yJ0_isLatin1_aae02 : MethodName := ⟨RJ0, "isLatin1", "()Z"⟩
abbrev cJ0_checkIndex_df160 : ByteArray := prog_25_method_155_code
def yJ0_checkIndex_df160 : MethodName := ⟨RJ0, "checkIndex", "(II)V"⟩
abbrev cJ0_checkBoundsOffCount_cabcc : ByteArray := prog_25_method_157_code
def yJ0_checkBoundsOffCount_cabcc : MethodName := ⟨RJ0, "checkBoundsOffCount", "(III)I"⟩
abbrev cJ0_checkBoundsBeginEnd_23922 : ByteArray := prog_25_method_158_code
def yJ0_checkBoundsBeginEnd_23922 : MethodName := ⟨RJ0, "checkBoundsBeginEnd", "(III)V"⟩
def RJ4 : String := "java/lang/StringBuilder"
def TJ4 : u_T := fun k => match k with
  | 0 => ("java/lang/AbstractStringBuilder", "value", "[B", false)
  | 1 => ("java/lang/AbstractStringBuilder", "coder", "B", false)
  | 2 => ("java/lang/AbstractStringBuilder", "maybeLatin1", "Z", false)
  | _ => ("java/lang/AbstractStringBuilder", "count", "I", false)
def tyJ4 : Nat → FieldType := fun k => match k with
  | 0 => .array .byte
  | 1 => .byte
  | 2 => .boolean
  | _ => .int
theorem nmJ4 : ∀ a, a < 4 → ∀ b, b < 4 → a ≠ b → (TJ4 a).2.1 ≠ (TJ4 b).2.1 := by decide +kernel
theorem tyJ4_ok : ∀ k, k < 4 → parseFieldDescriptor (TJ4 k).2.2.1 = some (tyJ4 k) := by decide +kernel
abbrev cJ4_init_da8c8 : ByteArray := prog_26_method_1_code
def yJ4_init_da8c8 : MethodName := ⟨RJ4, "<init>", "()V"⟩
abbrev cJ4_append_15ec4 : ByteArray := prog_26_method_7_code
def yJ4_append_15ec4 : MethodName := ⟨RJ4, "append", "(Ljava/lang/String;)Ljava/lang/StringBuilder;"⟩
abbrev cJ4_append_bf812 : ByteArray := prog_26_method_15_code
def yJ4_append_bf812 : MethodName := ⟨RJ4, "append", "(I)Ljava/lang/StringBuilder;"⟩
abbrev cJ4_toString_0e30d : ByteArray := prog_26_method_42_code
def yJ4_toString_0e30d : MethodName := ⟨RJ4, "toString", "()Ljava/lang/String;"⟩
abbrev cJ4_length_8abf5 : ByteArray := prog_26_method_93_code
def yJ4_length_8abf5 : MethodName := ⟨RJ4, "length", "()I"⟩
def RJ1 : String := "java/lang/StringLatin1"
def TJ1 : u_T := fun k => match k with
  | _ => ("", "", "", false)
def tyJ1 : Nat → FieldType := fun k => match k with
  | _ => .int
theorem nmJ1 : ∀ a, a < 0 → ∀ b, b < 0 → a ≠ b → (TJ1 a).2.1 ≠ (TJ1 b).2.1 := by decide +kernel
theorem tyJ1_ok : ∀ k, k < 0 → parseFieldDescriptor (TJ1 k).2.2.1 = some (tyJ1 k) := by decide +kernel
abbrev cJ1_charAt_3b067 : ByteArray := prog_27_method_2_code
def yJ1_charAt_3b067 : MethodName := ⟨RJ1, "charAt", "([BI)C"⟩
abbrev cJ1_inflate_0e8fd : ByteArray := prog_27_method_50_code
def yJ1_inflate_0e8fd : MethodName := ⟨RJ1, "inflate", "([BI[BII)V"⟩
def RJ2 : String := "java/lang/StringUTF16"
def TJ2 : u_T := fun k => match k with
  | _ => ("", "", "", false)
def tyJ2 : Nat → FieldType := fun k => match k with
  | _ => .int
theorem nmJ2 : ∀ a, a < 0 → ∀ b, b < 0 → a ≠ b → (TJ2 a).2.1 ≠ (TJ2 b).2.1 := by decide +kernel
theorem tyJ2_ok : ∀ k, k < 0 → parseFieldDescriptor (TJ2 k).2.2.1 = some (tyJ2 k) := by decide +kernel
abbrev cJ2_newBytesFor_77867 : ByteArray := prog_28_method_2_code
def yJ2_newBytesFor_77867 : MethodName := ⟨RJ2, "newBytesFor", "(I)[B"⟩
abbrev cJ2_newBytesLength_0f7a4 : ByteArray := prog_28_method_3_code
def yJ2_newBytesLength_0f7a4 : MethodName := ⟨RJ2, "newBytesLength", "(I)I"⟩
abbrev cJ2_putChar_b72d1 : ByteArray := prog_28_method_4_code
def yJ2_putChar_b72d1 : MethodName := ⟨RJ2, "putChar", "([BII)V"⟩
abbrev cJ2_getChar_3b067 : ByteArray := prog_28_method_5_code
def yJ2_getChar_3b067 : MethodName := ⟨RJ2, "getChar", "([BI)C"⟩
abbrev cJ2_length_9d52b : ByteArray := prog_28_method_6_code
def yJ2_length_9d52b : MethodName := ⟨RJ2, "length", "([B)I"⟩
abbrev cJ2_coderFromArrayLen_85cad : ByteArray := prog_28_method_15_code
def yJ2_coderFromArrayLen_85cad : MethodName := ⟨RJ2, "coderFromArrayLen", "([BI)B"⟩
abbrev cJ2_compress_39247 : ByteArray := prog_28_method_17_code
def yJ2_compress_39247 : MethodName := ⟨RJ2, "compress", "([BII)[B"⟩
abbrev cJ2_compress_5af95 : ByteArray := prog_28_method_22_code
def yJ2_compress_5af95 : MethodName := ⟨RJ2, "compress", "([BI[BII)I"⟩
abbrev cJ2_getChars_46870 : ByteArray := prog_28_method_77_code
def yJ2_getChars_46870 : MethodName := ⟨RJ2, "getChars", "(III[B)I"⟩
abbrev cJ2_putCharsAt_cd4e5 : ByteArray := prog_28_method_81_code
def yJ2_putCharsAt_cd4e5 : MethodName := ⟨RJ2, "putCharsAt", "([BICCCC)I"⟩
abbrev cJ2_charAt_3b067 : ByteArray := prog_28_method_83_code
def yJ2_charAt_3b067 : MethodName := ⟨RJ2, "charAt", "([BI)C"⟩
abbrev cJ2_inflate_0e8fd : ByteArray := prog_28_method_86_code
def yJ2_inflate_0e8fd : MethodName := ⟨RJ2, "inflate", "([BI[BII)V"⟩
abbrev cJ2_getChars_ba4f3 : ByteArray := prog_28_method_89_code
def yJ2_getChars_ba4f3 : MethodName := ⟨RJ2, "getChars", "(II[B)I"⟩
abbrev cJ2_checkIndex_2214a : ByteArray := prog_28_method_91_code
def yJ2_checkIndex_2214a : MethodName := ⟨RJ2, "checkIndex", "(I[B)V"⟩
abbrev cJ2_checkBoundsBeginEnd_d044e : ByteArray := prog_28_method_93_code
def yJ2_checkBoundsBeginEnd_d044e : MethodName := ⟨RJ2, "checkBoundsBeginEnd", "(II[B)V"⟩
abbrev cJ2_checkBoundsOffCount_d044e : ByteArray := prog_28_method_94_code
def yJ2_checkBoundsOffCount_d044e : MethodName := ⟨RJ2, "checkBoundsOffCount", "(II[B)V"⟩
def RJ10 : String := "java/lang/System"
def TJ10 : u_T := fun k => match k with
  | _ => ("", "", "", false)
def tyJ10 : Nat → FieldType := fun k => match k with
  | _ => .int
theorem nmJ10 : ∀ a, a < 0 → ∀ b, b < 0 → a ≠ b → (TJ10 a).2.1 ≠ (TJ10 b).2.1 := by decide +kernel
theorem tyJ10_ok : ∀ k, k < 0 → parseFieldDescriptor (TJ10 k).2.2.1 = some (tyJ10 k) := by decide +kernel
def RJxa1e45 : String := "java/util/AbstractCollection"
def TJxa1e45 : u_T := fun k => match k with
  | _ => ("", "", "", false)
def tyJxa1e45 : Nat → FieldType := fun k => match k with
  | _ => .int
theorem nmJxa1e45 : ∀ a, a < 0 → ∀ b, b < 0 → a ≠ b → (TJxa1e45 a).2.1 ≠ (TJxa1e45 b).2.1 := by decide +kernel
theorem tyJxa1e45_ok : ∀ k, k < 0 → parseFieldDescriptor (TJxa1e45 k).2.2.1 = some (tyJxa1e45 k) := by decide +kernel
abbrev cJxa1e45_init_da8c8 : ByteArray := prog_31_method_1_code
def yJxa1e45_init_da8c8 : MethodName := ⟨RJxa1e45, "<init>", "()V"⟩
def RJxc12de : String := "java/util/AbstractList"
def TJxc12de : u_T := fun k => match k with
  | _ => ("", "", "", false)
def tyJxc12de : Nat → FieldType := fun k => match k with
  | _ => .int
theorem nmJxc12de : ∀ a, a < 0 → ∀ b, b < 0 → a ≠ b → (TJxc12de a).2.1 ≠ (TJxc12de b).2.1 := by decide +kernel
theorem tyJxc12de_ok : ∀ k, k < 0 → parseFieldDescriptor (TJxc12de k).2.2.1 = some (tyJxc12de k) := by decide +kernel
abbrev cJxc12de_init_da8c8 : ByteArray := prog_32_method_1_code
def yJxc12de_init_da8c8 : MethodName := ⟨RJxc12de, "<init>", "()V"⟩
def RJx4a65c : String := "java/util/ArrayList"
def TJx4a65c : u_T := fun k => match k with
  | 0 => ("java/util/AbstractList", "modCount", "I", false)
  | 1 => ("java/util/ArrayList", "elementData", "[Ljava/lang/Object;", false)
  | _ => ("java/util/ArrayList", "size", "I", false)
def tyJx4a65c : Nat → FieldType := fun k => match k with
  | 0 => .int
  | 1 => .array (.object "java/lang/Object")
  | _ => .int
theorem nmJx4a65c : ∀ a, a < 3 → ∀ b, b < 3 → a ≠ b → (TJx4a65c a).2.1 ≠ (TJx4a65c b).2.1 := by decide +kernel
theorem tyJx4a65c_ok : ∀ k, k < 3 → parseFieldDescriptor (TJx4a65c k).2.2.1 = some (tyJx4a65c k) := by decide +kernel
abbrev cJx4a65c_init_da8c8 : ByteArray := prog_33_method_2_code
def yJx4a65c_init_da8c8 : MethodName := ⟨RJx4a65c, "<init>", "()V"⟩
abbrev cJx4a65c_grow_92f84 : ByteArray := prog_33_method_6_code
def yJx4a65c_grow_92f84 : MethodName := ⟨RJx4a65c, "grow", "(I)[Ljava/lang/Object;"⟩
abbrev cJx4a65c_grow_d5877 : ByteArray := prog_33_method_7_code
def yJx4a65c_grow_d5877 : MethodName := ⟨RJx4a65c, "grow", "()[Ljava/lang/Object;"⟩
abbrev cJx4a65c_size_8abf5 : ByteArray := prog_33_method_8_code
def yJx4a65c_size_8abf5 : MethodName := ⟨RJx4a65c, "size", "()I"⟩
abbrev cJx4a65c_elementData_915e3 : ByteArray := prog_33_method_18_code
def yJx4a65c_elementData_915e3 : MethodName := ⟨RJx4a65c, "elementData", "(I)Ljava/lang/Object;"⟩
abbrev cJx4a65c_get_915e3 : ByteArray := prog_33_method_20_code
def yJx4a65c_get_915e3 : MethodName := ⟨RJx4a65c, "get", "(I)Ljava/lang/Object;"⟩
abbrev cJx4a65c_set_bcc79 : ByteArray := prog_33_method_23_code
def yJx4a65c_set_bcc79 : MethodName := ⟨RJx4a65c, "set", "(ILjava/lang/Object;)Ljava/lang/Object;"⟩
abbrev cJx4a65c_add_72be8 : ByteArray := prog_33_method_24_code
def yJx4a65c_add_72be8 : MethodName := ⟨RJx4a65c, "add", "(Ljava/lang/Object;[Ljava/lang/Object;I)V"⟩
abbrev cJx4a65c_add_9ea2d : ByteArray := prog_33_method_25_code
def yJx4a65c_add_9ea2d : MethodName := ⟨RJx4a65c, "add", "(Ljava/lang/Object;)Z"⟩
abbrev cJx4a65c_add_7a177 : ByteArray := prog_33_method_26_code
def yJx4a65c_add_7a177 : MethodName := ⟨RJx4a65c, "add", "(ILjava/lang/Object;)V"⟩
abbrev cJx4a65c_remove_915e3 : ByteArray := prog_33_method_29_code
def yJx4a65c_remove_915e3 : MethodName := ⟨RJx4a65c, "remove", "(I)Ljava/lang/Object;"⟩
abbrev cJx4a65c_fastRemove_b59b0 : ByteArray := prog_33_method_39_code
def yJx4a65c_fastRemove_b59b0 : MethodName := ⟨RJx4a65c, "fastRemove", "([Ljava/lang/Object;I)V"⟩
abbrev cJx4a65c_rangeCheckForAdd_d00df : ByteArray := prog_33_method_45_code
def yJx4a65c_rangeCheckForAdd_d00df : MethodName := ⟨RJx4a65c, "rangeCheckForAdd", "(I)V"⟩
abbrev cJx4a65c_outOfBoundsMsg_b52d3 : ByteArray := prog_33_method_46_code
def yJx4a65c_outOfBoundsMsg_b52d3 : MethodName := ⟨RJx4a65c, "outOfBoundsMsg", "(I)Ljava/lang/String;"⟩
def RJ7 : String := "java/util/Arrays"
def TJ7 : u_T := fun k => match k with
  | _ => ("", "", "", false)
def tyJ7 : Nat → FieldType := fun k => match k with
  | _ => .int
theorem nmJ7 : ∀ a, a < 0 → ∀ b, b < 0 → a ≠ b → (TJ7 a).2.1 ≠ (TJ7 b).2.1 := by decide +kernel
theorem tyJ7_ok : ∀ k, k < 0 → parseFieldDescriptor (TJ7 k).2.2.1 = some (tyJ7 k) := by decide +kernel
abbrev cJ7_copyOf_1904c : ByteArray := prog_34_method_119_code
def yJ7_copyOf_1904c : MethodName := ⟨RJ7, "copyOf", "([Ljava/lang/Object;I)[Ljava/lang/Object;"⟩
abbrev cJ7_copyOf_6403c : ByteArray := prog_34_method_120_code
def yJ7_copyOf_6403c : MethodName := ⟨RJ7, "copyOf", "([Ljava/lang/Object;ILjava/lang/Class;)[Ljava/lang/Object;"⟩
abbrev cJ7_copyOf_9075b : ByteArray := prog_34_method_121_code
def yJ7_copyOf_9075b : MethodName := ⟨RJ7, "copyOf", "([BI)[B"⟩
abbrev cJ7_checkLength_df160 : ByteArray := prog_34_method_131_code
def yJ7_checkLength_df160 : MethodName := ⟨RJ7, "checkLength", "(II)V"⟩
abbrev cJ7_copyOfRange_39247 : ByteArray := prog_34_method_132_code
def yJ7_copyOfRange_39247 : MethodName := ⟨RJ7, "copyOfRange", "([BII)[B"⟩
abbrev cJ7_copyOfRangeByte_39247 : ByteArray := prog_34_method_133_code
def yJ7_copyOfRangeByte_39247 : MethodName := ⟨RJ7, "copyOfRangeByte", "([BII)[B"⟩
def RJx5ef63 : String := "java/util/Collection"
def TJx5ef63 : u_T := fun k => match k with
  | _ => ("", "", "", false)
def tyJx5ef63 : Nat → FieldType := fun k => match k with
  | _ => .int
theorem nmJx5ef63 : ∀ a, a < 0 → ∀ b, b < 0 → a ≠ b → (TJx5ef63 a).2.1 ≠ (TJx5ef63 b).2.1 := by decide +kernel
theorem tyJx5ef63_ok : ∀ k, k < 0 → parseFieldDescriptor (TJx5ef63 k).2.2.1 = some (tyJx5ef63 k) := by decide +kernel
def RJxbd725 : String := "java/util/List"
def TJxbd725 : u_T := fun k => match k with
  | _ => ("", "", "", false)
def tyJxbd725 : Nat → FieldType := fun k => match k with
  | _ => .int
theorem nmJxbd725 : ∀ a, a < 0 → ∀ b, b < 0 → a ≠ b → (TJxbd725 a).2.1 ≠ (TJxbd725 b).2.1 := by decide +kernel
theorem tyJxbd725_ok : ∀ k, k < 0 → parseFieldDescriptor (TJxbd725 k).2.2.1 = some (tyJxbd725 k) := by decide +kernel
def RJ15 : String := "java/util/Objects"
def TJ15 : u_T := fun k => match k with
  | _ => ("", "", "", false)
def tyJ15 : Nat → FieldType := fun k => match k with
  | _ => .int
theorem nmJ15 : ∀ a, a < 0 → ∀ b, b < 0 → a ≠ b → (TJ15 a).2.1 ≠ (TJ15 b).2.1 := by decide +kernel
theorem tyJ15_ok : ∀ k, k < 0 → parseFieldDescriptor (TJ15 k).2.2.1 = some (tyJ15 k) := by decide +kernel
abbrev cJ15_checkIndex_7cf53 : ByteArray := prog_37_method_17_code
def yJ15_checkIndex_7cf53 : MethodName := ⟨RJ15, "checkIndex", "(II)I"⟩
def RJxf0a74 : String := "java/util/RandomAccess"
def TJxf0a74 : u_T := fun k => match k with
  | _ => ("", "", "", false)
def tyJxf0a74 : Nat → FieldType := fun k => match k with
  | _ => .int
theorem nmJxf0a74 : ∀ a, a < 0 → ∀ b, b < 0 → a ≠ b → (TJxf0a74 a).2.1 ≠ (TJxf0a74 b).2.1 := by decide +kernel
theorem tyJxf0a74_ok : ∀ k, k < 0 → parseFieldDescriptor (TJxf0a74 k).2.2.1 = some (tyJxf0a74 k) := by decide +kernel
def RJxa66e6 : String := "java/util/SequencedCollection"
def TJxa66e6 : u_T := fun k => match k with
  | _ => ("", "", "", false)
def tyJxa66e6 : Nat → FieldType := fun k => match k with
  | _ => .int
theorem nmJxa66e6 : ∀ a, a < 0 → ∀ b, b < 0 → a ≠ b → (TJxa66e6 a).2.1 ≠ (TJxa66e6 b).2.1 := by decide +kernel
theorem tyJxa66e6_ok : ∀ k, k < 0 → parseFieldDescriptor (TJxa66e6 k).2.2.1 = some (tyJxa66e6 k) := by decide +kernel
def RJ8 : String := "jdk/internal/util/ArraysSupport"
def TJ8 : u_T := fun k => match k with
  | _ => ("", "", "", false)
def tyJ8 : Nat → FieldType := fun k => match k with
  | _ => .int
theorem nmJ8 : ∀ a, a < 0 → ∀ b, b < 0 → a ≠ b → (TJ8 a).2.1 ≠ (TJ8 b).2.1 := by decide +kernel
theorem tyJ8_ok : ∀ k, k < 0 → parseFieldDescriptor (TJ8 k).2.2.1 = some (tyJ8 k) := by decide +kernel
abbrev cJ8_newLength_cabcc : ByteArray := prog_40_method_27_code
def yJ8_newLength_cabcc : MethodName := ⟨RJ8, "newLength", "(III)I"⟩
abbrev cJ8_hugeLength_7cf53 : ByteArray := prog_40_method_28_code
def yJ8_hugeLength_7cf53 : MethodName := ⟨RJ8, "hugeLength", "(II)I"⟩
def RJ3 : String := "jdk/internal/util/Preconditions"
def TJ3 : u_T := fun k => match k with
  | _ => ("", "", "", false)
def tyJ3 : Nat → FieldType := fun k => match k with
  | _ => .int
theorem nmJ3 : ∀ a, a < 0 → ∀ b, b < 0 → a ≠ b → (TJ3 a).2.1 ≠ (TJ3 b).2.1 := by decide +kernel
theorem tyJ3_ok : ∀ k, k < 0 → parseFieldDescriptor (TJ3 k).2.2.1 = some (tyJ3 k) := by decide +kernel
abbrev cJ3_checkIndex_8e157 : ByteArray := prog_41_method_11_code
def yJ3_checkIndex_8e157 : MethodName := ⟨RJ3, "checkIndex", "(IILjava/util/function/BiFunction;)I"⟩
abbrev cJ3_checkFromToIndex_8c36e : ByteArray := prog_41_method_12_code
def yJ3_checkFromToIndex_8c36e : MethodName := ⟨RJ3, "checkFromToIndex", "(IIILjava/util/function/BiFunction;)I"⟩
abbrev cJ3_checkFromIndexSize_8c36e : ByteArray := prog_41_method_13_code
def yJ3_checkFromIndexSize_8c36e : MethodName := ⟨RJ3, "checkFromIndexSize", "(IIILjava/util/function/BiFunction;)I"⟩
def RL : String := "BondOfficeLaw"
abbrev cL_holder : ByteArray := method_3_code
def yL_holder : MethodName := ⟨RL, "holder", "(LBondOffice;[J)I"⟩
abbrev cL_buy : ByteArray := method_4_code
def yL_buy : MethodName := ⟨RL, "buy", "(LBondOffice;II[J)I"⟩
abbrev cL_give : ByteArray := method_5_code
def yL_give : MethodName := ⟨RL, "give", "(LBondOffice;IIII[J)I"⟩
abbrev cL_cash : ByteArray := method_6_code
def yL_cash : MethodName := ⟨RL, "cash", "(LBondOffice;III[J)I"⟩
abbrev cL_died : ByteArray := method_7_code
def yL_died : MethodName := ⟨RL, "died", "(LBondOffice;II[J)I"⟩
abbrev cL_has : ByteArray := method_8_code
def yL_has : MethodName := ⟨RL, "has", "(LBondOffice;I[J)I"⟩
abbrev cL_line : ByteArray := method_9_code
def yL_line : MethodName := ⟨RL, "line", "(LBondOffice;II[J)I"⟩
abbrev cL_wait : ByteArray := method_10_code
def yL_wait : MethodName := ⟨RL, "wait", "(LBondOffice;I[J)I"⟩
abbrev cL_rule : ByteArray := method_11_code
def yL_rule : MethodName := ⟨RL, "rule", "(LBondOffice;II[J)I"⟩
abbrev cL_drawn : ByteArray := method_12_code
def yL_drawn : MethodName := ⟨RL, "drawn", "(LBondOffice;II[J)I"⟩
abbrev cL_win : ByteArray := method_13_code
def yL_win : MethodName := ⟨RL, "win", "(LBondOffice;II[J)I"⟩
abbrev cL_claim : ByteArray := method_14_code
def yL_claim : MethodName := ⟨RL, "claim", "(LBondOffice;I[J)I"⟩
abbrev cL_paid : ByteArray := method_15_code
def yL_paid : MethodName := ⟨RL, "paid", "(LBondOffice;I[J)I"⟩
abbrev cL_law : ByteArray := code
def yL_law : MethodName := ⟨RL, "law", "([I)Z"⟩
