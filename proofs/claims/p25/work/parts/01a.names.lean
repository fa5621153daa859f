def RX0 : String := "GooseLetters$Chances"
def TX0 : u_T := fun k => match k with
  | 0 => ("GooseLetters$Chances", "count", "I", false)
  | 1 => ("GooseLetters$Chances", "total", "J", false)
  | 2 => ("GooseLetters$Chances", "weights", "[J", true)
  | _ => ("GooseLetters$Chances", "fresh", "[J", true)
def tyX0 : Nat → FieldType := fun k => match k with
  | 0 => .int
  | 1 => .long
  | 2 => .array .long
  | _ => .array .long
theorem nmX0 : ∀ a, a < 4 → ∀ b, b < 4 → a ≠ b → (TX0 a).2.1 ≠ (TX0 b).2.1 := by decide +kernel
theorem tyX0_ok : ∀ k, k < 4 → parseFieldDescriptor (TX0 k).2.2.1 = some (tyX0 k) := by decide +kernel
abbrev cX0_init : ByteArray := prog_2_method_1_code
def yX0_init : MethodName := ⟨RX0, "<init>", "()V"⟩
abbrev cX0_begin : ByteArray := prog_2_method_2_code
def yX0_begin : MethodName := ⟨RX0, "begin", "(II)V"⟩
abbrev cX0_add : ByteArray := prog_2_method_3_code
def yX0_add : MethodName := ⟨RX0, "add", "(LGooseLetters$State;LGooseLetters$Laws;I)V"⟩
abbrev cX0_upper : ByteArray := prog_2_method_4_code
def yX0_upper : MethodName := ⟨RX0, "upper", "(I)J"⟩
def RX1 : String := "GooseLetters$Laws"
def TX1 : u_T := fun k => match k with
  | 0 => ("GooseLetters$Laws", "texts", "[LGooseLetters$Text;", true)
  | 1 => ("GooseLetters$Laws", "names", "[I", true)
  | 2 => ("GooseLetters$Laws", "stack", "[I", true)
  | _ => ("GooseLetters$Laws", "top", "I", false)
def tyX1 : Nat → FieldType := fun k => match k with
  | 0 => .array (.object "GooseLetters$Text")
  | 1 => .array .int
  | 2 => .array .int
  | _ => .int
theorem nmX1 : ∀ a, a < 4 → ∀ b, b < 4 → a ≠ b → (TX1 a).2.1 ≠ (TX1 b).2.1 := by decide +kernel
theorem tyX1_ok : ∀ k, k < 4 → parseFieldDescriptor (TX1 k).2.2.1 = some (tyX1 k) := by decide +kernel
abbrev cX1_init : ByteArray := prog_3_method_1_code
def yX1_init : MethodName := ⟨RX1, "<init>", "()V"⟩
abbrev cX1_textOf : ByteArray := prog_3_method_2_code
def yX1_textOf : MethodName := ⟨RX1, "textOf", "(I)LGooseLetters$Text;"⟩
abbrev cX1_lookAt : ByteArray := prog_3_method_3_code
def yX1_lookAt : MethodName := ⟨RX1, "lookAt", "(LGooseLetters$State;I)V"⟩
abbrev cX1_lookAtFilled : ByteArray := prog_3_method_4_code
def yX1_lookAtFilled : MethodName := ⟨RX1, "lookAtFilled", "(LGooseLetters$State;III)V"⟩
abbrev cX1_lookAtMarket : ByteArray := prog_3_method_5_code
def yX1_lookAtMarket : MethodName := ⟨RX1, "lookAtMarket", "(LGooseLetters$State;II)V"⟩
abbrev cX1_lookAtTraveller : ByteArray := prog_3_method_6_code
def yX1_lookAtTraveller : MethodName := ⟨RX1, "lookAtTraveller", "(LGooseLetters$State;I)V"⟩
abbrev cX1_inkCost : ByteArray := prog_3_method_7_code
def yX1_inkCost : MethodName := ⟨RX1, "inkCost", "(LGooseLetters$State;III)I"⟩
abbrev cX1_isTrue : ByteArray := prog_3_method_8_code
def yX1_isTrue : MethodName := ⟨RX1, "isTrue", "(LGooseLetters$State;I)Z"⟩
abbrev cX1_isTrueWith : ByteArray := prog_3_method_9_code
def yX1_isTrueWith : MethodName := ⟨RX1, "isTrueWith", "(LGooseLetters$State;II)Z"⟩
abbrev cX1_rule : ByteArray := prog_3_method_10_code
def yX1_rule : MethodName := ⟨RX1, "rule", "(LGooseLetters$State;I)I"⟩
abbrev cX1_without : ByteArray := prog_3_method_11_code
def yX1_without : MethodName := ⟨RX1, "without", "(I)I"⟩
abbrev cX1_take : ByteArray := prog_3_method_12_code
def yX1_take : MethodName := ⟨RX1, "take", "(I)V"⟩
abbrev cX1_push : ByteArray := prog_3_method_13_code
def yX1_push : MethodName := ⟨RX1, "push", "(J)V"⟩
abbrev cX1_pop : ByteArray := prog_3_method_14_code
def yX1_pop : MethodName := ⟨RX1, "pop", "()I"⟩
abbrev cX1_joined : ByteArray := prog_3_method_15_code
def yX1_joined : MethodName := ⟨RX1, "joined", "(IJJ)J"⟩
def RX2 : String := "GooseLetters$Parser"
def TX2 : u_T := fun k => match k with
  | 0 => ("GooseLetters$Parser", "fault", "I", false)
  | 1 => ("GooseLetters$Parser", "place", "I", false)
  | _ => ("GooseLetters$Parser", "law", "I", false)
def tyX2 : Nat → FieldType := fun k => match k with
  | 0 => .int
  | 1 => .int
  | _ => .int
theorem nmX2 : ∀ a, a < 3 → ∀ b, b < 3 → a ≠ b → (TX2 a).2.1 ≠ (TX2 b).2.1 := by decide +kernel
theorem tyX2_ok : ∀ k, k < 3 → parseFieldDescriptor (TX2 k).2.2.1 = some (tyX2 k) := by decide +kernel
abbrev cX2_init : ByteArray := prog_4_method_1_code
def yX2_init : MethodName := ⟨RX2, "<init>", "()V"⟩
abbrev cX2_parse : ByteArray := prog_4_method_2_code
def yX2_parse : MethodName := ⟨RX2, "parse", "(LGooseLetters$Tokens;LGooseLetters$Text;)V"⟩
abbrev cX2_fail : ByteArray := prog_4_method_3_code
def yX2_fail : MethodName := ⟨RX2, "fail", "(LGooseLetters$Tokens;I)V"⟩
abbrev cX2_readClause : ByteArray := prog_4_method_4_code
def yX2_readClause : MethodName := ⟨RX2, "readClause", "(LGooseLetters$Tokens;LGooseLetters$Text;)V"⟩
abbrev cX2_readDeed : ByteArray := prog_4_method_5_code
def yX2_readDeed : MethodName := ⟨RX2, "readDeed", "(LGooseLetters$Tokens;LGooseLetters$Text;I)V"⟩
abbrev cX2_expect : ByteArray := prog_4_method_6_code
def yX2_expect : MethodName := ⟨RX2, "expect", "(LGooseLetters$Tokens;I)V"⟩
abbrev cX2_readNumber : ByteArray := prog_4_method_7_code
def yX2_readNumber : MethodName := ⟨RX2, "readNumber", "(LGooseLetters$Tokens;LGooseLetters$Text;III)V"⟩
abbrev cX2_readLevel : ByteArray := prog_4_method_8_code
def yX2_readLevel : MethodName := ⟨RX2, "readLevel", "(LGooseLetters$Tokens;LGooseLetters$Text;II)V"⟩
abbrev cX2_levelOf : ByteArray := prog_4_method_9_code
def yX2_levelOf : MethodName := ⟨RX2, "levelOf", "(I)I"⟩
abbrev cX2_readAsk : ByteArray := prog_4_method_10_code
def yX2_readAsk : MethodName := ⟨RX2, "readAsk", "(LGooseLetters$Tokens;LGooseLetters$Text;I)V"⟩
abbrev cX2_readOne : ByteArray := prog_4_method_11_code
def yX2_readOne : MethodName := ⟨RX2, "readOne", "(LGooseLetters$Tokens;LGooseLetters$Text;I)V"⟩
abbrev cX2_opens : ByteArray := prog_4_method_12_code
def yX2_opens : MethodName := ⟨RX2, "opens", "(LGooseLetters$Tokens;I)Z"⟩
abbrev cX2_readValue : ByteArray := prog_4_method_13_code
def yX2_readValue : MethodName := ⟨RX2, "readValue", "(LGooseLetters$Tokens;LGooseLetters$Text;)V"⟩
abbrev cX2_readName : ByteArray := prog_4_method_14_code
def yX2_readName : MethodName := ⟨RX2, "readName", "(LGooseLetters$Tokens;LGooseLetters$Text;)V"⟩
def RX3 : String := "GooseLetters$Search"
def TX3 : u_T := fun k => match k with
  | 0 => ("GooseLetters$Search", "friends", "[I", true)
  | 1 => ("GooseLetters$Search", "reads", "[I", true)
  | 2 => ("GooseLetters$Search", "ready", "[Z", true)
  | 3 => ("GooseLetters$Search", "set", "[I", true)
  | 4 => ("GooseLetters$Search", "parts", "[I", true)
  | 5 => ("GooseLetters$Search", "markets", "[I", true)
  | 6 => ("GooseLetters$Search", "bestSet", "[I", true)
  | 7 => ("GooseLetters$Search", "bestChoice", "[I", true)
  | 8 => ("GooseLetters$Search", "size", "I", false)
  | 9 => ("GooseLetters$Search", "scale", "J", false)
  | 10 => ("GooseLetters$Search", "percent", "I", false)
  | 11 => ("GooseLetters$Search", "marketCount", "I", false)
  | 12 => ("GooseLetters$Search", "found", "Z", false)
  | 13 => ("GooseLetters$Search", "foundInSet", "Z", false)
  | 14 => ("GooseLetters$Search", "bestMiss", "J", false)
  | _ => ("GooseLetters$Search", "bestOrder", "I", false)
def tyX3 : Nat → FieldType := fun k => match k with
  | 0 => .array .int
  | 1 => .array .int
  | 2 => .array .boolean
  | 3 => .array .int
  | 4 => .array .int
  | 5 => .array .int
  | 6 => .array .int
  | 7 => .array .int
  | 8 => .int
  | 9 => .long
  | 10 => .int
  | 11 => .int
  | 12 => .boolean
  | 13 => .boolean
  | 14 => .long
  | _ => .int
theorem nmX3 : ∀ a, a < 16 → ∀ b, b < 16 → a ≠ b → (TX3 a).2.1 ≠ (TX3 b).2.1 := by decide +kernel
theorem tyX3_ok : ∀ k, k < 16 → parseFieldDescriptor (TX3 k).2.2.1 = some (tyX3 k) := by decide +kernel
abbrev cX3_init : ByteArray := prog_5_method_1_code
def yX3_init : MethodName := ⟨RX3, "<init>", "()V"⟩
abbrev cX3_fewest : ByteArray := prog_5_method_2_code
def yX3_fewest : MethodName := ⟨RX3, "fewest", "(LGooseLetters$State;LGooseLetters$Laws;II)I"⟩
abbrev cX3_choiceOf : ByteArray := prog_5_method_3_code
def yX3_choiceOf : MethodName := ⟨RX3, "choiceOf", "(I)I"⟩
abbrev cX3_cell : ByteArray := prog_5_method_4_code
def yX3_cell : MethodName := ⟨RX3, "cell", "(III)I"⟩
abbrev cX3_weighGoose : ByteArray := prog_5_method_5_code
def yX3_weighGoose : MethodName := ⟨RX3, "weighGoose", "(LGooseLetters$State;LGooseLetters$Laws;II)V"⟩
abbrev cX3_tryGeese : ByteArray := prog_5_method_6_code
def yX3_tryGeese : MethodName := ⟨RX3, "tryGeese", "(II)V"⟩
abbrev cX3_tryPatterns : ByteArray := prog_5_method_7_code
def yX3_tryPatterns : MethodName := ⟨RX3, "tryPatterns", "()V"⟩
abbrev cX3_tryMarkets : ByteArray := prog_5_method_8_code
def yX3_tryMarkets : MethodName := ⟨RX3, "tryMarkets", "(I)V"⟩
abbrev cX3_isEnough : ByteArray := prog_5_method_9_code
def yX3_isEnough : MethodName := ⟨RX3, "isEnough", "(J)Z"⟩
abbrev cX3_missOf : ByteArray := prog_5_method_10_code
def yX3_missOf : MethodName := ⟨RX3, "missOf", "([I)J"⟩
abbrev cX3_isBetter : ByteArray := prog_5_method_11_code
def yX3_isBetter : MethodName := ⟨RX3, "isBetter", "(J)Z"⟩
abbrev cX3_compare : ByteArray := prog_5_method_12_code
def yX3_compare : MethodName := ⟨RX3, "compare", "()V"⟩
abbrev cX3_keep : ByteArray := prog_5_method_13_code
def yX3_keep : MethodName := ⟨RX3, "keep", "(JI)V"⟩
def RX4 : String := "GooseLetters$State"
def TX4 : u_T := fun k => match k with
  | 0 => ("GooseLetters$State", "geese", "[I", true)
  | 1 => ("GooseLetters$State", "markets", "[I", true)
  | 2 => ("GooseLetters$State", "steps", "[I", true)
  | 3 => ("GooseLetters$State", "gooseCount", "I", false)
  | 4 => ("GooseLetters$State", "marketCount", "I", false)
  | 5 => ("GooseLetters$State", "grain", "I", false)
  | 6 => ("GooseLetters$State", "mouths", "I", false)
  | 7 => ("GooseLetters$State", "day", "I", false)
  | 8 => ("GooseLetters$State", "x", "I", false)
  | 9 => ("GooseLetters$State", "textCount", "I", false)
  | 10 => ("GooseLetters$State", "ruling", "I", false)
  | 11 => ("GooseLetters$State", "firstStep", "I", false)
  | _ => ("GooseLetters$State", "stepCount", "I", false)
def tyX4 : Nat → FieldType := fun k => match k with
  | 0 => .array .int
  | 1 => .array .int
  | 2 => .array .int
  | 3 => .int
  | 4 => .int
  | 5 => .int
  | 6 => .int
  | 7 => .int
  | 8 => .int
  | 9 => .int
  | 10 => .int
  | 11 => .int
  | _ => .int
theorem nmX4 : ∀ a, a < 13 → ∀ b, b < 13 → a ≠ b → (TX4 a).2.1 ≠ (TX4 b).2.1 := by decide +kernel
theorem tyX4_ok : ∀ k, k < 13 → parseFieldDescriptor (TX4 k).2.2.1 = some (tyX4 k) := by decide +kernel
abbrev cX4_init : ByteArray := prog_6_method_1_code
def yX4_init : MethodName := ⟨RX4, "<init>", "()V"⟩
abbrev cX4_copyFrom : ByteArray := prog_6_method_2_code
def yX4_copyFrom : MethodName := ⟨RX4, "copyFrom", "(LGooseLetters$State;)V"⟩
abbrev cX4_hasGoose : ByteArray := prog_6_method_3_code
def yX4_hasGoose : MethodName := ⟨RX4, "hasGoose", "(I)Z"⟩
abbrev cX4_hasMarket : ByteArray := prog_6_method_4_code
def yX4_hasMarket : MethodName := ⟨RX4, "hasMarket", "(I)Z"⟩
abbrev cX4_ofGoose : ByteArray := prog_6_method_5_code
def yX4_ofGoose : MethodName := ⟨RX4, "ofGoose", "(II)I"⟩
abbrev cX4_setGoose : ByteArray := prog_6_method_6_code
def yX4_setGoose : MethodName := ⟨RX4, "setGoose", "(III)V"⟩
abbrev cX4_ofMarket : ByteArray := prog_6_method_7_code
def yX4_ofMarket : MethodName := ⟨RX4, "ofMarket", "(II)I"⟩
abbrev cX4_addMarket : ByteArray := prog_6_method_8_code
def yX4_addMarket : MethodName := ⟨RX4, "addMarket", "(III)I"⟩
abbrev cX4_addGoose : ByteArray := prog_6_method_9_code
def yX4_addGoose : MethodName := ⟨RX4, "addGoose", "(II)I"⟩
abbrev cX4_isHome : ByteArray := prog_6_method_10_code
def yX4_isHome : MethodName := ⟨RX4, "isHome", "(I)Z"⟩
abbrev cX4_isFree : ByteArray := prog_6_method_11_code
def yX4_isFree : MethodName := ⟨RX4, "isFree", "(I)Z"⟩
abbrev cX4_settle : ByteArray := prog_6_method_12_code
def yX4_settle : MethodName := ⟨RX4, "settle", "(II)V"⟩
abbrev cX4_countFate : ByteArray := prog_6_method_13_code
def yX4_countFate : MethodName := ⟨RX4, "countFate", "(I)I"⟩
abbrev cX4_dailyNeed : ByteArray := prog_6_method_14_code
def yX4_dailyNeed : MethodName := ⟨RX4, "dailyNeed", "()I"⟩
abbrev cX4_eatDaily : ByteArray := prog_6_method_15_code
def yX4_eatDaily : MethodName := ⟨RX4, "eatDaily", "()V"⟩
abbrev cX4_draw : ByteArray := prog_6_method_16_code
def yX4_draw : MethodName := ⟨RX4, "draw", "()I"⟩
abbrev cX4_keepStep : ByteArray := prog_6_method_17_code
def yX4_keepStep : MethodName := ⟨RX4, "keepStep", "()V"⟩
abbrev cX4_takeStepBack : ByteArray := prog_6_method_18_code
def yX4_takeStepBack : MethodName := ⟨RX4, "takeStepBack", "()Z"⟩
def RX5 : String := "GooseLetters$Tape"
def TX5 : u_T := fun k => match k with
  | 0 => ("GooseLetters$Tape", "bytes", "[I", true)
  | _ => ("GooseLetters$Tape", "length", "I", false)
def tyX5 : Nat → FieldType := fun k => match k with
  | 0 => .array .int
  | _ => .int
theorem nmX5 : ∀ a, a < 2 → ∀ b, b < 2 → a ≠ b → (TX5 a).2.1 ≠ (TX5 b).2.1 := by decide +kernel
theorem tyX5_ok : ∀ k, k < 2 → parseFieldDescriptor (TX5 k).2.2.1 = some (tyX5 k) := by decide +kernel
abbrev cX5_init : ByteArray := prog_7_method_1_code
def yX5_init : MethodName := ⟨RX5, "<init>", "()V"⟩
abbrev cX5_addFour : ByteArray := prog_7_method_2_code
def yX5_addFour : MethodName := ⟨RX5, "addFour", "(I)V"⟩
abbrev cX5_byteAt : ByteArray := prog_7_method_3_code
def yX5_byteAt : MethodName := ⟨RX5, "byteAt", "(I)I"⟩
def RX6 : String := "GooseLetters$Text"
def TX6 : u_T := fun k => match k with
  | 0 => ("GooseLetters$Text", "clauses", "[I", true)
  | 1 => ("GooseLetters$Text", "clauseCount", "I", false)
  | 2 => ("GooseLetters$Text", "steps", "[I", true)
  | 3 => ("GooseLetters$Text", "from", "[I", true)
  | 4 => ("GooseLetters$Text", "to", "[I", true)
  | _ => ("GooseLetters$Text", "stepCount", "I", false)
def tyX6 : Nat → FieldType := fun k => match k with
  | 0 => .array .int
  | 1 => .int
  | 2 => .array .int
  | 3 => .array .int
  | 4 => .array .int
  | _ => .int
theorem nmX6 : ∀ a, a < 6 → ∀ b, b < 6 → a ≠ b → (TX6 a).2.1 ≠ (TX6 b).2.1 := by decide +kernel
theorem tyX6_ok : ∀ k, k < 6 → parseFieldDescriptor (TX6 k).2.2.1 = some (tyX6 k) := by decide +kernel
abbrev cX6_init : ByteArray := prog_8_method_1_code
def yX6_init : MethodName := ⟨RX6, "<init>", "()V"⟩
abbrev cX6_clear : ByteArray := prog_8_method_2_code
def yX6_clear : MethodName := ⟨RX6, "clear", "()V"⟩
abbrev cX6_hasLaw : ByteArray := prog_8_method_3_code
def yX6_hasLaw : MethodName := ⟨RX6, "hasLaw", "(I)Z"⟩
abbrev cX6_beginLaw : ByteArray := prog_8_method_4_code
def yX6_beginLaw : MethodName := ⟨RX6, "beginLaw", "(I)V"⟩
abbrev cX6_closeLaw : ByteArray := prog_8_method_5_code
def yX6_closeLaw : MethodName := ⟨RX6, "closeLaw", "(I)V"⟩
abbrev cX6_firstStep : ByteArray := prog_8_method_6_code
def yX6_firstStep : MethodName := ⟨RX6, "firstStep", "(I)I"⟩
abbrev cX6_stepsEnd : ByteArray := prog_8_method_7_code
def yX6_stepsEnd : MethodName := ⟨RX6, "stepsEnd", "(I)I"⟩
abbrev cX6_addStep : ByteArray := prog_8_method_8_code
def yX6_addStep : MethodName := ⟨RX6, "addStep", "(I)V"⟩
abbrev cX6_stepAt : ByteArray := prog_8_method_9_code
def yX6_stepAt : MethodName := ⟨RX6, "stepAt", "(I)I"⟩
abbrev cX6_clauseField : ByteArray := prog_8_method_10_code
def yX6_clauseField : MethodName := ⟨RX6, "clauseField", "(II)I"⟩
abbrev cX6_setClause : ByteArray := prog_8_method_11_code
def yX6_setClause : MethodName := ⟨RX6, "setClause", "(III)V"⟩
def RX7 : String := "GooseLetters$Tokens"
def TX7 : u_T := fun k => match k with
  | 0 => ("GooseLetters$Tokens", "kinds", "[I", true)
  | 1 => ("GooseLetters$Tokens", "starts", "[I", true)
  | 2 => ("GooseLetters$Tokens", "values", "[I", true)
  | 3 => ("GooseLetters$Tokens", "count", "I", false)
  | _ => ("GooseLetters$Tokens", "at", "I", false)
def tyX7 : Nat → FieldType := fun k => match k with
  | 0 => .array .int
  | 1 => .array .int
  | 2 => .array .int
  | 3 => .int
  | _ => .int
theorem nmX7 : ∀ a, a < 5 → ∀ b, b < 5 → a ≠ b → (TX7 a).2.1 ≠ (TX7 b).2.1 := by decide +kernel
theorem tyX7_ok : ∀ k, k < 5 → parseFieldDescriptor (TX7 k).2.2.1 = some (tyX7 k) := by decide +kernel
abbrev cX7_init : ByteArray := prog_9_method_1_code
def yX7_init : MethodName := ⟨RX7, "<init>", "()V"⟩
abbrev cX7_split : ByteArray := prog_9_method_2_code
def yX7_split : MethodName := ⟨RX7, "split", "(LGooseLetters$Tape;)V"⟩
abbrev cX7_kind : ByteArray := prog_9_method_3_code
def yX7_kind : MethodName := ⟨RX7, "kind", "()I"⟩
abbrev cX7_start : ByteArray := prog_9_method_4_code
def yX7_start : MethodName := ⟨RX7, "start", "()I"⟩
abbrev cX7_value : ByteArray := prog_9_method_5_code
def yX7_value : MethodName := ⟨RX7, "value", "()I"⟩
abbrev cX7_advance : ByteArray := prog_9_method_6_code
def yX7_advance : MethodName := ⟨RX7, "advance", "()V"⟩
abbrev cX7_add : ByteArray := prog_9_method_7_code
def yX7_add : MethodName := ⟨RX7, "add", "(III)V"⟩
abbrev cX7_splitWord : ByteArray := prog_9_method_8_code
def yX7_splitWord : MethodName := ⟨RX7, "splitWord", "(LGooseLetters$Tape;I)I"⟩
abbrev cX7_wordKind : ByteArray := prog_9_method_9_code
def yX7_wordKind : MethodName := ⟨RX7, "wordKind", "(LGooseLetters$Tape;II)I"⟩
abbrev cX7_splitNumber : ByteArray := prog_9_method_10_code
def yX7_splitNumber : MethodName := ⟨RX7, "splitNumber", "(LGooseLetters$Tape;I)I"⟩
abbrev cX7_splitSign : ByteArray := prog_9_method_11_code
def yX7_splitSign : MethodName := ⟨RX7, "splitSign", "(LGooseLetters$Tape;I)I"⟩
abbrev cX7_signKind : ByteArray := prog_9_method_12_code
def yX7_signKind : MethodName := ⟨RX7, "signKind", "(I)I"⟩
abbrev cX7_isBlank : ByteArray := prog_9_method_13_code
def yX7_isBlank : MethodName := ⟨RX7, "isBlank", "(I)Z"⟩
abbrev cX7_isAlpha : ByteArray := prog_9_method_14_code
def yX7_isAlpha : MethodName := ⟨RX7, "isAlpha", "(I)Z"⟩
abbrev cX7_isNumeral : ByteArray := prog_9_method_15_code
def yX7_isNumeral : MethodName := ⟨RX7, "isNumeral", "(I)Z"⟩
def RX8 : String := "GooseLetters"
def TX8 : u_T := fun k => match k with
  | 0 => ("GooseLetters", "now", "LGooseLetters$State;", true)
  | 1 => ("GooseLetters", "kept", "LGooseLetters$State;", true)
  | 2 => ("GooseLetters", "tape", "LGooseLetters$Tape;", true)
  | 3 => ("GooseLetters", "tokens", "LGooseLetters$Tokens;", true)
  | 4 => ("GooseLetters", "parser", "LGooseLetters$Parser;", true)
  | 5 => ("GooseLetters", "laws", "LGooseLetters$Laws;", true)
  | 6 => ("GooseLetters", "chances", "LGooseLetters$Chances;", true)
  | _ => ("GooseLetters", "search", "LGooseLetters$Search;", true)
def tyX8 : Nat → FieldType := fun k => match k with
  | 0 => .object "GooseLetters$State"
  | 1 => .object "GooseLetters$State"
  | 2 => .object "GooseLetters$Tape"
  | 3 => .object "GooseLetters$Tokens"
  | 4 => .object "GooseLetters$Parser"
  | 5 => .object "GooseLetters$Laws"
  | 6 => .object "GooseLetters$Chances"
  | _ => .object "GooseLetters$Search"
theorem nmX8 : ∀ a, a < 8 → ∀ b, b < 8 → a ≠ b → (TX8 a).2.1 ≠ (TX8 b).2.1 := by decide +kernel
theorem tyX8_ok : ∀ k, k < 8 → parseFieldDescriptor (TX8 k).2.2.1 = some (tyX8 k) := by decide +kernel
abbrev cX8_init : ByteArray := prog_1_method_1_code
def yX8_init : MethodName := ⟨RX8, "<init>", "()V"⟩
abbrev cX8_market : ByteArray := prog_1_method_2_code
def yX8_market : MethodName := ⟨RX8, "market", "(III)I"⟩
abbrev cX8_goose : ByteArray := prog_1_method_3_code
def yX8_goose : MethodName := ⟨RX8, "goose", "(II)I"⟩
abbrev cX8_store : ByteArray := prog_1_method_4_code
def yX8_store : MethodName := ⟨RX8, "store", "(II)Z"⟩
abbrev cX8_seed : ByteArray := prog_1_method_5_code
def yX8_seed : MethodName := ⟨RX8, "seed", "(I)Z"⟩
abbrev cX8_fill : ByteArray := prog_1_method_6_code
def yX8_fill : MethodName := ⟨RX8, "fill", "(III)I"⟩
abbrev cX8_send : ByteArray := prog_1_method_7_code
def yX8_send : MethodName := ⟨RX8, "send", "(II)I"⟩
abbrev cX8_fatten : ByteArray := prog_1_method_8_code
def yX8_fatten : MethodName := ⟨RX8, "fatten", "(I)I"⟩
abbrev cX8_pluck : ByteArray := prog_1_method_9_code
def yX8_pluck : MethodName := ⟨RX8, "pluck", "(I)I"⟩
abbrev cX8_name : ByteArray := prog_1_method_10_code
def yX8_name : MethodName := ⟨RX8, "name", "(I)Z"⟩
abbrev cX8_pass : ByteArray := prog_1_method_11_code
def yX8_pass : MethodName := ⟨RX8, "pass", "(I)I"⟩
abbrev cX8_feed : ByteArray := prog_1_method_12_code
def yX8_feed : MethodName := ⟨RX8, "feed", "(IIIII)I"⟩
abbrev cX8_end : ByteArray := prog_1_method_13_code
def yX8_end : MethodName := ⟨RX8, "end", "(I)I"⟩
abbrev cX8_text : ByteArray := prog_1_method_14_code
def yX8_text : MethodName := ⟨RX8, "text", "()I"⟩
abbrev cX8_fault : ByteArray := prog_1_method_15_code
def yX8_fault : MethodName := ⟨RX8, "fault", "(I)I"⟩
abbrev cX8_by : ByteArray := prog_1_method_16_code
def yX8_by : MethodName := ⟨RX8, "by", "(I)Z"⟩
abbrev cX8_played : ByteArray := prog_1_method_17_code
def yX8_played : MethodName := ⟨RX8, "played", "(I)I"⟩
abbrev cX8_undo : ByteArray := prog_1_method_18_code
def yX8_undo : MethodName := ⟨RX8, "undo", "()I"⟩
abbrev cX8_of : ByteArray := prog_1_method_19_code
def yX8_of : MethodName := ⟨RX8, "of", "(II)I"⟩
abbrev cX8_ink : ByteArray := prog_1_method_20_code
def yX8_ink : MethodName := ⟨RX8, "ink", "(III)I"⟩
abbrev cX8_known : ByteArray := prog_1_method_21_code
def yX8_known : MethodName := ⟨RX8, "known", "(II)I"⟩
abbrev cX8_led : ByteArray := prog_1_method_22_code
def yX8_led : MethodName := ⟨RX8, "led", "(IZ)I"⟩
abbrev cX8_answer : ByteArray := prog_1_method_23_code
def yX8_answer : MethodName := ⟨RX8, "answer", "(I)I"⟩
abbrev cX8_plucks : ByteArray := prog_1_method_24_code
def yX8_plucks : MethodName := ⟨RX8, "plucks", "(I)I"⟩
abbrev cX8_odds : ByteArray := prog_1_method_25_code
def yX8_odds : MethodName := ⟨RX8, "odds", "(IIZ)J"⟩
abbrev cX8_plan : ByteArray := prog_1_method_26_code
def yX8_plan : MethodName := ⟨RX8, "plan", "(III)I"⟩
abbrev cX8_holds : ByteArray := prog_1_method_27_code
def yX8_holds : MethodName := ⟨RX8, "holds", "()I"⟩
abbrev cX8_image : ByteArray := prog_1_method_28_code
def yX8_image : MethodName := ⟨RX8, "image", "()I"⟩
abbrev cX8_back : ByteArray := prog_1_method_29_code
def yX8_back : MethodName := ⟨RX8, "back", "()I"⟩
abbrev cX8_about : ByteArray := prog_1_method_30_code
def yX8_about : MethodName := ⟨RX8, "about", "(I)I"⟩
abbrev cX8_aboutMany : ByteArray := prog_1_method_31_code
def yX8_aboutMany : MethodName := ⟨RX8, "aboutMany", "(I)I"⟩
abbrev cX8_isDigit : ByteArray := prog_1_method_32_code
def yX8_isDigit : MethodName := ⟨RX8, "isDigit", "(I)Z"⟩
abbrev cX8_isLetter : ByteArray := prog_1_method_33_code
def yX8_isLetter : MethodName := ⟨RX8, "isLetter", "(I)Z"⟩
abbrev cX8_isQuill : ByteArray := prog_1_method_34_code
def yX8_isQuill : MethodName := ⟨RX8, "isQuill", "(II)Z"⟩
abbrev cX8_halvesOf : ByteArray := prog_1_method_35_code
def yX8_halvesOf : MethodName := ⟨RX8, "halvesOf", "(I)I"⟩
abbrev cX8_commonDivisor : ByteArray := prog_1_method_36_code
def yX8_commonDivisor : MethodName := ⟨RX8, "commonDivisor", "(JJ)J"⟩
abbrev cX8_passOneDay : ByteArray := prog_1_method_37_code
def yX8_passOneDay : MethodName := ⟨RX8, "passOneDay", "()V"⟩
abbrev cX8_fateAtMarket : ByteArray := prog_1_method_38_code
def yX8_fateAtMarket : MethodName := ⟨RX8, "fateAtMarket", "(I)I"⟩
abbrev cX8_tells : ByteArray := prog_1_method_39_code
def yX8_tells : MethodName := ⟨RX8, "tells", "(IIZ)Z"⟩
abbrev cX8_halvesHad : ByteArray := prog_1_method_40_code
def yX8_halvesHad : MethodName := ⟨RX8, "halvesHad", "(IZII)I"⟩
def RX9 : String := "GooseLettersModel"
def TX9 : u_T := fun k => match k with
  | 0 => ("GooseLettersModel", "a", "[I", true)
  | 1 => ("GooseLettersModel", "image", "[I", true)
  | 2 => ("GooseLettersModel", "tape", "[B", true)
  | 3 => ("GooseLettersModel", "taped", "I", false)
  | 4 => ("GooseLettersModel", "fault", "I", false)
  | 5 => ("GooseLettersModel", "faultAt", "I", false)
  | 6 => ("GooseLettersModel", "clauses", "[I", true)
  | 7 => ("GooseLettersModel", "clauseWord", "[I", true)
  | 8 => ("GooseLettersModel", "clauseAt", "[I", true)
  | 9 => ("GooseLettersModel", "clauseOne", "[I", true)
  | 10 => ("GooseLettersModel", "clauseTwo", "[I", true)
  | 11 => ("GooseLettersModel", "clauseThree", "[I", true)
  | 12 => ("GooseLettersModel", "order", "[I", true)
  | 13 => ("GooseLettersModel", "value", "[I", true)
  | 14 => ("GooseLettersModel", "length", "I", false)
  | 15 => ("GooseLettersModel", "at", "I", false)
  | 16 => ("GooseLettersModel", "token", "I", false)
  | 17 => ("GooseLettersModel", "sort", "I", false)
  | 18 => ("GooseLettersModel", "told", "I", false)
  | 19 => ("GooseLettersModel", "wrong", "I", false)
  | 20 => ("GooseLettersModel", "wrongAt", "I", false)
  | 21 => ("GooseLettersModel", "open", "I", false)
  | 22 => ("GooseLettersModel", "frames", "I", false)
  | 23 => ("GooseLettersModel", "frame", "[I", true)
  | 24 => ("GooseLettersModel", "compare", "[I", true)
  | 25 => ("GooseLettersModel", "waits", "I", false)
  | 26 => ("GooseLettersModel", "wait", "[I", true)
  | 27 => ("GooseLettersModel", "waitFrame", "[I", true)
  | 28 => ("GooseLettersModel", "state", "I", false)
  | 29 => ("GooseLettersModel", "newClauses", "I", false)
  | 30 => ("GooseLettersModel", "newKind", "I", false)
  | 31 => ("GooseLettersModel", "newWord", "[I", true)
  | 32 => ("GooseLettersModel", "newAt", "[I", true)
  | 33 => ("GooseLettersModel", "newOne", "[I", true)
  | 34 => ("GooseLettersModel", "newTwo", "[I", true)
  | 35 => ("GooseLettersModel", "newThree", "[I", true)
  | 36 => ("GooseLettersModel", "newOrders", "I", false)
  | 37 => ("GooseLettersModel", "newOrder", "[I", true)
  | 38 => ("GooseLettersModel", "newValue", "[I", true)
  | 39 => ("GooseLettersModel", "name", "[I", true)
  | 40 => ("GooseLettersModel", "pile", "[J", true)
  | 41 => ("GooseLettersModel", "many", "[J", true)
  | 42 => ("GooseLettersModel", "then", "[J", true)
  | 43 => ("GooseLettersModel", "eats", "[I", true)
  | 44 => ("GooseLettersModel", "reads", "[I", true)
  | 45 => ("GooseLettersModel", "trues", "[Z", true)
  | 46 => ("GooseLettersModel", "flock", "[I", true)
  | 47 => ("GooseLettersModel", "flocks", "I", false)
  | 48 => ("GooseLettersModel", "chosen", "[I", true)
  | 49 => ("GooseLettersModel", "does", "[I", true)
  | 50 => ("GooseLettersModel", "bestChosen", "[I", true)
  | 51 => ("GooseLettersModel", "bestDoes", "[I", true)
  | _ => ("GooseLettersModel", "bestEnemy", "J", false)
def tyX9 : Nat → FieldType := fun k => match k with
  | 0 => .array .int
  | 1 => .array .int
  | 2 => .array .byte
  | 3 => .int
  | 4 => .int
  | 5 => .int
  | 6 => .array .int
  | 7 => .array .int
  | 8 => .array .int
  | 9 => .array .int
  | 10 => .array .int
  | 11 => .array .int
  | 12 => .array .int
  | 13 => .array .int
  | 14 => .int
  | 15 => .int
  | 16 => .int
  | 17 => .int
  | 18 => .int
  | 19 => .int
  | 20 => .int
  | 21 => .int
  | 22 => .int
  | 23 => .array .int
  | 24 => .array .int
  | 25 => .int
  | 26 => .array .int
  | 27 => .array .int
  | 28 => .int
  | 29 => .int
  | 30 => .int
  | 31 => .array .int
  | 32 => .array .int
  | 33 => .array .int
  | 34 => .array .int
  | 35 => .array .int
  | 36 => .int
  | 37 => .array .int
  | 38 => .array .int
  | 39 => .array .int
  | 40 => .array .long
  | 41 => .array .long
  | 42 => .array .long
  | 43 => .array .int
  | 44 => .array .int
  | 45 => .array .boolean
  | 46 => .array .int
  | 47 => .int
  | 48 => .array .int
  | 49 => .array .int
  | 50 => .array .int
  | 51 => .array .int
  | _ => .long
theorem nmX9 : ∀ a, a < 53 → ∀ b, b < 53 → a ≠ b → (TX9 a).2.1 ≠ (TX9 b).2.1 := by decide +kernel
theorem tyX9_ok : ∀ k, k < 53 → parseFieldDescriptor (TX9 k).2.2.1 = some (tyX9 k) := by decide +kernel
abbrev cX9_init : ByteArray := prog_11_method_1_code
def yX9_init : MethodName := ⟨RX9, "<init>", "()V"⟩
abbrev cX9_in : ByteArray := prog_11_method_2_code
def yX9_in : MethodName := ⟨RX9, "in", "(III)Z"⟩
abbrev cX9_copies : ByteArray := prog_11_method_3_code
def yX9_copies : MethodName := ⟨RX9, "copies", "(Z)V"⟩
abbrev cX9_isMarket : ByteArray := prog_11_method_4_code
def yX9_isMarket : MethodName := ⟨RX9, "isMarket", "(I)Z"⟩
abbrev cX9_isGoose : ByteArray := prog_11_method_5_code
def yX9_isGoose : MethodName := ⟨RX9, "isGoose", "(I)Z"⟩
abbrev cX9_ofGoose : ByteArray := prog_11_method_6_code
def yX9_ofGoose : MethodName := ⟨RX9, "ofGoose", "(II)I"⟩
abbrev cX9_puts : ByteArray := prog_11_method_7_code
def yX9_puts : MethodName := ⟨RX9, "puts", "(III)V"⟩
abbrev cX9_market : ByteArray := prog_11_method_8_code
def yX9_market : MethodName := ⟨RX9, "market", "(III)I"⟩
abbrev cX9_tellsGoose : ByteArray := prog_11_method_9_code
def yX9_tellsGoose : MethodName := ⟨RX9, "tellsGoose", "(IIII)V"⟩
abbrev cX9_goose : ByteArray := prog_11_method_10_code
def yX9_goose : MethodName := ⟨RX9, "goose", "(II)I"⟩
abbrev cX9_store : ByteArray := prog_11_method_11_code
def yX9_store : MethodName := ⟨RX9, "store", "(II)Z"⟩
abbrev cX9_seed : ByteArray := prog_11_method_12_code
def yX9_seed : MethodName := ⟨RX9, "seed", "(I)Z"⟩
abbrev cX9_keepsStep : ByteArray := prog_11_method_13_code
def yX9_keepsStep : MethodName := ⟨RX9, "keepsStep", "()V"⟩
abbrev cX9_undo : ByteArray := prog_11_method_14_code
def yX9_undo : MethodName := ⟨RX9, "undo", "()I"⟩
abbrev cX9_isHome : ByteArray := prog_11_method_15_code
def yX9_isHome : MethodName := ⟨RX9, "isHome", "(I)Z"⟩
abbrev cX9_isQuill : ByteArray := prog_11_method_16_code
def yX9_isQuill : MethodName := ⟨RX9, "isQuill", "(II)Z"⟩
abbrev cX9_fill : ByteArray := prog_11_method_17_code
def yX9_fill : MethodName := ⟨RX9, "fill", "(III)I"⟩
abbrev cX9_send : ByteArray := prog_11_method_18_code
def yX9_send : MethodName := ⟨RX9, "send", "(II)I"⟩
abbrev cX9_fatten : ByteArray := prog_11_method_19_code
def yX9_fatten : MethodName := ⟨RX9, "fatten", "(I)I"⟩
abbrev cX9_pluck : ByteArray := prog_11_method_20_code
def yX9_pluck : MethodName := ⟨RX9, "pluck", "(I)I"⟩
abbrev cX9_name : ByteArray := prog_11_method_21_code
def yX9_name : MethodName := ⟨RX9, "name", "(I)Z"⟩
abbrev cX9_put : ByteArray := prog_11_method_22_code
def yX9_put : MethodName := ⟨RX9, "put", "(I)V"⟩
abbrev cX9_feed : ByteArray := prog_11_method_23_code
def yX9_feed : MethodName := ⟨RX9, "feed", "(IIIII)I"⟩
abbrev cX9_end : ByteArray := prog_11_method_24_code
def yX9_end : MethodName := ⟨RX9, "end", "(I)I"⟩
abbrev cX9_isLetter : ByteArray := prog_11_method_25_code
def yX9_isLetter : MethodName := ⟨RX9, "isLetter", "(I)Z"⟩
abbrev cX9_wordOf : ByteArray := prog_11_method_26_code
def yX9_wordOf : MethodName := ⟨RX9, "wordOf", "(J)I"⟩
abbrev cX9_next : ByteArray := prog_11_method_27_code
def yX9_next : MethodName := ⟨RX9, "next", "()V"⟩
abbrev cX9_isSign : ByteArray := prog_11_method_28_code
def yX9_isSign : MethodName := ⟨RX9, "isSign", "(I)Z"⟩
abbrev cX9_isWord : ByteArray := prog_11_method_29_code
def yX9_isWord : MethodName := ⟨RX9, "isWord", "(I)Z"⟩
abbrev cX9_errs : ByteArray := prog_11_method_30_code
def yX9_errs : MethodName := ⟨RX9, "errs", "(I)V"⟩
abbrev cX9_emits : ByteArray := prog_11_method_31_code
def yX9_emits : MethodName := ⟨RX9, "emits", "(II)V"⟩
abbrev cX9_opensFrame : ByteArray := prog_11_method_32_code
def yX9_opensFrame : MethodName := ⟨RX9, "opensFrame", "(I)V"⟩
abbrev cX9_top : ByteArray := prog_11_method_33_code
def yX9_top : MethodName := ⟨RX9, "top", "()I"⟩
abbrev cX9_opensSign : ByteArray := prog_11_method_34_code
def yX9_opensSign : MethodName := ⟨RX9, "opensSign", "(I)Z"⟩
abbrev cX9_rank : ByteArray := prog_11_method_35_code
def yX9_rank : MethodName := ⟨RX9, "rank", "(I)I"⟩
abbrev cX9_works : ByteArray := prog_11_method_36_code
def yX9_works : MethodName := ⟨RX9, "works", "(I)V"⟩
abbrev cX9_waitsFor : ByteArray := prog_11_method_37_code
def yX9_waitsFor : MethodName := ⟨RX9, "waitsFor", "(I)V"⟩
abbrev cX9_asks : ByteArray := prog_11_method_38_code
def yX9_asks : MethodName := ⟨RX9, "asks", "()V"⟩
abbrev cX9_begins : ByteArray := prog_11_method_39_code
def yX9_begins : MethodName := ⟨RX9, "begins", "()V"⟩
abbrev cX9_oneIsOver : ByteArray := prog_11_method_40_code
def yX9_oneIsOver : MethodName := ⟨RX9, "oneIsOver", "()V"⟩
abbrev cX9_askIsOver : ByteArray := prog_11_method_41_code
def yX9_askIsOver : MethodName := ⟨RX9, "askIsOver", "()V"⟩
abbrev cX9_isAsking : ByteArray := prog_11_method_42_code
def yX9_isAsking : MethodName := ⟨RX9, "isAsking", "(I)Z"⟩
abbrev cX9_goesOn : ByteArray := prog_11_method_43_code
def yX9_goesOn : MethodName := ⟨RX9, "goesOn", "()V"⟩
abbrev cX9_asksOn : ByteArray := prog_11_method_44_code
def yX9_asksOn : MethodName := ⟨RX9, "asksOn", "()V"⟩
abbrev cX9_clauseIsOver : ByteArray := prog_11_method_45_code
def yX9_clauseIsOver : MethodName := ⟨RX9, "clauseIsOver", "()V"⟩
abbrev cX9_number : ByteArray := prog_11_method_46_code
def yX9_number : MethodName := ⟨RX9, "number", "(II)I"⟩
abbrev cX9_wasTold : ByteArray := prog_11_method_47_code
def yX9_wasTold : MethodName := ⟨RX9, "wasTold", "(I)Z"⟩
abbrev cX9_wants : ByteArray := prog_11_method_48_code
def yX9_wants : MethodName := ⟨RX9, "wants", "(I)V"⟩
abbrev cX9_clause : ByteArray := prog_11_method_49_code
def yX9_clause : MethodName := ⟨RX9, "clause", "()V"⟩
abbrev cX9_text : ByteArray := prog_11_method_50_code
def yX9_text : MethodName := ⟨RX9, "text", "()I"⟩
abbrev cX9_fault : ByteArray := prog_11_method_51_code
def yX9_fault : MethodName := ⟨RX9, "fault", "(I)I"⟩
abbrev cX9_bound : ByteArray := prog_11_method_52_code
def yX9_bound : MethodName := ⟨RX9, "bound", "(J)J"⟩
abbrev cX9_worked : ByteArray := prog_11_method_53_code
def yX9_worked : MethodName := ⟨RX9, "worked", "(IJJ)J"⟩
abbrev cX9_saysOf : ByteArray := prog_11_method_54_code
def yX9_saysOf : MethodName := ⟨RX9, "saysOf", "(I)J"⟩
abbrev cX9_by : ByteArray := prog_11_method_55_code
def yX9_by : MethodName := ⟨RX9, "by", "(I)Z"⟩
abbrev cX9_ordersOf : ByteArray := prog_11_method_56_code
def yX9_ordersOf : MethodName := ⟨RX9, "ordersOf", "(I)I"⟩
abbrev cX9_names : ByteArray := prog_11_method_57_code
def yX9_names : MethodName := ⟨RX9, "names", "(IIII)V"⟩
abbrev cX9_held : ByteArray := prog_11_method_58_code
def yX9_held : MethodName := ⟨RX9, "held", "(JII)I"⟩
abbrev cX9_inkOf : ByteArray := prog_11_method_59_code
def yX9_inkOf : MethodName := ⟨RX9, "inkOf", "(III)I"⟩
abbrev cX9_ink : ByteArray := prog_11_method_60_code
def yX9_ink : MethodName := ⟨RX9, "ink", "(III)I"⟩
abbrev cX9_marketTells : ByteArray := prog_11_method_61_code
def yX9_marketTells : MethodName := ⟨RX9, "marketTells", "(IIIIII)I"⟩
abbrev cX9_marketOf : ByteArray := prog_11_method_62_code
def yX9_marketOf : MethodName := ⟨RX9, "marketOf", "(II)I"⟩
abbrev cX9_isTrueBy : ByteArray := prog_11_method_63_code
def yX9_isTrueBy : MethodName := ⟨RX9, "isTrueBy", "(IIII)Z"⟩
abbrev cX9_isTrue : ByteArray := prog_11_method_64_code
def yX9_isTrue : MethodName := ⟨RX9, "isTrue", "(I)Z"⟩
abbrev cX9_draw : ByteArray := prog_11_method_65_code
def yX9_draw : MethodName := ⟨RX9, "draw", "()I"⟩
abbrev cX9_geeseOf : ByteArray := prog_11_method_66_code
def yX9_geeseOf : MethodName := ⟨RX9, "geeseOf", "(I)I"⟩
abbrev cX9_comesThere : ByteArray := prog_11_method_67_code
def yX9_comesThere : MethodName := ⟨RX9, "comesThere", "(I)V"⟩
abbrev cX9_hungers : ByteArray := prog_11_method_68_code
def yX9_hungers : MethodName := ⟨RX9, "hungers", "()V"⟩
abbrev cX9_pass : ByteArray := prog_11_method_69_code
def yX9_pass : MethodName := ⟨RX9, "pass", "(I)I"⟩
abbrev cX9_played : ByteArray := prog_11_method_70_code
def yX9_played : MethodName := ⟨RX9, "played", "(I)I"⟩
abbrev cX9_of : ByteArray := prog_11_method_71_code
def yX9_of : MethodName := ⟨RX9, "of", "(II)I"⟩
abbrev cX9_halves : ByteArray := prog_11_method_72_code
def yX9_halves : MethodName := ⟨RX9, "halves", "(I)I"⟩
abbrev cX9_brought : ByteArray := prog_11_method_73_code
def yX9_brought : MethodName := ⟨RX9, "brought", "(IIIZ)I"⟩
abbrev cX9_knownBy : ByteArray := prog_11_method_74_code
def yX9_knownBy : MethodName := ⟨RX9, "knownBy", "(IIZ)I"⟩
abbrev cX9_isLetterNumber : ByteArray := prog_11_method_75_code
def yX9_isLetterNumber : MethodName := ⟨RX9, "isLetterNumber", "(I)Z"⟩
abbrev cX9_known : ByteArray := prog_11_method_76_code
def yX9_known : MethodName := ⟨RX9, "known", "(II)I"⟩
abbrev cX9_led : ByteArray := prog_11_method_77_code
def yX9_led : MethodName := ⟨RX9, "led", "(IZ)I"⟩
abbrev cX9_answer : ByteArray := prog_11_method_78_code
def yX9_answer : MethodName := ⟨RX9, "answer", "(I)I"⟩
abbrev cX9_plucks : ByteArray := prog_11_method_79_code
def yX9_plucks : MethodName := ⟨RX9, "plucks", "(I)I"⟩
abbrev cX9_startsMany : ByteArray := prog_11_method_80_code
def yX9_startsMany : MethodName := ⟨RX9, "startsMany", "(II)V"⟩
abbrev cX9_comesMany : ByteArray := prog_11_method_81_code
def yX9_comesMany : MethodName := ⟨RX9, "comesMany", "(IIIZ)V"⟩
abbrev cX9_manyOf : ByteArray := prog_11_method_82_code
def yX9_manyOf : MethodName := ⟨RX9, "manyOf", "(I)J"⟩
abbrev cX9_odds : ByteArray := prog_11_method_83_code
def yX9_odds : MethodName := ⟨RX9, "odds", "(IIZ)J"⟩
abbrev cX9_laysFlock : ByteArray := prog_11_method_84_code
def yX9_laysFlock : MethodName := ⟨RX9, "laysFlock", "(I)V"⟩
abbrev cX9_asksPlan : ByteArray := prog_11_method_85_code
def yX9_asksPlan : MethodName := ⟨RX9, "asksPlan", "(II)V"⟩
abbrev cX9_triesDoings : ByteArray := prog_11_method_86_code
def yX9_triesDoings : MethodName := ⟨RX9, "triesDoings", "(II)V"⟩
abbrev cX9_plansOf : ByteArray := prog_11_method_87_code
def yX9_plansOf : MethodName := ⟨RX9, "plansOf", "(II)Z"⟩
abbrev cX9_plan : ByteArray := prog_11_method_88_code
def yX9_plan : MethodName := ⟨RX9, "plan", "(III)I"⟩
abbrev cX9_holds : ByteArray := prog_11_method_89_code
def yX9_holds : MethodName := ⟨RX9, "holds", "()I"⟩
abbrev cX9_image : ByteArray := prog_11_method_90_code
def yX9_image : MethodName := ⟨RX9, "image", "()I"⟩
abbrev cX9_back : ByteArray := prog_11_method_91_code
def yX9_back : MethodName := ⟨RX9, "back", "()I"⟩
abbrev cX9_about : ByteArray := prog_11_method_92_code
def yX9_about : MethodName := ⟨RX9, "about", "(I)I"⟩
def RJ9 : String := "java/lang/Math"
abbrev cJ9_max_7cf53 : ByteArray := prog_12_method_65_code
def yJ9_max_7cf53 : MethodName := ⟨RJ9, "max", "(II)I"⟩
abbrev cJ9_min_7cf53 : ByteArray := prog_12_method_69_code
def yJ9_min_7cf53 : MethodName := ⟨RJ9, "min", "(II)I"⟩
def RJ0 : String := "java/lang/String"
abbrev cJ0_length_8abf5 : ByteArray := prog_13_method_54_code
def yJ0_length_8abf5 : MethodName := ⟨RJ0, "length", "()I"⟩
abbrev cJ0_charAt_5068e : ByteArray := prog_13_method_56_code
def yJ0_charAt_5068e : MethodName := ⟨RJ0, "charAt", "(I)C"⟩
abbrev cJ0_coder_7d493 : ByteArray := prog_13_method_152_code
def yJ0_coder_7d493 : MethodName := ⟨RJ0, "coder", "()B"⟩
abbrev cJ0_isLatin1_aae02 : ByteArray := prog_13_method_154_code
def yJ0_isLatin1_aae02 : MethodName := ⟨RJ0, "isLatin1", "()Z"⟩
abbrev cJ0_checkIndex_df160 : ByteArray := prog_13_method_155_code
def yJ0_checkIndex_df160 : MethodName := ⟨RJ0, "checkIndex", "(II)V"⟩
def RJ1 : String := "java/lang/StringLatin1"
abbrev cJ1_charAt_3b067 : ByteArray := prog_14_method_2_code
def yJ1_charAt_3b067 : MethodName := ⟨RJ1, "charAt", "([BI)C"⟩
def RJ2 : String := "java/lang/StringUTF16"
abbrev cJ2_getChar_3b067 : ByteArray := prog_15_method_5_code
def yJ2_getChar_3b067 : MethodName := ⟨RJ2, "getChar", "([BI)C"⟩
abbrev cJ2_length_9d52b : ByteArray := prog_15_method_6_code
def yJ2_length_9d52b : MethodName := ⟨RJ2, "length", "([B)I"⟩
abbrev cJ2_charAt_3b067 : ByteArray := prog_15_method_83_code
def yJ2_charAt_3b067 : MethodName := ⟨RJ2, "charAt", "([BI)C"⟩
abbrev cJ2_checkIndex_2214a : ByteArray := prog_15_method_91_code
def yJ2_checkIndex_2214a : MethodName := ⟨RJ2, "checkIndex", "(I[B)V"⟩
def RJ10 : String := "java/lang/System"
def RJ3 : String := "jdk/internal/util/Preconditions"
abbrev cJ3_checkIndex_8e157 : ByteArray := prog_17_method_11_code
def yJ3_checkIndex_8e157 : MethodName := ⟨RJ3, "checkIndex", "(IILjava/util/function/BiFunction;)I"⟩
def RL : String := "GooseLettersLaw"
abbrev cL_law : ByteArray := code
def yL_law : MethodName := ⟨RL, "law", "([I)Z"⟩
abbrev vwCl : List vw_C := [(RX0, TX0, 4), (RX1, TX1, 4), (RX2, TX2, 3), (RX3, TX3, 16), (RX4, TX4, 13), (RX5, TX5, 2), (RX6, TX6, 6), (RX7, TX7, 5), (RX8, TX8, 8), (RX9, TX9, 53)]
/-! what stands outside the cells: statics, the text constant, a nest mate's link; none of them in A -/
def gPat : Nat → Int32 := fun j => ([0, 12, 21, 102, 120, 201, 210, 112, 121, 211, 122, 212, 221] : List Int32).getD j 0
def gCnt : Nat → Int32 := fun j => ([0, 1, 3, 13] : List Int32).getD j 0
def gWb : List Int32 := [98, 117, 116, 99, 104, 101, 114, 32, 114, 101, 97, 100, 101, 114, 32, 105, 110, 107, 32, 99, 111, 100, 101, 32, 102, 105, 108, 108, 32, 115, 101, 110, 100, 32, 102, 97, 116, 116, 101, 110, 32, 112, 97, 115, 115, 32, 119, 105, 116, 104, 32, 116, 111, 32, 111, 114, 32, 97, 110, 100, 32, 110, 111, 116, 32, 103, 111, 111, 115, 101, 32, 119, 101, 105, 103, 104, 116, 32, 102, 101, 97, 116, 104, 101, 114, 115, 32, 108, 101, 116, 116, 101, 114, 32, 112, 97, 114, 116, 32, 100, 97, 121, 32, 109, 97, 114, 107, 101, 116, 32, 103, 114, 101, 101, 100, 32, 101, 121, 101, 115, 32]
def gWt : String := "butcher reader ink code fill send fatten pass with to or and not goose weight feathers letter part day market greed eyes "
def gEX (G : va_G) (A : Nat → Prop) (U : State) : Prop :=
  va_Nw (.methodLinkNest RX0 32 yX8_halvesOf "GooseLetters") U ∧
  (va_Z "GooseLetters$Search" "PATTERNS" "[I" (.ref (G.2 99 0)) A U U.heap ∧ va_T .int (G.2 99 0) 13 (fun j => .int (gPat j)) A U U.heap) ∧
  (va_Z "GooseLetters$Search" "PATTERN_COUNTS" "[I" (.ref (G.2 99 1)) A U U.heap ∧ va_T .int (G.2 99 1) 4 (fun j => .int (gCnt j)) A U U.heap) ∧
  (vk_R RX7 65 gWt (G.2 99 2) U ∧ vk_S 1 [121] [gWb] (fun _ => G.2 99 2) (fun _ => G.2 99 3) A U U.heap) ∧
  va_Z "java/lang/String" "COMPACT_STRINGS" "Z" (.int 1) A U U.heap ∧
  va_Zq "jdk/internal/util/Preconditions" "SIOOBE_FORMATTER" "Ljava/util/function/BiFunction;" A U U.heap
theorem gEX_step {G : va_G} {A B : Nat → Prop} {s U : State} {H : Heap} {locs : List Loc} (h : gEX G A s) (hS : va_S A s.heap H locs) (hW : s.WarmedH U.vm) (hU : U.heap = H) (hA : ∀ q, B q → A q) : gEX G B U := by
  subst hU
  obtain ⟨h1, ⟨h2, h3⟩, ⟨h4, h5⟩, ⟨h6, h7⟩, h8, h9⟩ := h
  exact ⟨va_Nw.warmM hW h1, ⟨((h2.kept hS.2.1).moved hW.alike).narrow hA, ((h3.kept hS.2.1).moved hW.alike).narrow hA⟩, ⟨((h4.kept hS.2.1).moved hW.alike).narrow hA, ((h5.kept hS.2.1).moved hW.alike).narrow hA⟩, ⟨vk_R.warm hW h6, ((h7.kept hS.2.1).moved hW.alike).narrow hA⟩, ((h8.kept hS.2.1).moved hW.alike).narrow hA, ((h9.kept hS.2.1).moved hW.alike).narrow hA⟩
theorem gEX_blind {G : va_G} {A : Nat → Prop} {U : State} {g : JFrame} {mk : MethodId} {a : Array Value} (h : gEX G A U) : gEX G A (U.calling g mk a) := by
  have hv : U.vm.Alike (U.calling g mk a).vm := Vm.Alike.refl U.vm
  obtain ⟨h1, ⟨h2, h3⟩, ⟨h4, h5⟩, ⟨h6, h7⟩, h8, h9⟩ := h
  exact ⟨va_Nw.same rfl (u := U) (U := U.calling g mk a) rfl h1, ⟨h2.moved hv, h3.moved hv⟩, ⟨h4.moved hv, h5.moved hv⟩, ⟨vk_R.same (u := U) (U := U.calling g mk a) rfl h6, h7.moved hv⟩, h8.moved hv, h9.moved hv⟩
/-! the words of all contracts: those of the tables that stay good -/
def lwc : List Cond := lw_tbl.filter goodWord
abbrev gws (y : MethodName) (cc : ByteArray) (n : Nat) (ret : Option FieldType) : List Cond := Cond.code y cc n ret :: lwc
theorem lwc_ok {w : Cond} (h : w ∈ lwc) : (w.onTables && w.keeps) = true ∨ ∃ ty, w = .arrayClass ty := good_of_word (List.mem_filter.mp h).2
theorem lwc_in {w : Cond} (h : w ∈ lwc) : w ∈ lw_tbl := (List.mem_filter.mp h).1
theorem gG_I {y : MethodName} {cc : ByteArray} {n : Nat} {ret : Option FieldType} (h : Cond.code y cc n ret ∈ lwc) : GoodIn lwc (gws y cc n ret) := fun w hw => by
  rcases List.mem_cons.mp hw with e | h2
  · subst e
    exact ⟨h, lwc_ok h⟩
  · exact ⟨h2, lwc_ok h2⟩
theorem gG_4 {a b c d : Cond} {ws : List Cond} (h1 : a ∈ lwc) (h2 : b ∈ lwc) (h3 : c ∈ lwc) (h4 : d ∈ lwc) (h : GoodIn lwc ws) : GoodIn lwc (([a, b, c, d] : List Cond) ++ ws) := fun w hw => by
  rcases List.mem_append.mp hw with hw | hw
  · simp only [List.mem_cons, List.not_mem_nil, or_false] at hw
    rcases hw with rfl | rfl | rfl | rfl
    · exact ⟨h1, lwc_ok h1⟩
    · exact ⟨h2, lwc_ok h2⟩
    · exact ⟨h3, lwc_ok h3⟩
    · exact ⟨h4, lwc_ok h4⟩
  · exact h w hw
theorem gG_3 {a b c : Cond} {ws : List Cond} (h1 : a ∈ lwc) (h2 : b ∈ lwc) (h3 : c ∈ lwc) (h : GoodIn lwc ws) : GoodIn lwc (([a, b, c] : List Cond) ++ ws) := fun w hw => by
  rcases List.mem_append.mp hw with hw | hw
  · simp only [List.mem_cons, List.not_mem_nil, or_false] at hw
    rcases hw with rfl | rfl | rfl
    · exact ⟨h1, lwc_ok h1⟩
    · exact ⟨h2, lwc_ok h2⟩
    · exact ⟨h3, lwc_ok h3⟩
  · exact h w hw
theorem gG_V {own C : String} {idx n : Nat} {y : MethodName} {cc : ByteArray} {ret : Option FieldType} (h1 : Cond.methodLink own idx y ∈ lwc) (h2 : Cond.instanceMethod y ∈ lwc) (h3 : Cond.selects C y y ∈ lwc) (h4 : Cond.initialized C ∈ lwc) (h5 : Cond.code y cc n ret ∈ lwc) : GoodIn lwc (wsV own idx C y (gws y cc n ret)) := gG_4 h1 h2 h3 h4 (gG_I h5)
theorem gG_S {own : String} {idx n : Nat} {y : MethodName} {cc : ByteArray} {ret : Option FieldType} (h1 : Cond.methodLink own idx y ∈ lwc) (h2 : Cond.static y ∈ lwc) (h3 : Cond.initialized own ∈ lwc) (h5 : Cond.code y cc n ret ∈ lwc) : GoodIn lwc (wsS own idx y (gws y cc n ret)) := gG_3 h1 h2 h3 (gG_I h5)
theorem nv_0 {w : Cond} (h : w ∈ k2_sels lw_privs) (g : goodWord w = true) : w ∈ lwc := List.mem_filter.mpr ⟨List.mem_append_left _ h, g⟩
theorem nv_1 {w : Cond} (h : w ∈ tables_1_1) (g : goodWord w = true) : w ∈ lwc := List.mem_filter.mpr ⟨List.mem_append_right _ (List.mem_append_left _ h), g⟩
theorem nv_2 {w : Cond} (h : w ∈ tables_1_2) (g : goodWord w = true) : w ∈ lwc := List.mem_filter.mpr ⟨List.mem_append_right _ (List.mem_append_right _ (List.mem_append_left _ h)), g⟩
theorem nv_3 {w : Cond} (h : w ∈ tables_1_3) (g : goodWord w = true) : w ∈ lwc := List.mem_filter.mpr ⟨List.mem_append_right _ (List.mem_append_right _ (List.mem_append_right _ (List.mem_append_left _ h))), g⟩
theorem nv_4 {w : Cond} (h : w ∈ tables_1_4) (g : goodWord w = true) : w ∈ lwc := List.mem_filter.mpr ⟨List.mem_append_right _ (List.mem_append_right _ (List.mem_append_right _ (List.mem_append_right _ (List.mem_append_left _ h)))), g⟩
theorem nv_5 {w : Cond} (h : w ∈ tables_1_5) (g : goodWord w = true) : w ∈ lwc := List.mem_filter.mpr ⟨List.mem_append_right _ (List.mem_append_right _ (List.mem_append_right _ (List.mem_append_right _ (List.mem_append_right _ (List.mem_append_left _ h))))), g⟩
theorem nv_6 {w : Cond} (h : w ∈ tables_1_6) (g : goodWord w = true) : w ∈ lwc := List.mem_filter.mpr ⟨List.mem_append_right _ (List.mem_append_right _ (List.mem_append_right _ (List.mem_append_right _ (List.mem_append_right _ (List.mem_append_right _ h))))), g⟩
/-! words of my own: a contract over a list of cells, its start, its calls, its ends -/
def gP (G : va_G) (tys : List (ClassId × FieldType)) (ws : va_W) (sz : Nat) (U : State) : Prop := U.heap.size = sz ∧ va_P G vwCl ws U.heap ∧ va_K G vwCl tys U ∧ va_D (fun _ => True) ws ∧ gEX G (va_A ws sz) U
def gB {S : Type} (G : va_G) (w1 : S → va_W) (A : Nat → Prop) (u : S) (t : State) : Prop := va_P G vwCl (w1 u) t.heap ∧ va_D A (w1 u)
abbrev gRm (k : Nat) : Room := { frames := k, cells := 0, slots := 0, locals := 100 * k }
abbrev gT (cI cJ cZ cB cT : ClassId) : List (ClassId × FieldType) := [(cI, .int), (cJ, .long), (cZ, .boolean), (cB, .byte), (cT, .object "GooseLetters$Text")]
abbrev gMi {S : Type} (l : Launch) (y : MethodName) (wd : List Cond) (k : Nat) (G : va_G) (tys : List (ClassId × FieldType)) (av : List Value) (ws : va_W) (post : Int32 → S → Prop) (w1 : S → va_W) : Prop := ∀ sz : Nat, Met l y wd (gRm k) (va_Pc av (gP G tys ws sz)) (va_Qi post (gB G w1 (va_A ws sz)) (va_A ws sz)) 0 0 (va_A ws sz)
abbrev gMl {S : Type} (l : Launch) (y : MethodName) (wd : List Cond) (k : Nat) (G : va_G) (tys : List (ClassId × FieldType)) (av : List Value) (ws : va_W) (post : Int64 → S → Prop) (w1 : S → va_W) : Prop := ∀ sz : Nat, Met l y wd (gRm k) (va_Pc av (gP G tys ws sz)) (va_Ql post (gB G w1 (va_A ws sz)) (va_A ws sz)) 0 0 (va_A ws sz)
abbrev gMv {S : Type} (l : Launch) (y : MethodName) (wd : List Cond) (k : Nat) (G : va_G) (tys : List (ClassId × FieldType)) (av : List Value) (ws : va_W) (post : S → Prop) (w1 : S → va_W) : Prop := ∀ sz : Nat, Met l y wd (gRm k) (va_Pc av (gP G tys ws sz)) (va_Qv post (gB G w1 (va_A ws sz)) (va_A ws sz)) 0 0 (va_A ws sz)
abbrev gMq {S : Type} (l : Launch) (y : MethodName) (wd : List Cond) (k : Nat) (G : va_G) (tys : List (ClassId × FieldType)) (av : List Value) (ws : va_W) (post : Option Nat → S → Prop) (w1 : S → va_W) : Prop := ∀ sz : Nat, Met l y wd (gRm k) (va_Pc av (gP G tys ws sz)) (va_Qq post (gB G w1 (va_A ws sz)) (va_A ws sz)) 0 0 (va_A ws sz)
def gpick (ws : va_W) (is : List Nat) : va_W := is.filterMap (fun i => ws[i]?)
theorem gP_blind {G : va_G} {tys : List (ClassId × FieldType)} {av : List Value} {ws : va_W} {sz : Nat} : FrameBlind (va_Pc av (gP G tys ws sz)) := fun a U g mk q => by
  obtain ⟨q0, q1, qP, qK, qD, qE⟩ := q
  exact ⟨q0, q1, qP, va_K.moved (u := U) (U := U.calling g mk a) (Vm.Alike.refl U.vm) qK, qD, gEX_blind qE⟩
theorem gM_start {l : Launch} {cc : ByteArray} {G : va_G} {y : MethodName} {rm : Room} {av : List Value} {tys : List (ClassId × FieldType)} {ws : va_W} {sz : Nat} {Qf : (Nat → Prop) → Array Value → State → Outcome → State → Prop} {mc ms maxL : Nat} {ret : Option FieldType} (hy : plainName y.cls = true) (hav : (lg_sl av).length ≤ maxL)
    (body : ∀ (p : Program) (e : Env) (s : State) (m : MethodId) (args : Array Value) (below : List Frame) (meth : Method) (c : Code) (A : Nat → Prop) (ls : Array Slot) (H : Heap), p.tables.exec = Jvm.exec → c.code = cc → meth.sig.returnType = ret → (∀ w ∈ lwc, w.before args s = true) → s.vm.findClass y.cls = some m.cls → meth.name = y.name → meth.locks = false → c.maxLocals = maxL → va_P G vwCl ws H → va_K G vwCl tys s → va_D A ws → (∀ q, s.heap.size ≤ q → A q) → va_S A s.heap H [] → lv_has ls maxL (lv_args 0 av) → gEX G A s → W p l e rm s m args below meth c H [] 0 0 (MQ below (Qf A) args s mc ms A) (F0 m 0 ls [])) :
    Met l y (gws y cc maxL ret) rm (va_Pc av (gP G tys ws sz)) (Qf (va_A ws sz)) mc ms (va_A ws sz) := by
  refine Met.ofW hy rfl ?_
  intro p e s m args below meth c s₁ B hml hv
  obtain ⟨rfl, hsz, hP, hK, hD0, hE⟩ := hv
  subst hsz
  have h := body p e s m av.toArray below meth c (va_A ws s.heap.size) ((lg_sl av ++ List.replicate (maxL - (lg_sl av).length) Slot.unset).toArray) s.heap B.exec B.bytes B.returns (fun w h => atoms_spec (ws := gws y cc maxL ret) B.pre w (List.mem_cons_of_mem _ h)) (findClass_of_methodNamed B.named) (name_of_methodNamed B.named B.method).1 B.notSynchronized hml hP hK hD0.self (fun q h => Or.inr h) va_S.rf (lv_entry av hav) hE
  rw [lg_entry_eq]
  exact h
section GB
variable {p : Program} {l : Launch} {e : Env} {R : Room} {s : State} {m : MethodId} {args : Array Value} {below : List Frame} {meth : Method} {c : Code} {H : Heap} {locs : List Loc} {cells slots : Nat} {Q : State → Prop} {pc : Nat} {ls : Array Slot} {rest st0 : List Value} {G : va_G} {tys : List (ClassId × FieldType)} {ws : va_W} {A : Nat → Prop} {H0 : Heap} {cc : ByteArray}
theorem gw_topi {x y : Int32} (h : x = y) (k : W p l e R s m args below meth c H locs cells slots Q (F0 m pc ls (.int y :: rest))) : W p l e R s m args below meth c H locs cells slots Q (F0 m pc ls (.int x :: rest)) := h ▸ k
theorem gw_topl {x y : Int64} (h : x = y) (k : W p l e R s m args below meth c H locs cells slots Q (F0 m pc ls (.long y :: rest))) : W p l e R s m args below meth c H locs cells slots Q (F0 m pc ls (.long x :: rest)) := h ▸ k
theorem gw_iret {S : Type} {post : Int32 → S → Prop} {w1 : S → va_W} {v : Int32} (u : S) (hx : p.tables.exec = Jvm.exec) (hb : c.code = cc) (hr : meth.sig.returnType = some .int) (hlocks : meth.locks = false) (hP : va_P G vwCl (w1 u) H) (hD : va_D A (w1 u)) (hS : va_S A s.heap H locs) (hp : post v u) (hdg : decode cc pc = .ok (.ireturn, 1)) : W p l e R s m args below meth c H locs cells slots (MQ below (va_Qi post (gB G w1 A) A) args s cells slots A) (F0 m pc ls [.int v]) :=
  W.iret hx hb hr (fun t ht _ => ⟨⟨v, u, rfl, hp, by rw [ht]; exact hP, hD⟩, hS.F ht⟩) hS.2.2 hdg hlocks
theorem gw_zret {S : Type} {post : Int32 → S → Prop} {w1 : S → va_W} {v : Int32} (u : S) (hx : p.tables.exec = Jvm.exec) (hb : c.code = cc) (hr : meth.sig.returnType = some .boolean) (hlocks : meth.locks = false) (hv : narrow .boolean (.int v) = .int v) (hP : va_P G vwCl (w1 u) H) (hD : va_D A (w1 u)) (hS : va_S A s.heap H locs) (hp : post v u) (hdg : decode cc pc = .ok (.ireturn, 1)) : W p l e R s m args below meth c H locs cells slots (MQ below (va_Qi post (gB G w1 A) A) args s cells slots A) (F0 m pc ls [.int v]) :=
  W.zret hx hb hr hv (fun t ht _ => ⟨⟨v, u, rfl, hp, by rw [ht]; exact hP, hD⟩, hS.F ht⟩) hS.2.2 hdg hlocks
theorem gw_lret {S : Type} {post : Int64 → S → Prop} {w1 : S → va_W} {v : Int64} (u : S) (hx : p.tables.exec = Jvm.exec) (hb : c.code = cc) (hr : meth.sig.returnType = some .long) (hlocks : meth.locks = false) (hP : va_P G vwCl (w1 u) H) (hD : va_D A (w1 u)) (hS : va_S A s.heap H locs) (hp : post v u) (hdg : decode cc pc = .ok (.lreturn, 1)) : W p l e R s m args below meth c H locs cells slots (MQ below (va_Ql post (gB G w1 A) A) args s cells slots A) (F0 m pc ls [.long v]) :=
  W.lret hx hb hr (fun t ht _ => ⟨⟨v, u, rfl, hp, by rw [ht]; exact hP, hD⟩, hS.F ht⟩) hS.2.2 hdg hlocks
theorem gw_vret {S : Type} {post : S → Prop} {w1 : S → va_W} (u : S) (hx : p.tables.exec = Jvm.exec) (hb : c.code = cc) (hr : meth.sig.returnType = none) (hlocks : meth.locks = false) (hP : va_P G vwCl (w1 u) H) (hD : va_D A (w1 u)) (hS : va_S A s.heap H locs) (hp : post u) (hdg : decode cc pc = .ok (.return_, 1)) : W p l e R s m args below meth c H locs cells slots (MQ below (va_Qv post (gB G w1 A) A) args s cells slots A) (F0 m pc ls []) :=
  W.vret hx hb hr (fun t ht _ => ⟨⟨u, rfl, hp, by rw [ht]; exact hP, hD⟩, hS.F ht⟩) hS.2.2 hdg hlocks
theorem gw_qret {S : Type} {post : Option Nat → S → Prop} {w1 : S → va_W} {v : Option Nat} {n : String} (u : S) (hx : p.tables.exec = Jvm.exec) (hb : c.code = cc) (hr : meth.sig.returnType = some (.object n)) (hlocks : meth.locks = false) (hP : va_P G vwCl (w1 u) H) (hD : va_D A (w1 u)) (hS : va_S A s.heap H locs) (hp : post v u) (hdg : decode cc pc = .ok (.areturn, 1)) : W p l e R s m args below meth c H locs cells slots (MQ below (va_Qq post (gB G w1 A) A) args s cells slots A) (F0 m pc ls [va_rf v]) :=
  W.aret hx hb hr (Or.inl ⟨n, rfl⟩) (by cases v; exact Or.inl rfl; exact Or.inr ⟨_, rfl⟩) (fun t ht _ => ⟨⟨v, u, rfl, hp, by rw [ht]; exact hP, hD⟩, hS.F ht⟩) hS.2.2 hdg hlocks
theorem gw_iald {a : Nat} (hx : p.tables.exec = Jvm.exec) (hb : c.code = cc) (hK : va_K G vwCl tys s) (hP : va_P G vwCl ws H) (q0 t0 : Nat) {cA : ClassId} {n : Nat} {f : Nat → Int32} {x : Int32} (k : Nat) {i : Int32} (ha : ws[q0]? = some (a, .inl (cA, n, .inl f))) (ht : tys[t0]? = some (cA, .int)) (hi : i = nI k) (hk : k < n) (hn : n < 2 ^ 31) (hv : f k = x) (hdg : decode cc pc = .ok (.iaload, 1)) (kk : W p l e R s m args below meth c H locs cells slots Q (F0 m (pc + 1) ls (.int x :: rest))) : W p l e R s m args below meth c H locs cells slots Q (F0 m pc ls (.int i :: .ref a :: rest)) := by
  subst hi
  refine va_iald hx hb hK hP q0 t0 ha ht (vp_in_nI hk hn) hdg ?_
  rw [nI_clamp (by omega), hv]
  exact kk
theorem gw_bald {a : Nat} (hx : p.tables.exec = Jvm.exec) (hb : c.code = cc) (hK : va_K G vwCl tys s) (hP : va_P G vwCl ws H) (q0 t0 : Nat) {cA : ClassId} {n : Nat} {f : Nat → Int32} {x : Int32} (k : Nat) {i : Int32} (ha : ws[q0]? = some (a, .inl (cA, n, .inl f))) (ht : tys[t0]? = some (cA, .byte)) (hi : i = nI k) (hk : k < n) (hn : n < 2 ^ 31) (hv : f k = x) (hdg : decode cc pc = .ok (.baload, 1)) (kk : W p l e R s m args below meth c H locs cells slots Q (F0 m (pc + 1) ls (.int x :: rest))) : W p l e R s m args below meth c H locs cells slots Q (F0 m pc ls (.int i :: .ref a :: rest)) := by
  subst hi
  refine va_bald hx hb hK hP q0 t0 ha ht (vp_in_nI hk hn) hdg ?_
  rw [nI_clamp (by omega), hv]
  exact kk
theorem gw_zald {a : Nat} (hx : p.tables.exec = Jvm.exec) (hb : c.code = cc) (hK : va_K G vwCl tys s) (hP : va_P G vwCl ws H) (q0 t0 : Nat) {cA : ClassId} {n : Nat} {f : Nat → Int32} {x : Int32} (k : Nat) {i : Int32} (ha : ws[q0]? = some (a, .inl (cA, n, .inl f))) (ht : tys[t0]? = some (cA, .boolean)) (hi : i = nI k) (hk : k < n) (hn : n < 2 ^ 31) (hv : f k = x) (hdg : decode cc pc = .ok (.baload, 1)) (kk : W p l e R s m args below meth c H locs cells slots Q (F0 m (pc + 1) ls (.int x :: rest))) : W p l e R s m args below meth c H locs cells slots Q (F0 m pc ls (.int i :: .ref a :: rest)) := by
  subst hi
  refine va_zald hx hb hK hP q0 t0 ha ht (vp_in_nI hk hn) hdg ?_
  rw [nI_clamp (by omega), hv]
  exact kk
theorem gw_lald {a : Nat} (hx : p.tables.exec = Jvm.exec) (hb : c.code = cc) (hK : va_K G vwCl tys s) (hP : va_P G vwCl ws H) (q0 t0 : Nat) {cA : ClassId} {n : Nat} {f : Nat → Int64} {x : Int64} (k : Nat) {i : Int32} (ha : ws[q0]? = some (a, .inl (cA, n, .inr (.inl f)))) (ht : tys[t0]? = some (cA, .long)) (hi : i = nI k) (hk : k < n) (hn : n < 2 ^ 31) (hv : f k = x) (hdg : decode cc pc = .ok (.laload, 1)) (kk : W p l e R s m args below meth c H locs cells slots Q (F0 m (pc + 1) ls (.long x :: rest))) : W p l e R s m args below meth c H locs cells slots Q (F0 m pc ls (.int i :: .ref a :: rest)) := by
  subst hi
  refine va_lald hx hb hK hP q0 t0 ha ht (vp_in_nI hk hn) hdg ?_
  rw [nI_clamp (by omega), hv]
  exact kk
theorem gw_aldq {a : Nat} (hx : p.tables.exec = Jvm.exec) (hb : c.code = cc) (hK : va_K G vwCl tys s) (hP : va_P G vwCl ws H) (q0 t0 : Nat) {cA : ClassId} {C : String} {n : Nat} {f : Nat → Option Nat} {x : Option Nat} (k : Nat) {i : Int32} (ha : ws[q0]? = some (a, .inl (cA, n, .inr (.inr (.inr (.inr f)))))) (ht : tys[t0]? = some (cA, .object C)) (hi : i = nI k) (hk : k < n) (hn : n < 2 ^ 31) (hv : f k = x) (hdg : decode cc pc = .ok (.aaload, 1)) (kk : W p l e R s m args below meth c H locs cells slots Q (F0 m (pc + 1) ls (va_rf x :: rest))) : W p l e R s m args below meth c H locs cells slots Q (F0 m pc ls (.int i :: .ref a :: rest)) := by
  subst hi
  refine va_aldq hx hb hK hP q0 t0 ha ht (vp_in_nI hk hn) hdg ?_
  rw [nI_clamp (by omega), hv]
  exact kk
theorem gw_iast {a : Nat} (hx : p.tables.exec = Jvm.exec) (hb : c.code = cc) (hK : va_K G vwCl tys s) (hP : va_P G vwCl ws H) (hD : va_D A ws) (hS : va_S A H0 H locs) (q0 t0 : Nat) {cA : ClassId} {n : Nat} {f : Nat → Int32} {x : Int32} (k : Nat) {i : Int32} (ha : ws[q0]? = some (a, .inl (cA, n, .inl f))) (ht : tys[t0]? = some (cA, .int)) (hi : i = nI k) (hk : k < n) (hn : n < 2 ^ 31) (hdg : decode cc pc = .ok (.iastore, 1)) (kk : ∀ (H1 : Heap) (locs1 : List Loc), va_P G vwCl (ws.set q0 (a, .inl (cA, n, .inl (upd f k x)))) H1 → va_D A (ws.set q0 (a, .inl (cA, n, .inl (upd f k x)))) → va_S A H0 H1 locs1 → W p l e R s m args below meth c H1 locs1 cells slots Q (F0 m (pc + 1) ls rest)) : W p l e R s m args below meth c H locs cells slots Q (F0 m pc ls (.int x :: .int i :: .ref a :: rest)) := by
  subst hi
  refine va_iast hx hb hK hP hD hS q0 t0 ha ht (vp_in_nI hk hn) hdg ?_
  rw [nI_clamp (by omega)]
  exact kk
theorem gw_bast {a : Nat} (hx : p.tables.exec = Jvm.exec) (hb : c.code = cc) (hK : va_K G vwCl tys s) (hP : va_P G vwCl ws H) (hD : va_D A ws) (hS : va_S A H0 H locs) (q0 t0 : Nat) {cA : ClassId} {n : Nat} {f : Nat → Int32} {x y : Int32} (k : Nat) {i : Int32} (ha : ws[q0]? = some (a, .inl (cA, n, .inl f))) (ht : tys[t0]? = some (cA, .byte)) (hi : i = nI k) (hk : k < n) (hn : n < 2 ^ 31) (hy : vp_nar .byte x = y) (hdg : decode cc pc = .ok (.bastore, 1)) (kk : ∀ (H1 : Heap) (locs1 : List Loc), va_P G vwCl (ws.set q0 (a, .inl (cA, n, .inl (upd f k y)))) H1 → va_D A (ws.set q0 (a, .inl (cA, n, .inl (upd f k y)))) → va_S A H0 H1 locs1 → W p l e R s m args below meth c H1 locs1 cells slots Q (F0 m (pc + 1) ls rest)) : W p l e R s m args below meth c H locs cells slots Q (F0 m pc ls (.int x :: .int i :: .ref a :: rest)) := by
  subst hi
  refine va_bast hx hb hK hP hD hS q0 t0 ha ht (vp_in_nI hk hn) hdg ?_
  rw [nI_clamp (by omega), hy]
  exact kk
theorem gw_zast {a : Nat} (hx : p.tables.exec = Jvm.exec) (hb : c.code = cc) (hK : va_K G vwCl tys s) (hP : va_P G vwCl ws H) (hD : va_D A ws) (hS : va_S A H0 H locs) (q0 t0 : Nat) {cA : ClassId} {n : Nat} {f : Nat → Int32} {x y : Int32} (k : Nat) {i : Int32} (ha : ws[q0]? = some (a, .inl (cA, n, .inl f))) (ht : tys[t0]? = some (cA, .boolean)) (hi : i = nI k) (hk : k < n) (hn : n < 2 ^ 31) (hy : vp_nar .boolean x = y) (hdg : decode cc pc = .ok (.bastore, 1)) (kk : ∀ (H1 : Heap) (locs1 : List Loc), va_P G vwCl (ws.set q0 (a, .inl (cA, n, .inl (upd f k y)))) H1 → va_D A (ws.set q0 (a, .inl (cA, n, .inl (upd f k y)))) → va_S A H0 H1 locs1 → W p l e R s m args below meth c H1 locs1 cells slots Q (F0 m (pc + 1) ls rest)) : W p l e R s m args below meth c H locs cells slots Q (F0 m pc ls (.int x :: .int i :: .ref a :: rest)) := by
  subst hi
  refine va_zast hx hb hK hP hD hS q0 t0 ha ht (vp_in_nI hk hn) hdg ?_
  rw [nI_clamp (by omega), hy]
  exact kk
theorem gw_last {a : Nat} (hx : p.tables.exec = Jvm.exec) (hb : c.code = cc) (hK : va_K G vwCl tys s) (hP : va_P G vwCl ws H) (hD : va_D A ws) (hS : va_S A H0 H locs) (q0 t0 : Nat) {cA : ClassId} {n : Nat} {f : Nat → Int64} {x : Int64} (k : Nat) {i : Int32} (ha : ws[q0]? = some (a, .inl (cA, n, .inr (.inl f)))) (ht : tys[t0]? = some (cA, .long)) (hi : i = nI k) (hk : k < n) (hn : n < 2 ^ 31) (hdg : decode cc pc = .ok (.lastore, 1)) (kk : ∀ (H1 : Heap) (locs1 : List Loc), va_P G vwCl (ws.set q0 (a, .inl (cA, n, .inr (.inl (vp_updL f k x))))) H1 → va_D A (ws.set q0 (a, .inl (cA, n, .inr (.inl (vp_updL f k x))))) → va_S A H0 H1 locs1 → W p l e R s m args below meth c H1 locs1 cells slots Q (F0 m (pc + 1) ls rest)) : W p l e R s m args below meth c H locs cells slots Q (F0 m pc ls (.long x :: .int i :: .ref a :: rest)) := by
  subst hi
  refine va_last hx hb hK hP hD hS q0 t0 ha ht (vp_in_nI hk hn) hdg ?_
  rw [nI_clamp (by omega)]
  exact kk
end GB
theorem gi_of_lt {a b : Int32} (h : a < b) : a.toInt < b.toInt := Int32.lt_iff_toInt_lt.mp h
theorem gi_of_nlt {a b : Int32} (h : ¬ a < b) : b.toInt ≤ a.toInt := by rw [Int32.lt_iff_toInt_lt] at h; omega
theorem gi_of_le {a b : Int32} (h : a ≤ b) : a.toInt ≤ b.toInt := Int32.le_iff_toInt_le.mp h
theorem gi_of_nle {a b : Int32} (h : ¬ a ≤ b) : b.toInt < a.toInt := by rw [Int32.le_iff_toInt_le] at h; omega
theorem gi_of_eq {a b : Int32} (h : a = b) : a.toInt = b.toInt := by rw [h]
theorem gi_of_ne {a b : Int32} (h : ¬ a = b) : ¬ a.toInt = b.toInt := fun q => h (Int32.toInt_inj.mp q)
theorem gi_lt {a b : Int32} (h : a.toInt < b.toInt) : a < b := Int32.lt_iff_toInt_lt.mpr h
theorem gi_nlt {a b : Int32} (h : b.toInt ≤ a.toInt) : ¬ a < b := by rw [Int32.lt_iff_toInt_lt]; omega
theorem gi_le {a b : Int32} (h : a.toInt ≤ b.toInt) : a ≤ b := Int32.le_iff_toInt_le.mpr h
theorem gi_nle {a b : Int32} (h : b.toInt < a.toInt) : ¬ a ≤ b := by rw [Int32.le_iff_toInt_le]; omega
theorem gi_eq {a b : Int32} (h : a.toInt = b.toInt) : a = b := Int32.toInt_inj.mp h
theorem gi_ne {a b : Int32} (h : ¬ a.toInt = b.toInt) : ¬ a = b := fun q => h (by rw [q])
theorem gi_nat {x : Int32} (n : Nat) (h0 : 0 ≤ x.toInt) (h1 : x.toInt < n) : ∃ k : Nat, k < n ∧ x = nI k := by
  refine ⟨x.toInt.toNat, by omega, ?_⟩
  apply Int32.toInt_inj.mp
  have hr := x.toInt_lt
  rw [nI_toInt (by omega)]
  omega
theorem gz {v : Int32} (h : v = 0 ∨ v = 1) : narrow .boolean (.int v) = .int v := by rcases h with rfl | rfl <;> rfl
/-! constructors: a contract that makes cells; words that are told beside the lists -/
abbrev gRc (k mc ms : Nat) : Room := { frames := k, cells := mc, slots := ms, locals := 100 * k }
abbrev gMc {S : Type} (l : Launch) (y : MethodName) (wd : List Cond) (k mc ms : Nat) (G : va_G) (tys : List (ClassId × FieldType)) (Ex : State → Prop) (av : List Value) (ws : va_W) (post : S → Prop) (w1 : S → va_W) : Prop := ∀ sz : Nat, Met l y wd (gRc k mc ms) (va_Pc av (fun U => gP G tys ws sz U ∧ Ex U)) (va_Qv post (gB G w1 (va_A ws sz)) (va_A ws sz)) mc ms (va_A ws sz)
/-- told words that neither a call nor a warmer machine takes away -/
def gKeeps (Ex : State → Prop) : Prop := (∀ (U : State) (g : JFrame) (mk : MethodId) (a : Array Value), Ex U → Ex (U.calling g mk a)) ∧ ∀ s U : State, s.WarmedH U.vm → Ex s → Ex U
theorem gM_startx {l : Launch} {cc : ByteArray} {G : va_G} {y : MethodName} {rm : Room} {av : List Value} {tys : List (ClassId × FieldType)} {ws : va_W} {sz : Nat} {Ex : State → Prop} {Qf : (Nat → Prop) → Array Value → State → Outcome → State → Prop} {mc ms maxL : Nat} {ret : Option FieldType} (hy : plainName y.cls = true) (hav : (lg_sl av).length ≤ maxL)
    (body : ∀ (p : Program) (e : Env) (s : State) (m : MethodId) (args : Array Value) (below : List Frame) (meth : Method) (c : Code) (A : Nat → Prop) (ls : Array Slot) (H : Heap), p.tables.exec = Jvm.exec → c.code = cc → meth.sig.returnType = ret → (∀ w ∈ lwc, w.before args s = true) → s.vm.findClass y.cls = some m.cls → meth.name = y.name → meth.locks = false → c.maxLocals = maxL → va_P G vwCl ws H → va_K G vwCl tys s → va_D A ws → (∀ q, s.heap.size ≤ q → A q) → va_S A s.heap H [] → lv_has ls maxL (lv_args 0 av) → Ex s → gEX G A s → W p l e rm s m args below meth c H [] 0 0 (MQ below (Qf A) args s mc ms A) (F0 m 0 ls [])) :
    Met l y (gws y cc maxL ret) rm (va_Pc av (fun U => gP G tys ws sz U ∧ Ex U)) (Qf (va_A ws sz)) mc ms (va_A ws sz) := by
  refine Met.ofW hy rfl ?_
  intro p e s m args below meth c s₁ B hml hv
  obtain ⟨rfl, ⟨hsz, hP, hK, hD0, hX⟩, hE⟩ := hv
  subst hsz
  have h := body p e s m av.toArray below meth c (va_A ws s.heap.size) ((lg_sl av ++ List.replicate (maxL - (lg_sl av).length) Slot.unset).toArray) s.heap B.exec B.bytes B.returns (fun w h => atoms_spec (ws := gws y cc maxL ret) B.pre w (List.mem_cons_of_mem _ h)) (findClass_of_methodNamed B.named) (name_of_methodNamed B.named B.method).1 B.notSynchronized hml hP hK hD0.self (fun q h => Or.inr h) va_S.rf (lv_entry av hav) hE hX
  rw [lg_entry_eq]
  exact h
section GC
variable {p : Program} {l : Launch} {e : Env} {R : Room} {s : State} {m : MethodId} {args : Array Value} {below : List Frame} {meth : Method} {c : Code} {H : Heap} {locs : List Loc} {cells slots : Nat} {Q : State → Prop} {pc : Nat} {ls : Array Slot} {rest st0 : List Value} {G : va_G} {tys : List (ClassId × FieldType)} {ws : va_W} {A : Nat → Prop} {H0 : Heap} {cc : ByteArray}
theorem gw_newa (hx : p.tables.exec = Jvm.exec) (hb : c.code = cc) {atype : ArrayType} (harr : (Cond.arrayClass (newarray.typeOf atype)).before args s = true) {ty : FieldType} (hty : newarray.typeOf atype = ty) (hK : va_K G vwCl tys s) (hP : va_P G vwCl ws H) (hD : va_D A ws) (hS : va_S A H0 H locs) (hA : ∀ q, H0.size ≤ q → A q) (t0 : Nat) {cI : ClassId} (ht : tys[t0]? = some (cI, ty)) (hra : ∀ (U : State) (cA : ClassId), va_RA U cA ty → U.vm.findClass ("[" ++ ty.toString) = some cA)
    {n : Int32} {N' : Nat} {a0 : vp_A} (ha : ∀ cA : ClassId, vp_cell cA a0 = arrV cA N' (fun _ => defaultValue ty)) (hn : ¬ n < 0) (hN : n.toNatClampNeg = N') (hbytes : N' * componentBytes ty ≤ 536870912) (hcells : cells + 1 ≤ R.cells) (hslots : slots + N' ≤ R.slots) (hdg : decode cc pc = .ok (.newarray atype, 2))
    (kk : ∀ (q : Nat) (H1 : Heap), va_P G vwCl (ws ++ [(q, .inl (cI, a0))]) H1 → va_D A (ws ++ [(q, .inl (cI, a0))]) → va_S A H0 H1 locs → W p l e R s m args below meth c H1 locs (cells + 1) (slots + N') Q (F0 m (pc + 2) ls (.ref q :: rest))) : W p l e R s m args below meth c H locs cells slots Q (F0 m pc ls (.int n :: rest)) := by
  refine va_newa hx hb harr hty hK hP hD hS hA ha hn hN hbytes hcells hslots hdg ?_
  intro q cA H1 hK1 hP1 hD1 hS1
  have h1 := hra _ _ (hK1.2 tys.length (cA, ty) (by simp)).2
  have h2 := hra _ _ (hK.2 t0 (cI, ty) ht).2
  have e : cA = cI := Option.some.inj (h1.symm.trans h2)
  subst e
  exact kk q H1 hP1 hD1 hS1
theorem gw_newq (hx : p.tables.exec = Jvm.exec) (hb : c.code = cc) {own C : String} {index : Nat} (hown : s.vm.findClass own = some m.cls) (hclink : (Cond.classLink own index C).before args s = true) (hover : va_AO C s) (hK : va_K G vwCl tys s) (hP : va_P G vwCl ws H) (hD : va_D A ws) (hS : va_S A H0 H locs) (hA : ∀ q, H0.size ≤ q → A q) (t0 : Nat) {cT : ClassId} (ht : tys[t0]? = some (cT, .object C))
    {n : Int32} {N' : Nat} (hn : ¬ n < 0) (hN : n.toNatClampNeg = N') (hbytes : N' * 4 ≤ 536870912) (hcells : cells + 1 ≤ R.cells) (hslots : slots + N' ≤ R.slots) (hdg : decode cc pc = .ok (.anewarray index, 3))
    (kk : ∀ (q : Nat) (H1 : Heap), va_P G vwCl (ws ++ [(q, .inl (cT, N', .inr (.inr (.inr (.inr (fun _ => none))))))]) H1 → va_D A (ws ++ [(q, .inl (cT, N', .inr (.inr (.inr (.inr (fun _ => none))))))]) → va_S A H0 H1 locs → W p l e R s m args below meth c H1 locs (cells + 1) (slots + N') Q (F0 m (pc + 3) ls (.ref q :: rest))) : W p l e R s m args below meth c H locs cells slots Q (F0 m pc ls (.int n :: rest)) := by
  refine va_newq hx hb hown hclink hover hK hP hD hS hA hn hN hbytes hcells hslots hdg ?_
  intro q cA H1 hK1 hP1 hD1 hS1
  obtain ⟨k1, m1, -, -, -, h1⟩ := (hK1.2 tys.length (cA, .object C) (by simp)).2
  obtain ⟨k2, m2, -, -, -, h2⟩ := (hK.2 t0 (cT, .object C) ht).2
  have e : cA = cT := Option.some.inj (h1.symm.trans h2)
  subst e
  exact kk q H1 hP1 hD1 hS1
theorem gw_astq {a : Nat} (hx : p.tables.exec = Jvm.exec) (hb : c.code = cc) (hK : va_K G vwCl tys s) (hP : va_P G vwCl ws H) (hD : va_D A ws) (hS : va_S A H0 H locs) (q0 t0 qk ci : Nat) {cA : ClassId} {r : vw_C} {n v : Nat} {vs : List Value} {f : Nat → Option Nat} (k : Nat) {i : Int32} (ha : ws[q0]? = some (a, .inl (cA, n, .inr (.inr (.inr (.inr f)))))) (ht : tys[t0]? = some (cA, .object r.1)) (hv : ws[qk]? = some (v, .inr (ci, vs))) (hc : vwCl[ci]? = some r) (hi : i = nI k) (hk : k < n) (hn : n < 2 ^ 31) (hdg : decode cc pc = .ok (.aastore, 1))
    (kk : ∀ (H1 : Heap) (locs1 : List Loc), va_P G vwCl (ws.set q0 (a, .inl (cA, n, .inr (.inr (.inr (.inr (va_up f k (some v)))))))) H1 → va_D A (ws.set q0 (a, .inl (cA, n, .inr (.inr (.inr (.inr (va_up f k (some v)))))))) → va_S A H0 H1 locs1 → W p l e R s m args below meth c H1 locs1 cells slots Q (F0 m (pc + 1) ls rest)) : W p l e R s m args below meth c H locs cells slots Q (F0 m pc ls (.ref v :: .int i :: .ref a :: rest)) := by
  subst hi
  refine va_astq hx hb hK hP hD hS q0 t0 qk ci ha ht hv hc (vp_in_nI hk hn) hdg ?_
  rw [nI_clamp (by omega)]
  exact kk
theorem gw_callc {S : Type} {post : S → Prop} {w1 : S → va_W} {wc : va_W} {a : Array Value} {mc ms : Nat} (run : va_Run p l e R s m args below meth c H locs cells slots mc ms (F0 m pc ls st0) rest (va_Qv post (gB G w1 (va_A wc H.size)) (va_A wc H.size) a) (va_A wc H.size)) (hP : va_P G vwCl ws H) (hD : va_D A ws) (hS : va_S A H0 H locs) (hA : ∀ q, H0.size ≤ q → A q) (isC isR : List Nat) (hC : isC.map (fun i => ws[i]?) = wc.map some) (hR : isR.map (fun i => ws[i]?) = (gpick ws isR).map some) (hn : va_nd isR = true) (hdis : ∀ i ∈ isR, i ∉ isC)
    (kk : ∀ (u : S) (H1 : Heap) (locs1 : List Loc), post u → va_P G vwCl (gpick ws isR ++ w1 u) H1 → va_D A (gpick ws isR ++ w1 u) → va_S A H0 H1 locs1 → W p l e R s m args below meth c H1 locs1 (cells + mc) (slots + ms) Q (F0 m (pc + 3) ls (rest))) : W p l e R s m args below meth c H locs cells slots Q (F0 m pc ls st0) := by
  have hF := va_free (wc := wc) hD hS hA isC hC
  refine va_callv run hS (fun q _ h => hF q h) hF (fun u t H1 locs1 ht hvm hw hB hz hk hS1 => ?_)
  obtain ⟨hP1, hD1⟩ := hB
  rw [ht] at hP1
  obtain ⟨hP2, hD2⟩ := va_join (wr := gpick ws isR) (w1 := w1 u) hP hD isC isR hC hR hn hdis hk hF hP1 hD1
  exact kk u H1 locs1 hw hP2 hD2 hS1
theorem gPx_blind {G : va_G} {tys : List (ClassId × FieldType)} {av : List Value} {ws : va_W} {sz : Nat} {Ex : State → Prop} (hk : gKeeps Ex) : FrameBlind (va_Pc av (fun U => gP G tys ws sz U ∧ Ex U)) := fun a U g mk q => by
  obtain ⟨q0, ⟨q1, qP, qK, qD, qX⟩, qE⟩ := q
  exact ⟨q0, ⟨q1, qP, va_K.moved (u := U) (U := U.calling g mk a) (Vm.Alike.refl U.vm) qK, qD, gEX_blind qX⟩, hk.1 U g mk a qE⟩
theorem gw_runI {y : MethodName} {bytes : ByteArray} {maxL nL n index k mc ms : Nat} {wd wd' : List Cond} {Qc : Array Value → State → Outcome → State → Prop} {free : Addr → Prop} {Ts : List Cond} {own : String} {b : Nat} {As : List Value} {wc : va_W} {Ex : State → Prop} (F : CallFix p m c cc nL s args Ts own) (hM : Met l y wd (gRc k mc ms) (va_Pc (.ref b :: As) (fun U => gP G tys wc H.size U ∧ Ex U)) Qc mc ms free) (hG : GoodIn Ts wd) (hw : wd = Cond.code y bytes maxL none :: wd') (hini : (Cond.initialized y.cls).before args s = true) (hlk : (Cond.methodLink own index y).before args s = true) (hinm : (Cond.instanceMethod y).before args s = true) (hy1 : y.name = "<init>") (hd : y.cls ≠ "java/lang/invoke/MethodHandle" ∧ y.cls ≠ "java/lang/invoke/VarHandle" ∧ (parseMethodDescriptor y.desc).map (fun d => d.parameters.length) = some n) (hR : k + 1 ≤ R.frames ∧ 8 + (maxL + 11) + 100 * k ≤ R.locals) (hK : va_K G vwCl tys s) (hP : va_P G vwCl ws H) (hD : va_D A ws) (isC : List Nat) (hC1 : isC.filterMap (fun i => ws[i]?) = wc) (hC2 : va_nd isC = true) (hC : isC.map (fun i => ws[i]?) = wc.map some) (hkE : gKeeps Ex) (hE : Ex s) (hX : gEX G A s) (hS : va_S A s.heap H locs) (hA : ∀ q, s.heap.size ≤ q → A q) (hn : As.length = n) (hsize : ls.size = nL) (hst : st0 = As.reverse ++ .ref b :: rest) (hW : (rest.map fun v => v.category).sum ≤ 8) (hdg : decode cc pc = .ok (.invokespecial index, 3)) (hf : cells + mc ≤ R.cells ∧ slots + ms ≤ R.slots) : va_Run p l e R s m args below meth c H locs cells slots mc ms (F0 m pc ls st0) rest (Qc (Value.ref b :: As).toArray) free :=
  have hPc := hP.sub isC hC1
  have hDc := hD.sub isC hC2 hC
  va_runI F hM (cwI n F.2.2.2.2 hG hw rfl rfl hini hlk hinm hy1 hd hR) ⟨gPx_blind hkE, fun U hU hWm => ⟨rfl, ⟨by rw [hU], by rw [hU]; exact hPc, va_K.moved hWm.alike hK, hDc.weaken (fun _ _ _ _ => trivial), gEX_step hX hS hWm hU (va_free hD hS hA isC hC)⟩, hkE.2 s U hWm hE⟩⟩ rfl hn hsize hst (lv_room hW) hdg hf
theorem gw_runIN {y : MethodName} {bytes : ByteArray} {maxL nL n index k mc ms : Nat} {wd wd' : List Cond} {Qc : Array Value → State → Outcome → State → Prop} {free : Addr → Prop} {Ts : List Cond} {own host : String} {b : Nat} {As : List Value} {wc : va_W} {Ex : State → Prop} (F : CallFix p m c cc nL s args Ts own) (hM : Met l y wd (gRc k mc ms) (va_Pc (.ref b :: As) (fun U => gP G tys wc H.size U ∧ Ex U)) Qc mc ms free) (hG : GoodIn Ts wd) (hw : wd = Cond.code y bytes maxL none :: wd') (hini : (Cond.initialized y.cls).before args s = true) (hlk : va_Nw (.methodLinkNest own index y host) s) (hinm : (Cond.instanceMethod y).before args s = true) (hy1 : y.name = "<init>") (hd : y.cls ≠ "java/lang/invoke/MethodHandle" ∧ y.cls ≠ "java/lang/invoke/VarHandle" ∧ (parseMethodDescriptor y.desc).map (fun d => d.parameters.length) = some n) (hR : k + 1 ≤ R.frames ∧ 8 + (maxL + 11) + 100 * k ≤ R.locals) (hK : va_K G vwCl tys s) (hP : va_P G vwCl ws H) (hD : va_D A ws) (isC : List Nat) (hC1 : isC.filterMap (fun i => ws[i]?) = wc) (hC2 : va_nd isC = true) (hC : isC.map (fun i => ws[i]?) = wc.map some) (hkE : gKeeps Ex) (hE : Ex s) (hX : gEX G A s) (hS : va_S A s.heap H locs) (hA : ∀ q, s.heap.size ≤ q → A q) (hn : As.length = n) (hsize : ls.size = nL) (hst : st0 = As.reverse ++ .ref b :: rest) (hW : (rest.map fun v => v.category).sum ≤ 8) (hdg : decode cc pc = .ok (.invokespecial index, 3)) (hf : cells + mc ≤ R.cells ∧ slots + ms ≤ R.slots) : va_Run p l e R s m args below meth c H locs cells slots mc ms (F0 m pc ls st0) rest (Qc (Value.ref b :: As).toArray) free :=
  have hPc := hP.sub isC hC1
  have hDc := hD.sub isC hC2 hC
  va_runIN F hM ⟨va_cnB n F.2.2.2.2 hG hw rfl rfl hlk hini hd hR, hy1, hinm⟩ ⟨gPx_blind hkE, fun U hU hWm => ⟨rfl, ⟨by rw [hU], by rw [hU]; exact hPc, va_K.moved hWm.alike hK, hDc.weaken (fun _ _ _ _ => trivial), gEX_step hX hS hWm hU (va_free hD hS hA isC hC)⟩, hkE.2 s U hWm hE⟩⟩ rfl hn hsize hst (lv_room hW) hdg hf
end GC
theorem gK_true : gKeeps (fun _ => True) := ⟨fun _ _ _ _ h => h, fun _ _ _ h => h⟩
theorem gK_and {E F : State → Prop} (hE : gKeeps E) (hF : gKeeps F) : gKeeps (fun U => E U ∧ F U) := ⟨fun U g mk a h => ⟨hE.1 U g mk a h.1, hF.1 U g mk a h.2⟩, fun s U hW h => ⟨hE.2 s U hW h.1, hF.2 s U hW h.2⟩⟩
theorem gK_nest (own : String) (ix : Nat) (y : MethodName) (host : String) : gKeeps (va_Nw (.methodLinkNest own ix y host)) := ⟨fun U g mk a h => va_Nw.same rfl (u := U) (U := U.calling g mk a) rfl h, fun _ _ hW h => va_Nw.warmM hW h⟩
theorem gK_over (C : String) : gKeeps (va_AO C) := ⟨fun U g mk a h => va_AO.moved (u := U) (U := U.calling g mk a) (Vm.Alike.refl U.vm) h, fun _ _ hW h => va_AO.moved hW.alike h⟩
/-! a heap as a value: ints by object and field, rows by object and field; longs likewise -/
abbrev HS : Type := (Nat → Nat → Int32) × (Nat → Nat → Nat → Int32) × (Nat → Nat → Int64) × (Nat → Nat → Nat → Int64)
def eI (h : HS) (o k : Nat) : Int32 := h.1 o k
def eA (h : HS) (o k : Nat) : Nat → Int32 := h.2.1 o k
def eL (h : HS) (o k : Nat) : Int64 := h.2.2.1 o k
def eJ (h : HS) (o k : Nat) : Nat → Int64 := h.2.2.2 o k
def sI (h : HS) (o k : Nat) (x : Int32) : HS := (fun a b => if a = o then (if b = k then x else h.1 a b) else h.1 a b, h.2)
def sA (h : HS) (o k : Nat) (x : Nat → Int32) : HS := (h.1, fun a b => if a = o then (if b = k then x else h.2.1 a b) else h.2.1 a b, h.2.2)
def sL (h : HS) (o k : Nat) (x : Int64) : HS := (h.1, h.2.1, fun a b => if a = o then (if b = k then x else h.2.2.1 a b) else h.2.2.1 a b, h.2.2.2)
def sJ (h : HS) (o k : Nat) (x : Nat → Int64) : HS := (h.1, h.2.1, h.2.2.1, fun a b => if a = o then (if b = k then x else h.2.2.2 a b) else h.2.2.2 a b)
theorem ob_if {α : Type} {c : Prop} [Decidable c] {x : Option α} {y : α} (h : (if c then x else none) = some y) : c ∧ x = some y := by
  by_cases hc : c
  · rw [if_pos hc] at h; exact ⟨hc, h⟩
  · rw [if_neg hc] at h; cases h
theorem ob_pos {α : Type} {c : Prop} [Decidable c] {x y z : α} (hc : c) (h : (if c then x else y) = z) : x = z := by rw [if_pos hc] at h; exact h
theorem ob_neg {α : Type} {c : Prop} [Decidable c] {x y z : α} (hc : ¬ c) (h : (if c then x else y) = z) : y = z := by rw [if_neg hc] at h; exact h
def ob2 {α β γ : Type} (x : Option (α × β)) (g : α → β → Option γ) : Option γ := match x with
  | none => none
  | some (a, b) => g a b
def ob1 {α γ : Type} (x : Option α) (g : α → Option γ) : Option γ := match x with
  | none => none
  | some a => g a
theorem ob2_some {α β γ : Type} {x : Option (α × β)} {g : α → β → Option γ} {y : γ} (h : ob2 x g = some y) : ∃ a b, x = some (a, b) ∧ g a b = some y := by
  cases x with
  | none => cases h
  | some z => exact ⟨z.1, z.2, rfl, h⟩
theorem ob1_some {α γ : Type} {x : Option α} {g : α → Option γ} {y : γ} (h : ob1 x g = some y) : ∃ a, x = some a ∧ g a = some y := by
  cases x with
  | none => cases h
  | some z => exact ⟨z, rfl, h⟩
theorem ob_pair {α β : Type} {a c : α} {b d : β} (h : some (a, b) = some (c, d)) : c = a ∧ d = b := by cases h; exact ⟨rfl, rfl⟩
theorem ob_one {α : Type} {a c : α} (h : some a = some c) : c = a := by cases h; rfl
def wC (q : Nat → Nat) (cI cJ cZ cB cT : ClassId) (h : HS) : va_W := [((q 0), .inr (8, [.ref (q 1), .ref (q 5), .ref (q 9), .ref (q 11), .ref (q 15), .ref (q 16), .ref (q 20), .ref (q 23)])), ((q 1), .inr (4, [.ref (q 2), .ref (q 3), .ref (q 4), .int (eI h 1 3), .int (eI h 1 4), .int (eI h 1 5), .int (eI h 1 6), .int (eI h 1 7), .int (eI h 1 8), .int (eI h 1 9), .int (eI h 1 10), .int (eI h 1 11), .int (eI h 1 12)])), ((q 2), .inl (cI, 90, .inl (eA h 1 0))), ((q 3), .inl (cI, 12, .inl (eA h 1 1))), ((q 4), .inl (cI, 1880, .inl (eA h 1 2))), ((q 5), .inr (4, [.ref (q 6), .ref (q 7), .ref (q 8), .int (eI h 2 3), .int (eI h 2 4), .int (eI h 2 5), .int (eI h 2 6), .int (eI h 2 7), .int (eI h 2 8), .int (eI h 2 9), .int (eI h 2 10), .int (eI h 2 11), .int (eI h 2 12)])), ((q 6), .inl (cI, 90, .inl (eA h 2 0))), ((q 7), .inl (cI, 12, .inl (eA h 2 1))), ((q 8), .inl (cI, 1880, .inl (eA h 2 2))), ((q 9), .inr (5, [.ref (q 10), .int (eI h 3 1)])), ((q 10), .inl (cI, 300, .inl (eA h 3 0))), ((q 11), .inr (7, [.ref (q 12), .ref (q 13), .ref (q 14), .int (eI h 4 3), .int (eI h 4 4)])), ((q 12), .inl (cI, 301, .inl (eA h 4 0))), ((q 13), .inl (cI, 301, .inl (eA h 4 1))), ((q 14), .inl (cI, 301, .inl (eA h 4 2))), ((q 15), .inr (2, [.int (eI h 5 0), .int (eI h 5 1), .int (eI h 5 2)])), ((q 16), .inr (1, [.ref (q 17), .ref (q 18), .ref (q 19), .int (eI h 6 3)])), ((q 17), .inl (cT, 4, .inr (.inr (.inr (.inr (va_up (va_up (va_up (va_up (fun _ => none) 0 (some (q 32))) 1 (some (q 37))) 2 (some (q 42))) 3 (some (q 47)))))))), ((q 18), .inl (cI, 9, .inl (eA h 6 1))), ((q 19), .inl (cI, 40, .inl (eA h 6 2))), ((q 20), .inr (0, [.int (eI h 7 0), .long (eL h 7 1), .ref (q 21), .ref (q 22)])), ((q 21), .inl (cJ, 16, .inr (.inl (eJ h 7 2)))), ((q 22), .inl (cJ, 16, .inr (.inl (eJ h 7 3)))), ((q 23), .inr (3, [.ref (q 24), .ref (q 25), .ref (q 26), .ref (q 27), .ref (q 28), .ref (q 29), .ref (q 30), .ref (q 31), .int (eI h 8 8), .long (eL h 8 9), .int (eI h 8 10), .int (eI h 8 11), .int (eI h 8 12), .int (eI h 8 13), .long (eL h 8 14), .int (eI h 8 15)])), ((q 24), .inl (cI, 150, .inl (eA h 8 0))), ((q 25), .inl (cI, 150, .inl (eA h 8 1))), ((q 26), .inl (cZ, 10, .inl (eA h 8 2))), ((q 27), .inl (cI, 3, .inl (eA h 8 3))), ((q 28), .inl (cI, 3, .inl (eA h 8 4))), ((q 29), .inl (cI, 3, .inl (eA h 8 5))), ((q 30), .inl (cI, 3, .inl (eA h 8 6))), ((q 31), .inl (cI, 3, .inl (eA h 8 7))), ((q 32), .inr (6, [.ref (q 33), .int (eI h 9 1), .ref (q 34), .ref (q 35), .ref (q 36), .int (eI h 9 5)])), ((q 33), .inl (cI, 96, .inl (eA h 9 0))), ((q 34), .inl (cI, 300, .inl (eA h 9 2))), ((q 35), .inl (cI, 4, .inl (eA h 9 3))), ((q 36), .inl (cI, 4, .inl (eA h 9 4))), ((q 37), .inr (6, [.ref (q 38), .int (eI h 10 1), .ref (q 39), .ref (q 40), .ref (q 41), .int (eI h 10 5)])), ((q 38), .inl (cI, 96, .inl (eA h 10 0))), ((q 39), .inl (cI, 300, .inl (eA h 10 2))), ((q 40), .inl (cI, 4, .inl (eA h 10 3))), ((q 41), .inl (cI, 4, .inl (eA h 10 4))), ((q 42), .inr (6, [.ref (q 43), .int (eI h 11 1), .ref (q 44), .ref (q 45), .ref (q 46), .int (eI h 11 5)])), ((q 43), .inl (cI, 96, .inl (eA h 11 0))), ((q 44), .inl (cI, 300, .inl (eA h 11 2))), ((q 45), .inl (cI, 4, .inl (eA h 11 3))), ((q 46), .inl (cI, 4, .inl (eA h 11 4))), ((q 47), .inr (6, [.ref (q 48), .int (eI h 12 1), .ref (q 49), .ref (q 50), .ref (q 51), .int (eI h 12 5)])), ((q 48), .inl (cI, 96, .inl (eA h 12 0))), ((q 49), .inl (cI, 300, .inl (eA h 12 2))), ((q 50), .inl (cI, 4, .inl (eA h 12 3))), ((q 51), .inl (cI, 4, .inl (eA h 12 4)))]
theorem wC_at0 {q : Nat → Nat} {cI cJ cZ cB cT : ClassId} {h : HS} : (wC q cI cJ cZ cB cT h)[0]? = some ((q 0), .inr (8, [.ref (q 1), .ref (q 5), .ref (q 9), .ref (q 11), .ref (q 15), .ref (q 16), .ref (q 20), .ref (q 23)])) := rfl
theorem wC_at1 {q : Nat → Nat} {cI cJ cZ cB cT : ClassId} {h : HS} : (wC q cI cJ cZ cB cT h)[1]? = some ((q 1), .inr (4, [.ref (q 2), .ref (q 3), .ref (q 4), .int (eI h 1 3), .int (eI h 1 4), .int (eI h 1 5), .int (eI h 1 6), .int (eI h 1 7), .int (eI h 1 8), .int (eI h 1 9), .int (eI h 1 10), .int (eI h 1 11), .int (eI h 1 12)])) := rfl
theorem wC_sI1_3 {q : Nat → Nat} {cI cJ cZ cB cT : ClassId} {h : HS} {x : Int32} : (wC q cI cJ cZ cB cT h).set 1 ((q 1), .inr (4, ([.ref (q 2), .ref (q 3), .ref (q 4), .int (eI h 1 3), .int (eI h 1 4), .int (eI h 1 5), .int (eI h 1 6), .int (eI h 1 7), .int (eI h 1 8), .int (eI h 1 9), .int (eI h 1 10), .int (eI h 1 11), .int (eI h 1 12)] : List Value).set 3 (.int x))) = wC q cI cJ cZ cB cT (sI h 1 3 x) := rfl
theorem wC_sI1_4 {q : Nat → Nat} {cI cJ cZ cB cT : ClassId} {h : HS} {x : Int32} : (wC q cI cJ cZ cB cT h).set 1 ((q 1), .inr (4, ([.ref (q 2), .ref (q 3), .ref (q 4), .int (eI h 1 3), .int (eI h 1 4), .int (eI h 1 5), .int (eI h 1 6), .int (eI h 1 7), .int (eI h 1 8), .int (eI h 1 9), .int (eI h 1 10), .int (eI h 1 11), .int (eI h 1 12)] : List Value).set 4 (.int x))) = wC q cI cJ cZ cB cT (sI h 1 4 x) := rfl
theorem wC_sI1_5 {q : Nat → Nat} {cI cJ cZ cB cT : ClassId} {h : HS} {x : Int32} : (wC q cI cJ cZ cB cT h).set 1 ((q 1), .inr (4, ([.ref (q 2), .ref (q 3), .ref (q 4), .int (eI h 1 3), .int (eI h 1 4), .int (eI h 1 5), .int (eI h 1 6), .int (eI h 1 7), .int (eI h 1 8), .int (eI h 1 9), .int (eI h 1 10), .int (eI h 1 11), .int (eI h 1 12)] : List Value).set 5 (.int x))) = wC q cI cJ cZ cB cT (sI h 1 5 x) := rfl
theorem wC_sI1_6 {q : Nat → Nat} {cI cJ cZ cB cT : ClassId} {h : HS} {x : Int32} : (wC q cI cJ cZ cB cT h).set 1 ((q 1), .inr (4, ([.ref (q 2), .ref (q 3), .ref (q 4), .int (eI h 1 3), .int (eI h 1 4), .int (eI h 1 5), .int (eI h 1 6), .int (eI h 1 7), .int (eI h 1 8), .int (eI h 1 9), .int (eI h 1 10), .int (eI h 1 11), .int (eI h 1 12)] : List Value).set 6 (.int x))) = wC q cI cJ cZ cB cT (sI h 1 6 x) := rfl
theorem wC_sI1_7 {q : Nat → Nat} {cI cJ cZ cB cT : ClassId} {h : HS} {x : Int32} : (wC q cI cJ cZ cB cT h).set 1 ((q 1), .inr (4, ([.ref (q 2), .ref (q 3), .ref (q 4), .int (eI h 1 3), .int (eI h 1 4), .int (eI h 1 5), .int (eI h 1 6), .int (eI h 1 7), .int (eI h 1 8), .int (eI h 1 9), .int (eI h 1 10), .int (eI h 1 11), .int (eI h 1 12)] : List Value).set 7 (.int x))) = wC q cI cJ cZ cB cT (sI h 1 7 x) := rfl
theorem wC_sI1_8 {q : Nat → Nat} {cI cJ cZ cB cT : ClassId} {h : HS} {x : Int32} : (wC q cI cJ cZ cB cT h).set 1 ((q 1), .inr (4, ([.ref (q 2), .ref (q 3), .ref (q 4), .int (eI h 1 3), .int (eI h 1 4), .int (eI h 1 5), .int (eI h 1 6), .int (eI h 1 7), .int (eI h 1 8), .int (eI h 1 9), .int (eI h 1 10), .int (eI h 1 11), .int (eI h 1 12)] : List Value).set 8 (.int x))) = wC q cI cJ cZ cB cT (sI h 1 8 x) := rfl
theorem wC_sI1_9 {q : Nat → Nat} {cI cJ cZ cB cT : ClassId} {h : HS} {x : Int32} : (wC q cI cJ cZ cB cT h).set 1 ((q 1), .inr (4, ([.ref (q 2), .ref (q 3), .ref (q 4), .int (eI h 1 3), .int (eI h 1 4), .int (eI h 1 5), .int (eI h 1 6), .int (eI h 1 7), .int (eI h 1 8), .int (eI h 1 9), .int (eI h 1 10), .int (eI h 1 11), .int (eI h 1 12)] : List Value).set 9 (.int x))) = wC q cI cJ cZ cB cT (sI h 1 9 x) := rfl
theorem wC_sI1_10 {q : Nat → Nat} {cI cJ cZ cB cT : ClassId} {h : HS} {x : Int32} : (wC q cI cJ cZ cB cT h).set 1 ((q 1), .inr (4, ([.ref (q 2), .ref (q 3), .ref (q 4), .int (eI h 1 3), .int (eI h 1 4), .int (eI h 1 5), .int (eI h 1 6), .int (eI h 1 7), .int (eI h 1 8), .int (eI h 1 9), .int (eI h 1 10), .int (eI h 1 11), .int (eI h 1 12)] : List Value).set 10 (.int x))) = wC q cI cJ cZ cB cT (sI h 1 10 x) := rfl
theorem wC_sI1_11 {q : Nat → Nat} {cI cJ cZ cB cT : ClassId} {h : HS} {x : Int32} : (wC q cI cJ cZ cB cT h).set 1 ((q 1), .inr (4, ([.ref (q 2), .ref (q 3), .ref (q 4), .int (eI h 1 3), .int (eI h 1 4), .int (eI h 1 5), .int (eI h 1 6), .int (eI h 1 7), .int (eI h 1 8), .int (eI h 1 9), .int (eI h 1 10), .int (eI h 1 11), .int (eI h 1 12)] : List Value).set 11 (.int x))) = wC q cI cJ cZ cB cT (sI h 1 11 x) := rfl
theorem wC_sI1_12 {q : Nat → Nat} {cI cJ cZ cB cT : ClassId} {h : HS} {x : Int32} : (wC q cI cJ cZ cB cT h).set 1 ((q 1), .inr (4, ([.ref (q 2), .ref (q 3), .ref (q 4), .int (eI h 1 3), .int (eI h 1 4), .int (eI h 1 5), .int (eI h 1 6), .int (eI h 1 7), .int (eI h 1 8), .int (eI h 1 9), .int (eI h 1 10), .int (eI h 1 11), .int (eI h 1 12)] : List Value).set 12 (.int x))) = wC q cI cJ cZ cB cT (sI h 1 12 x) := rfl
theorem wC_at2 {q : Nat → Nat} {cI cJ cZ cB cT : ClassId} {h : HS} : (wC q cI cJ cZ cB cT h)[2]? = some ((q 2), .inl (cI, 90, .inl (eA h 1 0))) := rfl
theorem wC_sA2 {q : Nat → Nat} {cI cJ cZ cB cT : ClassId} {h : HS} {x : Nat → Int32} : (wC q cI cJ cZ cB cT h).set 2 ((q 2), .inl (cI, 90, .inl x)) = wC q cI cJ cZ cB cT (sA h 1 0 x) := rfl
theorem wC_at3 {q : Nat → Nat} {cI cJ cZ cB cT : ClassId} {h : HS} : (wC q cI cJ cZ cB cT h)[3]? = some ((q 3), .inl (cI, 12, .inl (eA h 1 1))) := rfl
theorem wC_sA3 {q : Nat → Nat} {cI cJ cZ cB cT : ClassId} {h : HS} {x : Nat → Int32} : (wC q cI cJ cZ cB cT h).set 3 ((q 3), .inl (cI, 12, .inl x)) = wC q cI cJ cZ cB cT (sA h 1 1 x) := rfl
theorem wC_at4 {q : Nat → Nat} {cI cJ cZ cB cT : ClassId} {h : HS} : (wC q cI cJ cZ cB cT h)[4]? = some ((q 4), .inl (cI, 1880, .inl (eA h 1 2))) := rfl
theorem wC_sA4 {q : Nat → Nat} {cI cJ cZ cB cT : ClassId} {h : HS} {x : Nat → Int32} : (wC q cI cJ cZ cB cT h).set 4 ((q 4), .inl (cI, 1880, .inl x)) = wC q cI cJ cZ cB cT (sA h 1 2 x) := rfl
theorem wC_at5 {q : Nat → Nat} {cI cJ cZ cB cT : ClassId} {h : HS} : (wC q cI cJ cZ cB cT h)[5]? = some ((q 5), .inr (4, [.ref (q 6), .ref (q 7), .ref (q 8), .int (eI h 2 3), .int (eI h 2 4), .int (eI h 2 5), .int (eI h 2 6), .int (eI h 2 7), .int (eI h 2 8), .int (eI h 2 9), .int (eI h 2 10), .int (eI h 2 11), .int (eI h 2 12)])) := rfl
theorem wC_sI5_3 {q : Nat → Nat} {cI cJ cZ cB cT : ClassId} {h : HS} {x : Int32} : (wC q cI cJ cZ cB cT h).set 5 ((q 5), .inr (4, ([.ref (q 6), .ref (q 7), .ref (q 8), .int (eI h 2 3), .int (eI h 2 4), .int (eI h 2 5), .int (eI h 2 6), .int (eI h 2 7), .int (eI h 2 8), .int (eI h 2 9), .int (eI h 2 10), .int (eI h 2 11), .int (eI h 2 12)] : List Value).set 3 (.int x))) = wC q cI cJ cZ cB cT (sI h 2 3 x) := rfl
theorem wC_sI5_4 {q : Nat → Nat} {cI cJ cZ cB cT : ClassId} {h : HS} {x : Int32} : (wC q cI cJ cZ cB cT h).set 5 ((q 5), .inr (4, ([.ref (q 6), .ref (q 7), .ref (q 8), .int (eI h 2 3), .int (eI h 2 4), .int (eI h 2 5), .int (eI h 2 6), .int (eI h 2 7), .int (eI h 2 8), .int (eI h 2 9), .int (eI h 2 10), .int (eI h 2 11), .int (eI h 2 12)] : List Value).set 4 (.int x))) = wC q cI cJ cZ cB cT (sI h 2 4 x) := rfl
theorem wC_sI5_5 {q : Nat → Nat} {cI cJ cZ cB cT : ClassId} {h : HS} {x : Int32} : (wC q cI cJ cZ cB cT h).set 5 ((q 5), .inr (4, ([.ref (q 6), .ref (q 7), .ref (q 8), .int (eI h 2 3), .int (eI h 2 4), .int (eI h 2 5), .int (eI h 2 6), .int (eI h 2 7), .int (eI h 2 8), .int (eI h 2 9), .int (eI h 2 10), .int (eI h 2 11), .int (eI h 2 12)] : List Value).set 5 (.int x))) = wC q cI cJ cZ cB cT (sI h 2 5 x) := rfl
theorem wC_sI5_6 {q : Nat → Nat} {cI cJ cZ cB cT : ClassId} {h : HS} {x : Int32} : (wC q cI cJ cZ cB cT h).set 5 ((q 5), .inr (4, ([.ref (q 6), .ref (q 7), .ref (q 8), .int (eI h 2 3), .int (eI h 2 4), .int (eI h 2 5), .int (eI h 2 6), .int (eI h 2 7), .int (eI h 2 8), .int (eI h 2 9), .int (eI h 2 10), .int (eI h 2 11), .int (eI h 2 12)] : List Value).set 6 (.int x))) = wC q cI cJ cZ cB cT (sI h 2 6 x) := rfl
theorem wC_sI5_7 {q : Nat → Nat} {cI cJ cZ cB cT : ClassId} {h : HS} {x : Int32} : (wC q cI cJ cZ cB cT h).set 5 ((q 5), .inr (4, ([.ref (q 6), .ref (q 7), .ref (q 8), .int (eI h 2 3), .int (eI h 2 4), .int (eI h 2 5), .int (eI h 2 6), .int (eI h 2 7), .int (eI h 2 8), .int (eI h 2 9), .int (eI h 2 10), .int (eI h 2 11), .int (eI h 2 12)] : List Value).set 7 (.int x))) = wC q cI cJ cZ cB cT (sI h 2 7 x) := rfl
theorem wC_sI5_8 {q : Nat → Nat} {cI cJ cZ cB cT : ClassId} {h : HS} {x : Int32} : (wC q cI cJ cZ cB cT h).set 5 ((q 5), .inr (4, ([.ref (q 6), .ref (q 7), .ref (q 8), .int (eI h 2 3), .int (eI h 2 4), .int (eI h 2 5), .int (eI h 2 6), .int (eI h 2 7), .int (eI h 2 8), .int (eI h 2 9), .int (eI h 2 10), .int (eI h 2 11), .int (eI h 2 12)] : List Value).set 8 (.int x))) = wC q cI cJ cZ cB cT (sI h 2 8 x) := rfl
theorem wC_sI5_9 {q : Nat → Nat} {cI cJ cZ cB cT : ClassId} {h : HS} {x : Int32} : (wC q cI cJ cZ cB cT h).set 5 ((q 5), .inr (4, ([.ref (q 6), .ref (q 7), .ref (q 8), .int (eI h 2 3), .int (eI h 2 4), .int (eI h 2 5), .int (eI h 2 6), .int (eI h 2 7), .int (eI h 2 8), .int (eI h 2 9), .int (eI h 2 10), .int (eI h 2 11), .int (eI h 2 12)] : List Value).set 9 (.int x))) = wC q cI cJ cZ cB cT (sI h 2 9 x) := rfl
theorem wC_sI5_10 {q : Nat → Nat} {cI cJ cZ cB cT : ClassId} {h : HS} {x : Int32} : (wC q cI cJ cZ cB cT h).set 5 ((q 5), .inr (4, ([.ref (q 6), .ref (q 7), .ref (q 8), .int (eI h 2 3), .int (eI h 2 4), .int (eI h 2 5), .int (eI h 2 6), .int (eI h 2 7), .int (eI h 2 8), .int (eI h 2 9), .int (eI h 2 10), .int (eI h 2 11), .int (eI h 2 12)] : List Value).set 10 (.int x))) = wC q cI cJ cZ cB cT (sI h 2 10 x) := rfl
theorem wC_sI5_11 {q : Nat → Nat} {cI cJ cZ cB cT : ClassId} {h : HS} {x : Int32} : (wC q cI cJ cZ cB cT h).set 5 ((q 5), .inr (4, ([.ref (q 6), .ref (q 7), .ref (q 8), .int (eI h 2 3), .int (eI h 2 4), .int (eI h 2 5), .int (eI h 2 6), .int (eI h 2 7), .int (eI h 2 8), .int (eI h 2 9), .int (eI h 2 10), .int (eI h 2 11), .int (eI h 2 12)] : List Value).set 11 (.int x))) = wC q cI cJ cZ cB cT (sI h 2 11 x) := rfl
theorem wC_sI5_12 {q : Nat → Nat} {cI cJ cZ cB cT : ClassId} {h : HS} {x : Int32} : (wC q cI cJ cZ cB cT h).set 5 ((q 5), .inr (4, ([.ref (q 6), .ref (q 7), .ref (q 8), .int (eI h 2 3), .int (eI h 2 4), .int (eI h 2 5), .int (eI h 2 6), .int (eI h 2 7), .int (eI h 2 8), .int (eI h 2 9), .int (eI h 2 10), .int (eI h 2 11), .int (eI h 2 12)] : List Value).set 12 (.int x))) = wC q cI cJ cZ cB cT (sI h 2 12 x) := rfl
theorem wC_at6 {q : Nat → Nat} {cI cJ cZ cB cT : ClassId} {h : HS} : (wC q cI cJ cZ cB cT h)[6]? = some ((q 6), .inl (cI, 90, .inl (eA h 2 0))) := rfl
theorem wC_sA6 {q : Nat → Nat} {cI cJ cZ cB cT : ClassId} {h : HS} {x : Nat → Int32} : (wC q cI cJ cZ cB cT h).set 6 ((q 6), .inl (cI, 90, .inl x)) = wC q cI cJ cZ cB cT (sA h 2 0 x) := rfl
theorem wC_at7 {q : Nat → Nat} {cI cJ cZ cB cT : ClassId} {h : HS} : (wC q cI cJ cZ cB cT h)[7]? = some ((q 7), .inl (cI, 12, .inl (eA h 2 1))) := rfl
theorem wC_sA7 {q : Nat → Nat} {cI cJ cZ cB cT : ClassId} {h : HS} {x : Nat → Int32} : (wC q cI cJ cZ cB cT h).set 7 ((q 7), .inl (cI, 12, .inl x)) = wC q cI cJ cZ cB cT (sA h 2 1 x) := rfl
theorem wC_at8 {q : Nat → Nat} {cI cJ cZ cB cT : ClassId} {h : HS} : (wC q cI cJ cZ cB cT h)[8]? = some ((q 8), .inl (cI, 1880, .inl (eA h 2 2))) := rfl
theorem wC_sA8 {q : Nat → Nat} {cI cJ cZ cB cT : ClassId} {h : HS} {x : Nat → Int32} : (wC q cI cJ cZ cB cT h).set 8 ((q 8), .inl (cI, 1880, .inl x)) = wC q cI cJ cZ cB cT (sA h 2 2 x) := rfl
theorem wC_at9 {q : Nat → Nat} {cI cJ cZ cB cT : ClassId} {h : HS} : (wC q cI cJ cZ cB cT h)[9]? = some ((q 9), .inr (5, [.ref (q 10), .int (eI h 3 1)])) := rfl
theorem wC_sI9_1 {q : Nat → Nat} {cI cJ cZ cB cT : ClassId} {h : HS} {x : Int32} : (wC q cI cJ cZ cB cT h).set 9 ((q 9), .inr (5, ([.ref (q 10), .int (eI h 3 1)] : List Value).set 1 (.int x))) = wC q cI cJ cZ cB cT (sI h 3 1 x) := rfl
theorem wC_at10 {q : Nat → Nat} {cI cJ cZ cB cT : ClassId} {h : HS} : (wC q cI cJ cZ cB cT h)[10]? = some ((q 10), .inl (cI, 300, .inl (eA h 3 0))) := rfl
theorem wC_sA10 {q : Nat → Nat} {cI cJ cZ cB cT : ClassId} {h : HS} {x : Nat → Int32} : (wC q cI cJ cZ cB cT h).set 10 ((q 10), .inl (cI, 300, .inl x)) = wC q cI cJ cZ cB cT (sA h 3 0 x) := rfl
theorem wC_at11 {q : Nat → Nat} {cI cJ cZ cB cT : ClassId} {h : HS} : (wC q cI cJ cZ cB cT h)[11]? = some ((q 11), .inr (7, [.ref (q 12), .ref (q 13), .ref (q 14), .int (eI h 4 3), .int (eI h 4 4)])) := rfl
theorem wC_sI11_3 {q : Nat → Nat} {cI cJ cZ cB cT : ClassId} {h : HS} {x : Int32} : (wC q cI cJ cZ cB cT h).set 11 ((q 11), .inr (7, ([.ref (q 12), .ref (q 13), .ref (q 14), .int (eI h 4 3), .int (eI h 4 4)] : List Value).set 3 (.int x))) = wC q cI cJ cZ cB cT (sI h 4 3 x) := rfl
theorem wC_sI11_4 {q : Nat → Nat} {cI cJ cZ cB cT : ClassId} {h : HS} {x : Int32} : (wC q cI cJ cZ cB cT h).set 11 ((q 11), .inr (7, ([.ref (q 12), .ref (q 13), .ref (q 14), .int (eI h 4 3), .int (eI h 4 4)] : List Value).set 4 (.int x))) = wC q cI cJ cZ cB cT (sI h 4 4 x) := rfl
theorem wC_at12 {q : Nat → Nat} {cI cJ cZ cB cT : ClassId} {h : HS} : (wC q cI cJ cZ cB cT h)[12]? = some ((q 12), .inl (cI, 301, .inl (eA h 4 0))) := rfl
theorem wC_sA12 {q : Nat → Nat} {cI cJ cZ cB cT : ClassId} {h : HS} {x : Nat → Int32} : (wC q cI cJ cZ cB cT h).set 12 ((q 12), .inl (cI, 301, .inl x)) = wC q cI cJ cZ cB cT (sA h 4 0 x) := rfl
theorem wC_at13 {q : Nat → Nat} {cI cJ cZ cB cT : ClassId} {h : HS} : (wC q cI cJ cZ cB cT h)[13]? = some ((q 13), .inl (cI, 301, .inl (eA h 4 1))) := rfl
theorem wC_sA13 {q : Nat → Nat} {cI cJ cZ cB cT : ClassId} {h : HS} {x : Nat → Int32} : (wC q cI cJ cZ cB cT h).set 13 ((q 13), .inl (cI, 301, .inl x)) = wC q cI cJ cZ cB cT (sA h 4 1 x) := rfl
theorem wC_at14 {q : Nat → Nat} {cI cJ cZ cB cT : ClassId} {h : HS} : (wC q cI cJ cZ cB cT h)[14]? = some ((q 14), .inl (cI, 301, .inl (eA h 4 2))) := rfl
theorem wC_sA14 {q : Nat → Nat} {cI cJ cZ cB cT : ClassId} {h : HS} {x : Nat → Int32} : (wC q cI cJ cZ cB cT h).set 14 ((q 14), .inl (cI, 301, .inl x)) = wC q cI cJ cZ cB cT (sA h 4 2 x) := rfl
theorem wC_at15 {q : Nat → Nat} {cI cJ cZ cB cT : ClassId} {h : HS} : (wC q cI cJ cZ cB cT h)[15]? = some ((q 15), .inr (2, [.int (eI h 5 0), .int (eI h 5 1), .int (eI h 5 2)])) := rfl
theorem wC_sI15_0 {q : Nat → Nat} {cI cJ cZ cB cT : ClassId} {h : HS} {x : Int32} : (wC q cI cJ cZ cB cT h).set 15 ((q 15), .inr (2, ([.int (eI h 5 0), .int (eI h 5 1), .int (eI h 5 2)] : List Value).set 0 (.int x))) = wC q cI cJ cZ cB cT (sI h 5 0 x) := rfl
theorem wC_sI15_1 {q : Nat → Nat} {cI cJ cZ cB cT : ClassId} {h : HS} {x : Int32} : (wC q cI cJ cZ cB cT h).set 15 ((q 15), .inr (2, ([.int (eI h 5 0), .int (eI h 5 1), .int (eI h 5 2)] : List Value).set 1 (.int x))) = wC q cI cJ cZ cB cT (sI h 5 1 x) := rfl
theorem wC_sI15_2 {q : Nat → Nat} {cI cJ cZ cB cT : ClassId} {h : HS} {x : Int32} : (wC q cI cJ cZ cB cT h).set 15 ((q 15), .inr (2, ([.int (eI h 5 0), .int (eI h 5 1), .int (eI h 5 2)] : List Value).set 2 (.int x))) = wC q cI cJ cZ cB cT (sI h 5 2 x) := rfl
theorem wC_at16 {q : Nat → Nat} {cI cJ cZ cB cT : ClassId} {h : HS} : (wC q cI cJ cZ cB cT h)[16]? = some ((q 16), .inr (1, [.ref (q 17), .ref (q 18), .ref (q 19), .int (eI h 6 3)])) := rfl
theorem wC_sI16_3 {q : Nat → Nat} {cI cJ cZ cB cT : ClassId} {h : HS} {x : Int32} : (wC q cI cJ cZ cB cT h).set 16 ((q 16), .inr (1, ([.ref (q 17), .ref (q 18), .ref (q 19), .int (eI h 6 3)] : List Value).set 3 (.int x))) = wC q cI cJ cZ cB cT (sI h 6 3 x) := rfl
theorem wC_at17 {q : Nat → Nat} {cI cJ cZ cB cT : ClassId} {h : HS} : (wC q cI cJ cZ cB cT h)[17]? = some ((q 17), .inl (cT, 4, .inr (.inr (.inr (.inr (va_up (va_up (va_up (va_up (fun _ => none) 0 (some (q 32))) 1 (some (q 37))) 2 (some (q 42))) 3 (some (q 47)))))))) := rfl
theorem wC_at18 {q : Nat → Nat} {cI cJ cZ cB cT : ClassId} {h : HS} : (wC q cI cJ cZ cB cT h)[18]? = some ((q 18), .inl (cI, 9, .inl (eA h 6 1))) := rfl
theorem wC_sA18 {q : Nat → Nat} {cI cJ cZ cB cT : ClassId} {h : HS} {x : Nat → Int32} : (wC q cI cJ cZ cB cT h).set 18 ((q 18), .inl (cI, 9, .inl x)) = wC q cI cJ cZ cB cT (sA h 6 1 x) := rfl
theorem wC_at19 {q : Nat → Nat} {cI cJ cZ cB cT : ClassId} {h : HS} : (wC q cI cJ cZ cB cT h)[19]? = some ((q 19), .inl (cI, 40, .inl (eA h 6 2))) := rfl
theorem wC_sA19 {q : Nat → Nat} {cI cJ cZ cB cT : ClassId} {h : HS} {x : Nat → Int32} : (wC q cI cJ cZ cB cT h).set 19 ((q 19), .inl (cI, 40, .inl x)) = wC q cI cJ cZ cB cT (sA h 6 2 x) := rfl
theorem wC_at20 {q : Nat → Nat} {cI cJ cZ cB cT : ClassId} {h : HS} : (wC q cI cJ cZ cB cT h)[20]? = some ((q 20), .inr (0, [.int (eI h 7 0), .long (eL h 7 1), .ref (q 21), .ref (q 22)])) := rfl
theorem wC_sI20_0 {q : Nat → Nat} {cI cJ cZ cB cT : ClassId} {h : HS} {x : Int32} : (wC q cI cJ cZ cB cT h).set 20 ((q 20), .inr (0, ([.int (eI h 7 0), .long (eL h 7 1), .ref (q 21), .ref (q 22)] : List Value).set 0 (.int x))) = wC q cI cJ cZ cB cT (sI h 7 0 x) := rfl
theorem wC_sI20_1 {q : Nat → Nat} {cI cJ cZ cB cT : ClassId} {h : HS} {x : Int64} : (wC q cI cJ cZ cB cT h).set 20 ((q 20), .inr (0, ([.int (eI h 7 0), .long (eL h 7 1), .ref (q 21), .ref (q 22)] : List Value).set 1 (.long x))) = wC q cI cJ cZ cB cT (sL h 7 1 x) := rfl
theorem wC_at21 {q : Nat → Nat} {cI cJ cZ cB cT : ClassId} {h : HS} : (wC q cI cJ cZ cB cT h)[21]? = some ((q 21), .inl (cJ, 16, .inr (.inl (eJ h 7 2)))) := rfl
theorem wC_sA21 {q : Nat → Nat} {cI cJ cZ cB cT : ClassId} {h : HS} {x : Nat → Int64} : (wC q cI cJ cZ cB cT h).set 21 ((q 21), .inl (cJ, 16, .inr (.inl x))) = wC q cI cJ cZ cB cT (sJ h 7 2 x) := rfl
theorem wC_at22 {q : Nat → Nat} {cI cJ cZ cB cT : ClassId} {h : HS} : (wC q cI cJ cZ cB cT h)[22]? = some ((q 22), .inl (cJ, 16, .inr (.inl (eJ h 7 3)))) := rfl
theorem wC_sA22 {q : Nat → Nat} {cI cJ cZ cB cT : ClassId} {h : HS} {x : Nat → Int64} : (wC q cI cJ cZ cB cT h).set 22 ((q 22), .inl (cJ, 16, .inr (.inl x))) = wC q cI cJ cZ cB cT (sJ h 7 3 x) := rfl
theorem wC_at23 {q : Nat → Nat} {cI cJ cZ cB cT : ClassId} {h : HS} : (wC q cI cJ cZ cB cT h)[23]? = some ((q 23), .inr (3, [.ref (q 24), .ref (q 25), .ref (q 26), .ref (q 27), .ref (q 28), .ref (q 29), .ref (q 30), .ref (q 31), .int (eI h 8 8), .long (eL h 8 9), .int (eI h 8 10), .int (eI h 8 11), .int (eI h 8 12), .int (eI h 8 13), .long (eL h 8 14), .int (eI h 8 15)])) := rfl
theorem wC_sI23_8 {q : Nat → Nat} {cI cJ cZ cB cT : ClassId} {h : HS} {x : Int32} : (wC q cI cJ cZ cB cT h).set 23 ((q 23), .inr (3, ([.ref (q 24), .ref (q 25), .ref (q 26), .ref (q 27), .ref (q 28), .ref (q 29), .ref (q 30), .ref (q 31), .int (eI h 8 8), .long (eL h 8 9), .int (eI h 8 10), .int (eI h 8 11), .int (eI h 8 12), .int (eI h 8 13), .long (eL h 8 14), .int (eI h 8 15)] : List Value).set 8 (.int x))) = wC q cI cJ cZ cB cT (sI h 8 8 x) := rfl
theorem wC_sI23_9 {q : Nat → Nat} {cI cJ cZ cB cT : ClassId} {h : HS} {x : Int64} : (wC q cI cJ cZ cB cT h).set 23 ((q 23), .inr (3, ([.ref (q 24), .ref (q 25), .ref (q 26), .ref (q 27), .ref (q 28), .ref (q 29), .ref (q 30), .ref (q 31), .int (eI h 8 8), .long (eL h 8 9), .int (eI h 8 10), .int (eI h 8 11), .int (eI h 8 12), .int (eI h 8 13), .long (eL h 8 14), .int (eI h 8 15)] : List Value).set 9 (.long x))) = wC q cI cJ cZ cB cT (sL h 8 9 x) := rfl
theorem wC_sI23_10 {q : Nat → Nat} {cI cJ cZ cB cT : ClassId} {h : HS} {x : Int32} : (wC q cI cJ cZ cB cT h).set 23 ((q 23), .inr (3, ([.ref (q 24), .ref (q 25), .ref (q 26), .ref (q 27), .ref (q 28), .ref (q 29), .ref (q 30), .ref (q 31), .int (eI h 8 8), .long (eL h 8 9), .int (eI h 8 10), .int (eI h 8 11), .int (eI h 8 12), .int (eI h 8 13), .long (eL h 8 14), .int (eI h 8 15)] : List Value).set 10 (.int x))) = wC q cI cJ cZ cB cT (sI h 8 10 x) := rfl
theorem wC_sI23_11 {q : Nat → Nat} {cI cJ cZ cB cT : ClassId} {h : HS} {x : Int32} : (wC q cI cJ cZ cB cT h).set 23 ((q 23), .inr (3, ([.ref (q 24), .ref (q 25), .ref (q 26), .ref (q 27), .ref (q 28), .ref (q 29), .ref (q 30), .ref (q 31), .int (eI h 8 8), .long (eL h 8 9), .int (eI h 8 10), .int (eI h 8 11), .int (eI h 8 12), .int (eI h 8 13), .long (eL h 8 14), .int (eI h 8 15)] : List Value).set 11 (.int x))) = wC q cI cJ cZ cB cT (sI h 8 11 x) := rfl
theorem wC_sI23_12 {q : Nat → Nat} {cI cJ cZ cB cT : ClassId} {h : HS} {x : Int32} : (wC q cI cJ cZ cB cT h).set 23 ((q 23), .inr (3, ([.ref (q 24), .ref (q 25), .ref (q 26), .ref (q 27), .ref (q 28), .ref (q 29), .ref (q 30), .ref (q 31), .int (eI h 8 8), .long (eL h 8 9), .int (eI h 8 10), .int (eI h 8 11), .int (eI h 8 12), .int (eI h 8 13), .long (eL h 8 14), .int (eI h 8 15)] : List Value).set 12 (.int x))) = wC q cI cJ cZ cB cT (sI h 8 12 x) := rfl
theorem wC_sI23_13 {q : Nat → Nat} {cI cJ cZ cB cT : ClassId} {h : HS} {x : Int32} : (wC q cI cJ cZ cB cT h).set 23 ((q 23), .inr (3, ([.ref (q 24), .ref (q 25), .ref (q 26), .ref (q 27), .ref (q 28), .ref (q 29), .ref (q 30), .ref (q 31), .int (eI h 8 8), .long (eL h 8 9), .int (eI h 8 10), .int (eI h 8 11), .int (eI h 8 12), .int (eI h 8 13), .long (eL h 8 14), .int (eI h 8 15)] : List Value).set 13 (.int x))) = wC q cI cJ cZ cB cT (sI h 8 13 x) := rfl
theorem wC_sI23_14 {q : Nat → Nat} {cI cJ cZ cB cT : ClassId} {h : HS} {x : Int64} : (wC q cI cJ cZ cB cT h).set 23 ((q 23), .inr (3, ([.ref (q 24), .ref (q 25), .ref (q 26), .ref (q 27), .ref (q 28), .ref (q 29), .ref (q 30), .ref (q 31), .int (eI h 8 8), .long (eL h 8 9), .int (eI h 8 10), .int (eI h 8 11), .int (eI h 8 12), .int (eI h 8 13), .long (eL h 8 14), .int (eI h 8 15)] : List Value).set 14 (.long x))) = wC q cI cJ cZ cB cT (sL h 8 14 x) := rfl
theorem wC_sI23_15 {q : Nat → Nat} {cI cJ cZ cB cT : ClassId} {h : HS} {x : Int32} : (wC q cI cJ cZ cB cT h).set 23 ((q 23), .inr (3, ([.ref (q 24), .ref (q 25), .ref (q 26), .ref (q 27), .ref (q 28), .ref (q 29), .ref (q 30), .ref (q 31), .int (eI h 8 8), .long (eL h 8 9), .int (eI h 8 10), .int (eI h 8 11), .int (eI h 8 12), .int (eI h 8 13), .long (eL h 8 14), .int (eI h 8 15)] : List Value).set 15 (.int x))) = wC q cI cJ cZ cB cT (sI h 8 15 x) := rfl
theorem wC_at24 {q : Nat → Nat} {cI cJ cZ cB cT : ClassId} {h : HS} : (wC q cI cJ cZ cB cT h)[24]? = some ((q 24), .inl (cI, 150, .inl (eA h 8 0))) := rfl
theorem wC_sA24 {q : Nat → Nat} {cI cJ cZ cB cT : ClassId} {h : HS} {x : Nat → Int32} : (wC q cI cJ cZ cB cT h).set 24 ((q 24), .inl (cI, 150, .inl x)) = wC q cI cJ cZ cB cT (sA h 8 0 x) := rfl
theorem wC_at25 {q : Nat → Nat} {cI cJ cZ cB cT : ClassId} {h : HS} : (wC q cI cJ cZ cB cT h)[25]? = some ((q 25), .inl (cI, 150, .inl (eA h 8 1))) := rfl
theorem wC_sA25 {q : Nat → Nat} {cI cJ cZ cB cT : ClassId} {h : HS} {x : Nat → Int32} : (wC q cI cJ cZ cB cT h).set 25 ((q 25), .inl (cI, 150, .inl x)) = wC q cI cJ cZ cB cT (sA h 8 1 x) := rfl
theorem wC_at26 {q : Nat → Nat} {cI cJ cZ cB cT : ClassId} {h : HS} : (wC q cI cJ cZ cB cT h)[26]? = some ((q 26), .inl (cZ, 10, .inl (eA h 8 2))) := rfl
theorem wC_sA26 {q : Nat → Nat} {cI cJ cZ cB cT : ClassId} {h : HS} {x : Nat → Int32} : (wC q cI cJ cZ cB cT h).set 26 ((q 26), .inl (cZ, 10, .inl x)) = wC q cI cJ cZ cB cT (sA h 8 2 x) := rfl
theorem wC_at27 {q : Nat → Nat} {cI cJ cZ cB cT : ClassId} {h : HS} : (wC q cI cJ cZ cB cT h)[27]? = some ((q 27), .inl (cI, 3, .inl (eA h 8 3))) := rfl
theorem wC_sA27 {q : Nat → Nat} {cI cJ cZ cB cT : ClassId} {h : HS} {x : Nat → Int32} : (wC q cI cJ cZ cB cT h).set 27 ((q 27), .inl (cI, 3, .inl x)) = wC q cI cJ cZ cB cT (sA h 8 3 x) := rfl
theorem wC_at28 {q : Nat → Nat} {cI cJ cZ cB cT : ClassId} {h : HS} : (wC q cI cJ cZ cB cT h)[28]? = some ((q 28), .inl (cI, 3, .inl (eA h 8 4))) := rfl
theorem wC_sA28 {q : Nat → Nat} {cI cJ cZ cB cT : ClassId} {h : HS} {x : Nat → Int32} : (wC q cI cJ cZ cB cT h).set 28 ((q 28), .inl (cI, 3, .inl x)) = wC q cI cJ cZ cB cT (sA h 8 4 x) := rfl
theorem wC_at29 {q : Nat → Nat} {cI cJ cZ cB cT : ClassId} {h : HS} : (wC q cI cJ cZ cB cT h)[29]? = some ((q 29), .inl (cI, 3, .inl (eA h 8 5))) := rfl
theorem wC_sA29 {q : Nat → Nat} {cI cJ cZ cB cT : ClassId} {h : HS} {x : Nat → Int32} : (wC q cI cJ cZ cB cT h).set 29 ((q 29), .inl (cI, 3, .inl x)) = wC q cI cJ cZ cB cT (sA h 8 5 x) := rfl
theorem wC_at30 {q : Nat → Nat} {cI cJ cZ cB cT : ClassId} {h : HS} : (wC q cI cJ cZ cB cT h)[30]? = some ((q 30), .inl (cI, 3, .inl (eA h 8 6))) := rfl
theorem wC_sA30 {q : Nat → Nat} {cI cJ cZ cB cT : ClassId} {h : HS} {x : Nat → Int32} : (wC q cI cJ cZ cB cT h).set 30 ((q 30), .inl (cI, 3, .inl x)) = wC q cI cJ cZ cB cT (sA h 8 6 x) := rfl
theorem wC_at31 {q : Nat → Nat} {cI cJ cZ cB cT : ClassId} {h : HS} : (wC q cI cJ cZ cB cT h)[31]? = some ((q 31), .inl (cI, 3, .inl (eA h 8 7))) := rfl
theorem wC_sA31 {q : Nat → Nat} {cI cJ cZ cB cT : ClassId} {h : HS} {x : Nat → Int32} : (wC q cI cJ cZ cB cT h).set 31 ((q 31), .inl (cI, 3, .inl x)) = wC q cI cJ cZ cB cT (sA h 8 7 x) := rfl
theorem wC_at32 {q : Nat → Nat} {cI cJ cZ cB cT : ClassId} {h : HS} : (wC q cI cJ cZ cB cT h)[32]? = some ((q 32), .inr (6, [.ref (q 33), .int (eI h 9 1), .ref (q 34), .ref (q 35), .ref (q 36), .int (eI h 9 5)])) := rfl
theorem wC_sI32_1 {q : Nat → Nat} {cI cJ cZ cB cT : ClassId} {h : HS} {x : Int32} : (wC q cI cJ cZ cB cT h).set 32 ((q 32), .inr (6, ([.ref (q 33), .int (eI h 9 1), .ref (q 34), .ref (q 35), .ref (q 36), .int (eI h 9 5)] : List Value).set 1 (.int x))) = wC q cI cJ cZ cB cT (sI h 9 1 x) := rfl
theorem wC_sI32_5 {q : Nat → Nat} {cI cJ cZ cB cT : ClassId} {h : HS} {x : Int32} : (wC q cI cJ cZ cB cT h).set 32 ((q 32), .inr (6, ([.ref (q 33), .int (eI h 9 1), .ref (q 34), .ref (q 35), .ref (q 36), .int (eI h 9 5)] : List Value).set 5 (.int x))) = wC q cI cJ cZ cB cT (sI h 9 5 x) := rfl
theorem wC_at33 {q : Nat → Nat} {cI cJ cZ cB cT : ClassId} {h : HS} : (wC q cI cJ cZ cB cT h)[33]? = some ((q 33), .inl (cI, 96, .inl (eA h 9 0))) := rfl
theorem wC_sA33 {q : Nat → Nat} {cI cJ cZ cB cT : ClassId} {h : HS} {x : Nat → Int32} : (wC q cI cJ cZ cB cT h).set 33 ((q 33), .inl (cI, 96, .inl x)) = wC q cI cJ cZ cB cT (sA h 9 0 x) := rfl
theorem wC_at34 {q : Nat → Nat} {cI cJ cZ cB cT : ClassId} {h : HS} : (wC q cI cJ cZ cB cT h)[34]? = some ((q 34), .inl (cI, 300, .inl (eA h 9 2))) := rfl
theorem wC_sA34 {q : Nat → Nat} {cI cJ cZ cB cT : ClassId} {h : HS} {x : Nat → Int32} : (wC q cI cJ cZ cB cT h).set 34 ((q 34), .inl (cI, 300, .inl x)) = wC q cI cJ cZ cB cT (sA h 9 2 x) := rfl
theorem wC_at35 {q : Nat → Nat} {cI cJ cZ cB cT : ClassId} {h : HS} : (wC q cI cJ cZ cB cT h)[35]? = some ((q 35), .inl (cI, 4, .inl (eA h 9 3))) := rfl
theorem wC_sA35 {q : Nat → Nat} {cI cJ cZ cB cT : ClassId} {h : HS} {x : Nat → Int32} : (wC q cI cJ cZ cB cT h).set 35 ((q 35), .inl (cI, 4, .inl x)) = wC q cI cJ cZ cB cT (sA h 9 3 x) := rfl
theorem wC_at36 {q : Nat → Nat} {cI cJ cZ cB cT : ClassId} {h : HS} : (wC q cI cJ cZ cB cT h)[36]? = some ((q 36), .inl (cI, 4, .inl (eA h 9 4))) := rfl
theorem wC_sA36 {q : Nat → Nat} {cI cJ cZ cB cT : ClassId} {h : HS} {x : Nat → Int32} : (wC q cI cJ cZ cB cT h).set 36 ((q 36), .inl (cI, 4, .inl x)) = wC q cI cJ cZ cB cT (sA h 9 4 x) := rfl
theorem wC_at37 {q : Nat → Nat} {cI cJ cZ cB cT : ClassId} {h : HS} : (wC q cI cJ cZ cB cT h)[37]? = some ((q 37), .inr (6, [.ref (q 38), .int (eI h 10 1), .ref (q 39), .ref (q 40), .ref (q 41), .int (eI h 10 5)])) := rfl
theorem wC_sI37_1 {q : Nat → Nat} {cI cJ cZ cB cT : ClassId} {h : HS} {x : Int32} : (wC q cI cJ cZ cB cT h).set 37 ((q 37), .inr (6, ([.ref (q 38), .int (eI h 10 1), .ref (q 39), .ref (q 40), .ref (q 41), .int (eI h 10 5)] : List Value).set 1 (.int x))) = wC q cI cJ cZ cB cT (sI h 10 1 x) := rfl
theorem wC_sI37_5 {q : Nat → Nat} {cI cJ cZ cB cT : ClassId} {h : HS} {x : Int32} : (wC q cI cJ cZ cB cT h).set 37 ((q 37), .inr (6, ([.ref (q 38), .int (eI h 10 1), .ref (q 39), .ref (q 40), .ref (q 41), .int (eI h 10 5)] : List Value).set 5 (.int x))) = wC q cI cJ cZ cB cT (sI h 10 5 x) := rfl
theorem wC_at38 {q : Nat → Nat} {cI cJ cZ cB cT : ClassId} {h : HS} : (wC q cI cJ cZ cB cT h)[38]? = some ((q 38), .inl (cI, 96, .inl (eA h 10 0))) := rfl
theorem wC_sA38 {q : Nat → Nat} {cI cJ cZ cB cT : ClassId} {h : HS} {x : Nat → Int32} : (wC q cI cJ cZ cB cT h).set 38 ((q 38), .inl (cI, 96, .inl x)) = wC q cI cJ cZ cB cT (sA h 10 0 x) := rfl
theorem wC_at39 {q : Nat → Nat} {cI cJ cZ cB cT : ClassId} {h : HS} : (wC q cI cJ cZ cB cT h)[39]? = some ((q 39), .inl (cI, 300, .inl (eA h 10 2))) := rfl
theorem wC_sA39 {q : Nat → Nat} {cI cJ cZ cB cT : ClassId} {h : HS} {x : Nat → Int32} : (wC q cI cJ cZ cB cT h).set 39 ((q 39), .inl (cI, 300, .inl x)) = wC q cI cJ cZ cB cT (sA h 10 2 x) := rfl
theorem wC_at40 {q : Nat → Nat} {cI cJ cZ cB cT : ClassId} {h : HS} : (wC q cI cJ cZ cB cT h)[40]? = some ((q 40), .inl (cI, 4, .inl (eA h 10 3))) := rfl
theorem wC_sA40 {q : Nat → Nat} {cI cJ cZ cB cT : ClassId} {h : HS} {x : Nat → Int32} : (wC q cI cJ cZ cB cT h).set 40 ((q 40), .inl (cI, 4, .inl x)) = wC q cI cJ cZ cB cT (sA h 10 3 x) := rfl
theorem wC_at41 {q : Nat → Nat} {cI cJ cZ cB cT : ClassId} {h : HS} : (wC q cI cJ cZ cB cT h)[41]? = some ((q 41), .inl (cI, 4, .inl (eA h 10 4))) := rfl
theorem wC_sA41 {q : Nat → Nat} {cI cJ cZ cB cT : ClassId} {h : HS} {x : Nat → Int32} : (wC q cI cJ cZ cB cT h).set 41 ((q 41), .inl (cI, 4, .inl x)) = wC q cI cJ cZ cB cT (sA h 10 4 x) := rfl
theorem wC_at42 {q : Nat → Nat} {cI cJ cZ cB cT : ClassId} {h : HS} : (wC q cI cJ cZ cB cT h)[42]? = some ((q 42), .inr (6, [.ref (q 43), .int (eI h 11 1), .ref (q 44), .ref (q 45), .ref (q 46), .int (eI h 11 5)])) := rfl
theorem wC_sI42_1 {q : Nat → Nat} {cI cJ cZ cB cT : ClassId} {h : HS} {x : Int32} : (wC q cI cJ cZ cB cT h).set 42 ((q 42), .inr (6, ([.ref (q 43), .int (eI h 11 1), .ref (q 44), .ref (q 45), .ref (q 46), .int (eI h 11 5)] : List Value).set 1 (.int x))) = wC q cI cJ cZ cB cT (sI h 11 1 x) := rfl
theorem wC_sI42_5 {q : Nat → Nat} {cI cJ cZ cB cT : ClassId} {h : HS} {x : Int32} : (wC q cI cJ cZ cB cT h).set 42 ((q 42), .inr (6, ([.ref (q 43), .int (eI h 11 1), .ref (q 44), .ref (q 45), .ref (q 46), .int (eI h 11 5)] : List Value).set 5 (.int x))) = wC q cI cJ cZ cB cT (sI h 11 5 x) := rfl
theorem wC_at43 {q : Nat → Nat} {cI cJ cZ cB cT : ClassId} {h : HS} : (wC q cI cJ cZ cB cT h)[43]? = some ((q 43), .inl (cI, 96, .inl (eA h 11 0))) := rfl
theorem wC_sA43 {q : Nat → Nat} {cI cJ cZ cB cT : ClassId} {h : HS} {x : Nat → Int32} : (wC q cI cJ cZ cB cT h).set 43 ((q 43), .inl (cI, 96, .inl x)) = wC q cI cJ cZ cB cT (sA h 11 0 x) := rfl
theorem wC_at44 {q : Nat → Nat} {cI cJ cZ cB cT : ClassId} {h : HS} : (wC q cI cJ cZ cB cT h)[44]? = some ((q 44), .inl (cI, 300, .inl (eA h 11 2))) := rfl
theorem wC_sA44 {q : Nat → Nat} {cI cJ cZ cB cT : ClassId} {h : HS} {x : Nat → Int32} : (wC q cI cJ cZ cB cT h).set 44 ((q 44), .inl (cI, 300, .inl x)) = wC q cI cJ cZ cB cT (sA h 11 2 x) := rfl
theorem wC_at45 {q : Nat → Nat} {cI cJ cZ cB cT : ClassId} {h : HS} : (wC q cI cJ cZ cB cT h)[45]? = some ((q 45), .inl (cI, 4, .inl (eA h 11 3))) := rfl
theorem wC_sA45 {q : Nat → Nat} {cI cJ cZ cB cT : ClassId} {h : HS} {x : Nat → Int32} : (wC q cI cJ cZ cB cT h).set 45 ((q 45), .inl (cI, 4, .inl x)) = wC q cI cJ cZ cB cT (sA h 11 3 x) := rfl
theorem wC_at46 {q : Nat → Nat} {cI cJ cZ cB cT : ClassId} {h : HS} : (wC q cI cJ cZ cB cT h)[46]? = some ((q 46), .inl (cI, 4, .inl (eA h 11 4))) := rfl
theorem wC_sA46 {q : Nat → Nat} {cI cJ cZ cB cT : ClassId} {h : HS} {x : Nat → Int32} : (wC q cI cJ cZ cB cT h).set 46 ((q 46), .inl (cI, 4, .inl x)) = wC q cI cJ cZ cB cT (sA h 11 4 x) := rfl
theorem wC_at47 {q : Nat → Nat} {cI cJ cZ cB cT : ClassId} {h : HS} : (wC q cI cJ cZ cB cT h)[47]? = some ((q 47), .inr (6, [.ref (q 48), .int (eI h 12 1), .ref (q 49), .ref (q 50), .ref (q 51), .int (eI h 12 5)])) := rfl
theorem wC_sI47_1 {q : Nat → Nat} {cI cJ cZ cB cT : ClassId} {h : HS} {x : Int32} : (wC q cI cJ cZ cB cT h).set 47 ((q 47), .inr (6, ([.ref (q 48), .int (eI h 12 1), .ref (q 49), .ref (q 50), .ref (q 51), .int (eI h 12 5)] : List Value).set 1 (.int x))) = wC q cI cJ cZ cB cT (sI h 12 1 x) := rfl
theorem wC_sI47_5 {q : Nat → Nat} {cI cJ cZ cB cT : ClassId} {h : HS} {x : Int32} : (wC q cI cJ cZ cB cT h).set 47 ((q 47), .inr (6, ([.ref (q 48), .int (eI h 12 1), .ref (q 49), .ref (q 50), .ref (q 51), .int (eI h 12 5)] : List Value).set 5 (.int x))) = wC q cI cJ cZ cB cT (sI h 12 5 x) := rfl
theorem wC_at48 {q : Nat → Nat} {cI cJ cZ cB cT : ClassId} {h : HS} : (wC q cI cJ cZ cB cT h)[48]? = some ((q 48), .inl (cI, 96, .inl (eA h 12 0))) := rfl
theorem wC_sA48 {q : Nat → Nat} {cI cJ cZ cB cT : ClassId} {h : HS} {x : Nat → Int32} : (wC q cI cJ cZ cB cT h).set 48 ((q 48), .inl (cI, 96, .inl x)) = wC q cI cJ cZ cB cT (sA h 12 0 x) := rfl
theorem wC_at49 {q : Nat → Nat} {cI cJ cZ cB cT : ClassId} {h : HS} : (wC q cI cJ cZ cB cT h)[49]? = some ((q 49), .inl (cI, 300, .inl (eA h 12 2))) := rfl
theorem wC_sA49 {q : Nat → Nat} {cI cJ cZ cB cT : ClassId} {h : HS} {x : Nat → Int32} : (wC q cI cJ cZ cB cT h).set 49 ((q 49), .inl (cI, 300, .inl x)) = wC q cI cJ cZ cB cT (sA h 12 2 x) := rfl
theorem wC_at50 {q : Nat → Nat} {cI cJ cZ cB cT : ClassId} {h : HS} : (wC q cI cJ cZ cB cT h)[50]? = some ((q 50), .inl (cI, 4, .inl (eA h 12 3))) := rfl
theorem wC_sA50 {q : Nat → Nat} {cI cJ cZ cB cT : ClassId} {h : HS} {x : Nat → Int32} : (wC q cI cJ cZ cB cT h).set 50 ((q 50), .inl (cI, 4, .inl x)) = wC q cI cJ cZ cB cT (sA h 12 3 x) := rfl
theorem wC_at51 {q : Nat → Nat} {cI cJ cZ cB cT : ClassId} {h : HS} : (wC q cI cJ cZ cB cT h)[51]? = some ((q 51), .inl (cI, 4, .inl (eA h 12 4))) := rfl
theorem wC_sA51 {q : Nat → Nat} {cI cJ cZ cB cT : ClassId} {h : HS} {x : Nat → Int32} : (wC q cI cJ cZ cB cT h).set 51 ((q 51), .inl (cI, 4, .inl x)) = wC q cI cJ cZ cB cT (sA h 12 4 x) := rfl
def wM (m0 : Nat) (r : Nat → Nat) (cI cJ cZ cB cT : ClassId) (h : HS) : va_W := [(m0, .inr (9, [.ref (r 0), .ref (r 1), .ref (r 2), .int (eI h 0 3), .int (eI h 0 4), .int (eI h 0 5), .ref (r 6), .ref (r 7), .ref (r 8), .ref (r 9), .ref (r 10), .ref (r 11), .ref (r 12), .ref (r 13), .int (eI h 0 14), .int (eI h 0 15), .int (eI h 0 16), .int (eI h 0 17), .int (eI h 0 18), .int (eI h 0 19), .int (eI h 0 20), .int (eI h 0 21), .int (eI h 0 22), .ref (r 23), .ref (r 24), .int (eI h 0 25), .ref (r 26), .ref (r 27), .int (eI h 0 28), .int (eI h 0 29), .int (eI h 0 30), .ref (r 31), .ref (r 32), .ref (r 33), .ref (r 34), .ref (r 35), .int (eI h 0 36), .ref (r 37), .ref (r 38), .ref (r 39), .ref (r 40), .ref (r 41), .ref (r 42), .ref (r 43), .ref (r 44), .ref (r 45), .ref (r 46), .int (eI h 0 47), .ref (r 48), .ref (r 49), .ref (r 50), .ref (r 51), .long (eL h 0 52)])), ((r 0), .inl (cI, 1990, .inl (eA h 0 0))), ((r 1), .inl (cI, 1990, .inl (eA h 0 1))), ((r 2), .inl (cB, 300, .inl (eA h 0 2))), ((r 6), .inl (cI, 4, .inl (eA h 0 6))), ((r 7), .inl (cI, 96, .inl (eA h 0 7))), ((r 8), .inl (cI, 96, .inl (eA h 0 8))), ((r 9), .inl (cI, 96, .inl (eA h 0 9))), ((r 10), .inl (cI, 96, .inl (eA h 0 10))), ((r 11), .inl (cI, 96, .inl (eA h 0 11))), ((r 12), .inl (cI, 1600, .inl (eA h 0 12))), ((r 13), .inl (cI, 1600, .inl (eA h 0 13))), ((r 23), .inl (cI, 40, .inl (eA h 0 23))), ((r 24), .inl (cI, 41, .inl (eA h 0 24))), ((r 26), .inl (cI, 80, .inl (eA h 0 26))), ((r 27), .inl (cI, 80, .inl (eA h 0 27))), ((r 31), .inl (cI, 24, .inl (eA h 0 31))), ((r 32), .inl (cI, 24, .inl (eA h 0 32))), ((r 33), .inl (cI, 24, .inl (eA h 0 33))), ((r 34), .inl (cI, 24, .inl (eA h 0 34))), ((r 35), .inl (cI, 24, .inl (eA h 0 35))), ((r 37), .inl (cI, 400, .inl (eA h 0 37))), ((r 38), .inl (cI, 400, .inl (eA h 0 38))), ((r 39), .inl (cI, 9, .inl (eA h 0 39))), ((r 40), .inl (cJ, 200, .inr (.inl (eJ h 0 40)))), ((r 41), .inl (cJ, 16, .inr (.inl (eJ h 0 41)))), ((r 42), .inl (cJ, 16, .inr (.inl (eJ h 0 42)))), ((r 43), .inl (cI, 120, .inl (eA h 0 43))), ((r 44), .inl (cI, 120, .inl (eA h 0 44))), ((r 45), .inl (cZ, 120, .inl (eA h 0 45))), ((r 46), .inl (cI, 10, .inl (eA h 0 46))), ((r 48), .inl (cI, 3, .inl (eA h 0 48))), ((r 49), .inl (cI, 3, .inl (eA h 0 49))), ((r 50), .inl (cI, 3, .inl (eA h 0 50))), ((r 51), .inl (cI, 3, .inl (eA h 0 51)))]
theorem wM_at0 {m0 : Nat} {r : Nat → Nat} {cI cJ cZ cB cT : ClassId} {h : HS} : (wM m0 r cI cJ cZ cB cT h)[0]? = some (m0, .inr (9, [.ref (r 0), .ref (r 1), .ref (r 2), .int (eI h 0 3), .int (eI h 0 4), .int (eI h 0 5), .ref (r 6), .ref (r 7), .ref (r 8), .ref (r 9), .ref (r 10), .ref (r 11), .ref (r 12), .ref (r 13), .int (eI h 0 14), .int (eI h 0 15), .int (eI h 0 16), .int (eI h 0 17), .int (eI h 0 18), .int (eI h 0 19), .int (eI h 0 20), .int (eI h 0 21), .int (eI h 0 22), .ref (r 23), .ref (r 24), .int (eI h 0 25), .ref (r 26), .ref (r 27), .int (eI h 0 28), .int (eI h 0 29), .int (eI h 0 30), .ref (r 31), .ref (r 32), .ref (r 33), .ref (r 34), .ref (r 35), .int (eI h 0 36), .ref (r 37), .ref (r 38), .ref (r 39), .ref (r 40), .ref (r 41), .ref (r 42), .ref (r 43), .ref (r 44), .ref (r 45), .ref (r 46), .int (eI h 0 47), .ref (r 48), .ref (r 49), .ref (r 50), .ref (r 51), .long (eL h 0 52)])) := rfl
theorem wM_sI0_3 {m0 : Nat} {r : Nat → Nat} {cI cJ cZ cB cT : ClassId} {h : HS} {x : Int32} : (wM m0 r cI cJ cZ cB cT h).set 0 (m0, .inr (9, ([.ref (r 0), .ref (r 1), .ref (r 2), .int (eI h 0 3), .int (eI h 0 4), .int (eI h 0 5), .ref (r 6), .ref (r 7), .ref (r 8), .ref (r 9), .ref (r 10), .ref (r 11), .ref (r 12), .ref (r 13), .int (eI h 0 14), .int (eI h 0 15), .int (eI h 0 16), .int (eI h 0 17), .int (eI h 0 18), .int (eI h 0 19), .int (eI h 0 20), .int (eI h 0 21), .int (eI h 0 22), .ref (r 23), .ref (r 24), .int (eI h 0 25), .ref (r 26), .ref (r 27), .int (eI h 0 28), .int (eI h 0 29), .int (eI h 0 30), .ref (r 31), .ref (r 32), .ref (r 33), .ref (r 34), .ref (r 35), .int (eI h 0 36), .ref (r 37), .ref (r 38), .ref (r 39), .ref (r 40), .ref (r 41), .ref (r 42), .ref (r 43), .ref (r 44), .ref (r 45), .ref (r 46), .int (eI h 0 47), .ref (r 48), .ref (r 49), .ref (r 50), .ref (r 51), .long (eL h 0 52)] : List Value).set 3 (.int x))) = wM m0 r cI cJ cZ cB cT (sI h 0 3 x) := rfl
theorem wM_sI0_4 {m0 : Nat} {r : Nat → Nat} {cI cJ cZ cB cT : ClassId} {h : HS} {x : Int32} : (wM m0 r cI cJ cZ cB cT h).set 0 (m0, .inr (9, ([.ref (r 0), .ref (r 1), .ref (r 2), .int (eI h 0 3), .int (eI h 0 4), .int (eI h 0 5), .ref (r 6), .ref (r 7), .ref (r 8), .ref (r 9), .ref (r 10), .ref (r 11), .ref (r 12), .ref (r 13), .int (eI h 0 14), .int (eI h 0 15), .int (eI h 0 16), .int (eI h 0 17), .int (eI h 0 18), .int (eI h 0 19), .int (eI h 0 20), .int (eI h 0 21), .int (eI h 0 22), .ref (r 23), .ref (r 24), .int (eI h 0 25), .ref (r 26), .ref (r 27), .int (eI h 0 28), .int (eI h 0 29), .int (eI h 0 30), .ref (r 31), .ref (r 32), .ref (r 33), .ref (r 34), .ref (r 35), .int (eI h 0 36), .ref (r 37), .ref (r 38), .ref (r 39), .ref (r 40), .ref (r 41), .ref (r 42), .ref (r 43), .ref (r 44), .ref (r 45), .ref (r 46), .int (eI h 0 47), .ref (r 48), .ref (r 49), .ref (r 50), .ref (r 51), .long (eL h 0 52)] : List Value).set 4 (.int x))) = wM m0 r cI cJ cZ cB cT (sI h 0 4 x) := rfl
theorem wM_sI0_5 {m0 : Nat} {r : Nat → Nat} {cI cJ cZ cB cT : ClassId} {h : HS} {x : Int32} : (wM m0 r cI cJ cZ cB cT h).set 0 (m0, .inr (9, ([.ref (r 0), .ref (r 1), .ref (r 2), .int (eI h 0 3), .int (eI h 0 4), .int (eI h 0 5), .ref (r 6), .ref (r 7), .ref (r 8), .ref (r 9), .ref (r 10), .ref (r 11), .ref (r 12), .ref (r 13), .int (eI h 0 14), .int (eI h 0 15), .int (eI h 0 16), .int (eI h 0 17), .int (eI h 0 18), .int (eI h 0 19), .int (eI h 0 20), .int (eI h 0 21), .int (eI h 0 22), .ref (r 23), .ref (r 24), .int (eI h 0 25), .ref (r 26), .ref (r 27), .int (eI h 0 28), .int (eI h 0 29), .int (eI h 0 30), .ref (r 31), .ref (r 32), .ref (r 33), .ref (r 34), .ref (r 35), .int (eI h 0 36), .ref (r 37), .ref (r 38), .ref (r 39), .ref (r 40), .ref (r 41), .ref (r 42), .ref (r 43), .ref (r 44), .ref (r 45), .ref (r 46), .int (eI h 0 47), .ref (r 48), .ref (r 49), .ref (r 50), .ref (r 51), .long (eL h 0 52)] : List Value).set 5 (.int x))) = wM m0 r cI cJ cZ cB cT (sI h 0 5 x) := rfl
theorem wM_sI0_14 {m0 : Nat} {r : Nat → Nat} {cI cJ cZ cB cT : ClassId} {h : HS} {x : Int32} : (wM m0 r cI cJ cZ cB cT h).set 0 (m0, .inr (9, ([.ref (r 0), .ref (r 1), .ref (r 2), .int (eI h 0 3), .int (eI h 0 4), .int (eI h 0 5), .ref (r 6), .ref (r 7), .ref (r 8), .ref (r 9), .ref (r 10), .ref (r 11), .ref (r 12), .ref (r 13), .int (eI h 0 14), .int (eI h 0 15), .int (eI h 0 16), .int (eI h 0 17), .int (eI h 0 18), .int (eI h 0 19), .int (eI h 0 20), .int (eI h 0 21), .int (eI h 0 22), .ref (r 23), .ref (r 24), .int (eI h 0 25), .ref (r 26), .ref (r 27), .int (eI h 0 28), .int (eI h 0 29), .int (eI h 0 30), .ref (r 31), .ref (r 32), .ref (r 33), .ref (r 34), .ref (r 35), .int (eI h 0 36), .ref (r 37), .ref (r 38), .ref (r 39), .ref (r 40), .ref (r 41), .ref (r 42), .ref (r 43), .ref (r 44), .ref (r 45), .ref (r 46), .int (eI h 0 47), .ref (r 48), .ref (r 49), .ref (r 50), .ref (r 51), .long (eL h 0 52)] : List Value).set 14 (.int x))) = wM m0 r cI cJ cZ cB cT (sI h 0 14 x) := rfl
theorem wM_sI0_15 {m0 : Nat} {r : Nat → Nat} {cI cJ cZ cB cT : ClassId} {h : HS} {x : Int32} : (wM m0 r cI cJ cZ cB cT h).set 0 (m0, .inr (9, ([.ref (r 0), .ref (r 1), .ref (r 2), .int (eI h 0 3), .int (eI h 0 4), .int (eI h 0 5), .ref (r 6), .ref (r 7), .ref (r 8), .ref (r 9), .ref (r 10), .ref (r 11), .ref (r 12), .ref (r 13), .int (eI h 0 14), .int (eI h 0 15), .int (eI h 0 16), .int (eI h 0 17), .int (eI h 0 18), .int (eI h 0 19), .int (eI h 0 20), .int (eI h 0 21), .int (eI h 0 22), .ref (r 23), .ref (r 24), .int (eI h 0 25), .ref (r 26), .ref (r 27), .int (eI h 0 28), .int (eI h 0 29), .int (eI h 0 30), .ref (r 31), .ref (r 32), .ref (r 33), .ref (r 34), .ref (r 35), .int (eI h 0 36), .ref (r 37), .ref (r 38), .ref (r 39), .ref (r 40), .ref (r 41), .ref (r 42), .ref (r 43), .ref (r 44), .ref (r 45), .ref (r 46), .int (eI h 0 47), .ref (r 48), .ref (r 49), .ref (r 50), .ref (r 51), .long (eL h 0 52)] : List Value).set 15 (.int x))) = wM m0 r cI cJ cZ cB cT (sI h 0 15 x) := rfl
theorem wM_sI0_16 {m0 : Nat} {r : Nat → Nat} {cI cJ cZ cB cT : ClassId} {h : HS} {x : Int32} : (wM m0 r cI cJ cZ cB cT h).set 0 (m0, .inr (9, ([.ref (r 0), .ref (r 1), .ref (r 2), .int (eI h 0 3), .int (eI h 0 4), .int (eI h 0 5), .ref (r 6), .ref (r 7), .ref (r 8), .ref (r 9), .ref (r 10), .ref (r 11), .ref (r 12), .ref (r 13), .int (eI h 0 14), .int (eI h 0 15), .int (eI h 0 16), .int (eI h 0 17), .int (eI h 0 18), .int (eI h 0 19), .int (eI h 0 20), .int (eI h 0 21), .int (eI h 0 22), .ref (r 23), .ref (r 24), .int (eI h 0 25), .ref (r 26), .ref (r 27), .int (eI h 0 28), .int (eI h 0 29), .int (eI h 0 30), .ref (r 31), .ref (r 32), .ref (r 33), .ref (r 34), .ref (r 35), .int (eI h 0 36), .ref (r 37), .ref (r 38), .ref (r 39), .ref (r 40), .ref (r 41), .ref (r 42), .ref (r 43), .ref (r 44), .ref (r 45), .ref (r 46), .int (eI h 0 47), .ref (r 48), .ref (r 49), .ref (r 50), .ref (r 51), .long (eL h 0 52)] : List Value).set 16 (.int x))) = wM m0 r cI cJ cZ cB cT (sI h 0 16 x) := rfl
theorem wM_sI0_17 {m0 : Nat} {r : Nat → Nat} {cI cJ cZ cB cT : ClassId} {h : HS} {x : Int32} : (wM m0 r cI cJ cZ cB cT h).set 0 (m0, .inr (9, ([.ref (r 0), .ref (r 1), .ref (r 2), .int (eI h 0 3), .int (eI h 0 4), .int (eI h 0 5), .ref (r 6), .ref (r 7), .ref (r 8), .ref (r 9), .ref (r 10), .ref (r 11), .ref (r 12), .ref (r 13), .int (eI h 0 14), .int (eI h 0 15), .int (eI h 0 16), .int (eI h 0 17), .int (eI h 0 18), .int (eI h 0 19), .int (eI h 0 20), .int (eI h 0 21), .int (eI h 0 22), .ref (r 23), .ref (r 24), .int (eI h 0 25), .ref (r 26), .ref (r 27), .int (eI h 0 28), .int (eI h 0 29), .int (eI h 0 30), .ref (r 31), .ref (r 32), .ref (r 33), .ref (r 34), .ref (r 35), .int (eI h 0 36), .ref (r 37), .ref (r 38), .ref (r 39), .ref (r 40), .ref (r 41), .ref (r 42), .ref (r 43), .ref (r 44), .ref (r 45), .ref (r 46), .int (eI h 0 47), .ref (r 48), .ref (r 49), .ref (r 50), .ref (r 51), .long (eL h 0 52)] : List Value).set 17 (.int x))) = wM m0 r cI cJ cZ cB cT (sI h 0 17 x) := rfl
theorem wM_sI0_18 {m0 : Nat} {r : Nat → Nat} {cI cJ cZ cB cT : ClassId} {h : HS} {x : Int32} : (wM m0 r cI cJ cZ cB cT h).set 0 (m0, .inr (9, ([.ref (r 0), .ref (r 1), .ref (r 2), .int (eI h 0 3), .int (eI h 0 4), .int (eI h 0 5), .ref (r 6), .ref (r 7), .ref (r 8), .ref (r 9), .ref (r 10), .ref (r 11), .ref (r 12), .ref (r 13), .int (eI h 0 14), .int (eI h 0 15), .int (eI h 0 16), .int (eI h 0 17), .int (eI h 0 18), .int (eI h 0 19), .int (eI h 0 20), .int (eI h 0 21), .int (eI h 0 22), .ref (r 23), .ref (r 24), .int (eI h 0 25), .ref (r 26), .ref (r 27), .int (eI h 0 28), .int (eI h 0 29), .int (eI h 0 30), .ref (r 31), .ref (r 32), .ref (r 33), .ref (r 34), .ref (r 35), .int (eI h 0 36), .ref (r 37), .ref (r 38), .ref (r 39), .ref (r 40), .ref (r 41), .ref (r 42), .ref (r 43), .ref (r 44), .ref (r 45), .ref (r 46), .int (eI h 0 47), .ref (r 48), .ref (r 49), .ref (r 50), .ref (r 51), .long (eL h 0 52)] : List Value).set 18 (.int x))) = wM m0 r cI cJ cZ cB cT (sI h 0 18 x) := rfl
theorem wM_sI0_19 {m0 : Nat} {r : Nat → Nat} {cI cJ cZ cB cT : ClassId} {h : HS} {x : Int32} : (wM m0 r cI cJ cZ cB cT h).set 0 (m0, .inr (9, ([.ref (r 0), .ref (r 1), .ref (r 2), .int (eI h 0 3), .int (eI h 0 4), .int (eI h 0 5), .ref (r 6), .ref (r 7), .ref (r 8), .ref (r 9), .ref (r 10), .ref (r 11), .ref (r 12), .ref (r 13), .int (eI h 0 14), .int (eI h 0 15), .int (eI h 0 16), .int (eI h 0 17), .int (eI h 0 18), .int (eI h 0 19), .int (eI h 0 20), .int (eI h 0 21), .int (eI h 0 22), .ref (r 23), .ref (r 24), .int (eI h 0 25), .ref (r 26), .ref (r 27), .int (eI h 0 28), .int (eI h 0 29), .int (eI h 0 30), .ref (r 31), .ref (r 32), .ref (r 33), .ref (r 34), .ref (r 35), .int (eI h 0 36), .ref (r 37), .ref (r 38), .ref (r 39), .ref (r 40), .ref (r 41), .ref (r 42), .ref (r 43), .ref (r 44), .ref (r 45), .ref (r 46), .int (eI h 0 47), .ref (r 48), .ref (r 49), .ref (r 50), .ref (r 51), .long (eL h 0 52)] : List Value).set 19 (.int x))) = wM m0 r cI cJ cZ cB cT (sI h 0 19 x) := rfl
theorem wM_sI0_20 {m0 : Nat} {r : Nat → Nat} {cI cJ cZ cB cT : ClassId} {h : HS} {x : Int32} : (wM m0 r cI cJ cZ cB cT h).set 0 (m0, .inr (9, ([.ref (r 0), .ref (r 1), .ref (r 2), .int (eI h 0 3), .int (eI h 0 4), .int (eI h 0 5), .ref (r 6), .ref (r 7), .ref (r 8), .ref (r 9), .ref (r 10), .ref (r 11), .ref (r 12), .ref (r 13), .int (eI h 0 14), .int (eI h 0 15), .int (eI h 0 16), .int (eI h 0 17), .int (eI h 0 18), .int (eI h 0 19), .int (eI h 0 20), .int (eI h 0 21), .int (eI h 0 22), .ref (r 23), .ref (r 24), .int (eI h 0 25), .ref (r 26), .ref (r 27), .int (eI h 0 28), .int (eI h 0 29), .int (eI h 0 30), .ref (r 31), .ref (r 32), .ref (r 33), .ref (r 34), .ref (r 35), .int (eI h 0 36), .ref (r 37), .ref (r 38), .ref (r 39), .ref (r 40), .ref (r 41), .ref (r 42), .ref (r 43), .ref (r 44), .ref (r 45), .ref (r 46), .int (eI h 0 47), .ref (r 48), .ref (r 49), .ref (r 50), .ref (r 51), .long (eL h 0 52)] : List Value).set 20 (.int x))) = wM m0 r cI cJ cZ cB cT (sI h 0 20 x) := rfl
theorem wM_sI0_21 {m0 : Nat} {r : Nat → Nat} {cI cJ cZ cB cT : ClassId} {h : HS} {x : Int32} : (wM m0 r cI cJ cZ cB cT h).set 0 (m0, .inr (9, ([.ref (r 0), .ref (r 1), .ref (r 2), .int (eI h 0 3), .int (eI h 0 4), .int (eI h 0 5), .ref (r 6), .ref (r 7), .ref (r 8), .ref (r 9), .ref (r 10), .ref (r 11), .ref (r 12), .ref (r 13), .int (eI h 0 14), .int (eI h 0 15), .int (eI h 0 16), .int (eI h 0 17), .int (eI h 0 18), .int (eI h 0 19), .int (eI h 0 20), .int (eI h 0 21), .int (eI h 0 22), .ref (r 23), .ref (r 24), .int (eI h 0 25), .ref (r 26), .ref (r 27), .int (eI h 0 28), .int (eI h 0 29), .int (eI h 0 30), .ref (r 31), .ref (r 32), .ref (r 33), .ref (r 34), .ref (r 35), .int (eI h 0 36), .ref (r 37), .ref (r 38), .ref (r 39), .ref (r 40), .ref (r 41), .ref (r 42), .ref (r 43), .ref (r 44), .ref (r 45), .ref (r 46), .int (eI h 0 47), .ref (r 48), .ref (r 49), .ref (r 50), .ref (r 51), .long (eL h 0 52)] : List Value).set 21 (.int x))) = wM m0 r cI cJ cZ cB cT (sI h 0 21 x) := rfl
theorem wM_sI0_22 {m0 : Nat} {r : Nat → Nat} {cI cJ cZ cB cT : ClassId} {h : HS} {x : Int32} : (wM m0 r cI cJ cZ cB cT h).set 0 (m0, .inr (9, ([.ref (r 0), .ref (r 1), .ref (r 2), .int (eI h 0 3), .int (eI h 0 4), .int (eI h 0 5), .ref (r 6), .ref (r 7), .ref (r 8), .ref (r 9), .ref (r 10), .ref (r 11), .ref (r 12), .ref (r 13), .int (eI h 0 14), .int (eI h 0 15), .int (eI h 0 16), .int (eI h 0 17), .int (eI h 0 18), .int (eI h 0 19), .int (eI h 0 20), .int (eI h 0 21), .int (eI h 0 22), .ref (r 23), .ref (r 24), .int (eI h 0 25), .ref (r 26), .ref (r 27), .int (eI h 0 28), .int (eI h 0 29), .int (eI h 0 30), .ref (r 31), .ref (r 32), .ref (r 33), .ref (r 34), .ref (r 35), .int (eI h 0 36), .ref (r 37), .ref (r 38), .ref (r 39), .ref (r 40), .ref (r 41), .ref (r 42), .ref (r 43), .ref (r 44), .ref (r 45), .ref (r 46), .int (eI h 0 47), .ref (r 48), .ref (r 49), .ref (r 50), .ref (r 51), .long (eL h 0 52)] : List Value).set 22 (.int x))) = wM m0 r cI cJ cZ cB cT (sI h 0 22 x) := rfl
theorem wM_sI0_25 {m0 : Nat} {r : Nat → Nat} {cI cJ cZ cB cT : ClassId} {h : HS} {x : Int32} : (wM m0 r cI cJ cZ cB cT h).set 0 (m0, .inr (9, ([.ref (r 0), .ref (r 1), .ref (r 2), .int (eI h 0 3), .int (eI h 0 4), .int (eI h 0 5), .ref (r 6), .ref (r 7), .ref (r 8), .ref (r 9), .ref (r 10), .ref (r 11), .ref (r 12), .ref (r 13), .int (eI h 0 14), .int (eI h 0 15), .int (eI h 0 16), .int (eI h 0 17), .int (eI h 0 18), .int (eI h 0 19), .int (eI h 0 20), .int (eI h 0 21), .int (eI h 0 22), .ref (r 23), .ref (r 24), .int (eI h 0 25), .ref (r 26), .ref (r 27), .int (eI h 0 28), .int (eI h 0 29), .int (eI h 0 30), .ref (r 31), .ref (r 32), .ref (r 33), .ref (r 34), .ref (r 35), .int (eI h 0 36), .ref (r 37), .ref (r 38), .ref (r 39), .ref (r 40), .ref (r 41), .ref (r 42), .ref (r 43), .ref (r 44), .ref (r 45), .ref (r 46), .int (eI h 0 47), .ref (r 48), .ref (r 49), .ref (r 50), .ref (r 51), .long (eL h 0 52)] : List Value).set 25 (.int x))) = wM m0 r cI cJ cZ cB cT (sI h 0 25 x) := rfl
theorem wM_sI0_28 {m0 : Nat} {r : Nat → Nat} {cI cJ cZ cB cT : ClassId} {h : HS} {x : Int32} : (wM m0 r cI cJ cZ cB cT h).set 0 (m0, .inr (9, ([.ref (r 0), .ref (r 1), .ref (r 2), .int (eI h 0 3), .int (eI h 0 4), .int (eI h 0 5), .ref (r 6), .ref (r 7), .ref (r 8), .ref (r 9), .ref (r 10), .ref (r 11), .ref (r 12), .ref (r 13), .int (eI h 0 14), .int (eI h 0 15), .int (eI h 0 16), .int (eI h 0 17), .int (eI h 0 18), .int (eI h 0 19), .int (eI h 0 20), .int (eI h 0 21), .int (eI h 0 22), .ref (r 23), .ref (r 24), .int (eI h 0 25), .ref (r 26), .ref (r 27), .int (eI h 0 28), .int (eI h 0 29), .int (eI h 0 30), .ref (r 31), .ref (r 32), .ref (r 33), .ref (r 34), .ref (r 35), .int (eI h 0 36), .ref (r 37), .ref (r 38), .ref (r 39), .ref (r 40), .ref (r 41), .ref (r 42), .ref (r 43), .ref (r 44), .ref (r 45), .ref (r 46), .int (eI h 0 47), .ref (r 48), .ref (r 49), .ref (r 50), .ref (r 51), .long (eL h 0 52)] : List Value).set 28 (.int x))) = wM m0 r cI cJ cZ cB cT (sI h 0 28 x) := rfl
theorem wM_sI0_29 {m0 : Nat} {r : Nat → Nat} {cI cJ cZ cB cT : ClassId} {h : HS} {x : Int32} : (wM m0 r cI cJ cZ cB cT h).set 0 (m0, .inr (9, ([.ref (r 0), .ref (r 1), .ref (r 2), .int (eI h 0 3), .int (eI h 0 4), .int (eI h 0 5), .ref (r 6), .ref (r 7), .ref (r 8), .ref (r 9), .ref (r 10), .ref (r 11), .ref (r 12), .ref (r 13), .int (eI h 0 14), .int (eI h 0 15), .int (eI h 0 16), .int (eI h 0 17), .int (eI h 0 18), .int (eI h 0 19), .int (eI h 0 20), .int (eI h 0 21), .int (eI h 0 22), .ref (r 23), .ref (r 24), .int (eI h 0 25), .ref (r 26), .ref (r 27), .int (eI h 0 28), .int (eI h 0 29), .int (eI h 0 30), .ref (r 31), .ref (r 32), .ref (r 33), .ref (r 34), .ref (r 35), .int (eI h 0 36), .ref (r 37), .ref (r 38), .ref (r 39), .ref (r 40), .ref (r 41), .ref (r 42), .ref (r 43), .ref (r 44), .ref (r 45), .ref (r 46), .int (eI h 0 47), .ref (r 48), .ref (r 49), .ref (r 50), .ref (r 51), .long (eL h 0 52)] : List Value).set 29 (.int x))) = wM m0 r cI cJ cZ cB cT (sI h 0 29 x) := rfl
theorem wM_sI0_30 {m0 : Nat} {r : Nat → Nat} {cI cJ cZ cB cT : ClassId} {h : HS} {x : Int32} : (wM m0 r cI cJ cZ cB cT h).set 0 (m0, .inr (9, ([.ref (r 0), .ref (r 1), .ref (r 2), .int (eI h 0 3), .int (eI h 0 4), .int (eI h 0 5), .ref (r 6), .ref (r 7), .ref (r 8), .ref (r 9), .ref (r 10), .ref (r 11), .ref (r 12), .ref (r 13), .int (eI h 0 14), .int (eI h 0 15), .int (eI h 0 16), .int (eI h 0 17), .int (eI h 0 18), .int (eI h 0 19), .int (eI h 0 20), .int (eI h 0 21), .int (eI h 0 22), .ref (r 23), .ref (r 24), .int (eI h 0 25), .ref (r 26), .ref (r 27), .int (eI h 0 28), .int (eI h 0 29), .int (eI h 0 30), .ref (r 31), .ref (r 32), .ref (r 33), .ref (r 34), .ref (r 35), .int (eI h 0 36), .ref (r 37), .ref (r 38), .ref (r 39), .ref (r 40), .ref (r 41), .ref (r 42), .ref (r 43), .ref (r 44), .ref (r 45), .ref (r 46), .int (eI h 0 47), .ref (r 48), .ref (r 49), .ref (r 50), .ref (r 51), .long (eL h 0 52)] : List Value).set 30 (.int x))) = wM m0 r cI cJ cZ cB cT (sI h 0 30 x) := rfl
theorem wM_sI0_36 {m0 : Nat} {r : Nat → Nat} {cI cJ cZ cB cT : ClassId} {h : HS} {x : Int32} : (wM m0 r cI cJ cZ cB cT h).set 0 (m0, .inr (9, ([.ref (r 0), .ref (r 1), .ref (r 2), .int (eI h 0 3), .int (eI h 0 4), .int (eI h 0 5), .ref (r 6), .ref (r 7), .ref (r 8), .ref (r 9), .ref (r 10), .ref (r 11), .ref (r 12), .ref (r 13), .int (eI h 0 14), .int (eI h 0 15), .int (eI h 0 16), .int (eI h 0 17), .int (eI h 0 18), .int (eI h 0 19), .int (eI h 0 20), .int (eI h 0 21), .int (eI h 0 22), .ref (r 23), .ref (r 24), .int (eI h 0 25), .ref (r 26), .ref (r 27), .int (eI h 0 28), .int (eI h 0 29), .int (eI h 0 30), .ref (r 31), .ref (r 32), .ref (r 33), .ref (r 34), .ref (r 35), .int (eI h 0 36), .ref (r 37), .ref (r 38), .ref (r 39), .ref (r 40), .ref (r 41), .ref (r 42), .ref (r 43), .ref (r 44), .ref (r 45), .ref (r 46), .int (eI h 0 47), .ref (r 48), .ref (r 49), .ref (r 50), .ref (r 51), .long (eL h 0 52)] : List Value).set 36 (.int x))) = wM m0 r cI cJ cZ cB cT (sI h 0 36 x) := rfl
theorem wM_sI0_47 {m0 : Nat} {r : Nat → Nat} {cI cJ cZ cB cT : ClassId} {h : HS} {x : Int32} : (wM m0 r cI cJ cZ cB cT h).set 0 (m0, .inr (9, ([.ref (r 0), .ref (r 1), .ref (r 2), .int (eI h 0 3), .int (eI h 0 4), .int (eI h 0 5), .ref (r 6), .ref (r 7), .ref (r 8), .ref (r 9), .ref (r 10), .ref (r 11), .ref (r 12), .ref (r 13), .int (eI h 0 14), .int (eI h 0 15), .int (eI h 0 16), .int (eI h 0 17), .int (eI h 0 18), .int (eI h 0 19), .int (eI h 0 20), .int (eI h 0 21), .int (eI h 0 22), .ref (r 23), .ref (r 24), .int (eI h 0 25), .ref (r 26), .ref (r 27), .int (eI h 0 28), .int (eI h 0 29), .int (eI h 0 30), .ref (r 31), .ref (r 32), .ref (r 33), .ref (r 34), .ref (r 35), .int (eI h 0 36), .ref (r 37), .ref (r 38), .ref (r 39), .ref (r 40), .ref (r 41), .ref (r 42), .ref (r 43), .ref (r 44), .ref (r 45), .ref (r 46), .int (eI h 0 47), .ref (r 48), .ref (r 49), .ref (r 50), .ref (r 51), .long (eL h 0 52)] : List Value).set 47 (.int x))) = wM m0 r cI cJ cZ cB cT (sI h 0 47 x) := rfl
theorem wM_sI0_52 {m0 : Nat} {r : Nat → Nat} {cI cJ cZ cB cT : ClassId} {h : HS} {x : Int64} : (wM m0 r cI cJ cZ cB cT h).set 0 (m0, .inr (9, ([.ref (r 0), .ref (r 1), .ref (r 2), .int (eI h 0 3), .int (eI h 0 4), .int (eI h 0 5), .ref (r 6), .ref (r 7), .ref (r 8), .ref (r 9), .ref (r 10), .ref (r 11), .ref (r 12), .ref (r 13), .int (eI h 0 14), .int (eI h 0 15), .int (eI h 0 16), .int (eI h 0 17), .int (eI h 0 18), .int (eI h 0 19), .int (eI h 0 20), .int (eI h 0 21), .int (eI h 0 22), .ref (r 23), .ref (r 24), .int (eI h 0 25), .ref (r 26), .ref (r 27), .int (eI h 0 28), .int (eI h 0 29), .int (eI h 0 30), .ref (r 31), .ref (r 32), .ref (r 33), .ref (r 34), .ref (r 35), .int (eI h 0 36), .ref (r 37), .ref (r 38), .ref (r 39), .ref (r 40), .ref (r 41), .ref (r 42), .ref (r 43), .ref (r 44), .ref (r 45), .ref (r 46), .int (eI h 0 47), .ref (r 48), .ref (r 49), .ref (r 50), .ref (r 51), .long (eL h 0 52)] : List Value).set 52 (.long x))) = wM m0 r cI cJ cZ cB cT (sL h 0 52 x) := rfl
theorem wM_at1 {m0 : Nat} {r : Nat → Nat} {cI cJ cZ cB cT : ClassId} {h : HS} : (wM m0 r cI cJ cZ cB cT h)[1]? = some ((r 0), .inl (cI, 1990, .inl (eA h 0 0))) := rfl
theorem wM_sA1 {m0 : Nat} {r : Nat → Nat} {cI cJ cZ cB cT : ClassId} {h : HS} {x : Nat → Int32} : (wM m0 r cI cJ cZ cB cT h).set 1 ((r 0), .inl (cI, 1990, .inl x)) = wM m0 r cI cJ cZ cB cT (sA h 0 0 x) := rfl
theorem wM_at2 {m0 : Nat} {r : Nat → Nat} {cI cJ cZ cB cT : ClassId} {h : HS} : (wM m0 r cI cJ cZ cB cT h)[2]? = some ((r 1), .inl (cI, 1990, .inl (eA h 0 1))) := rfl
theorem wM_sA2 {m0 : Nat} {r : Nat → Nat} {cI cJ cZ cB cT : ClassId} {h : HS} {x : Nat → Int32} : (wM m0 r cI cJ cZ cB cT h).set 2 ((r 1), .inl (cI, 1990, .inl x)) = wM m0 r cI cJ cZ cB cT (sA h 0 1 x) := rfl
theorem wM_at3 {m0 : Nat} {r : Nat → Nat} {cI cJ cZ cB cT : ClassId} {h : HS} : (wM m0 r cI cJ cZ cB cT h)[3]? = some ((r 2), .inl (cB, 300, .inl (eA h 0 2))) := rfl
theorem wM_sA3 {m0 : Nat} {r : Nat → Nat} {cI cJ cZ cB cT : ClassId} {h : HS} {x : Nat → Int32} : (wM m0 r cI cJ cZ cB cT h).set 3 ((r 2), .inl (cB, 300, .inl x)) = wM m0 r cI cJ cZ cB cT (sA h 0 2 x) := rfl
theorem wM_at4 {m0 : Nat} {r : Nat → Nat} {cI cJ cZ cB cT : ClassId} {h : HS} : (wM m0 r cI cJ cZ cB cT h)[4]? = some ((r 6), .inl (cI, 4, .inl (eA h 0 6))) := rfl
theorem wM_sA4 {m0 : Nat} {r : Nat → Nat} {cI cJ cZ cB cT : ClassId} {h : HS} {x : Nat → Int32} : (wM m0 r cI cJ cZ cB cT h).set 4 ((r 6), .inl (cI, 4, .inl x)) = wM m0 r cI cJ cZ cB cT (sA h 0 6 x) := rfl
theorem wM_at5 {m0 : Nat} {r : Nat → Nat} {cI cJ cZ cB cT : ClassId} {h : HS} : (wM m0 r cI cJ cZ cB cT h)[5]? = some ((r 7), .inl (cI, 96, .inl (eA h 0 7))) := rfl
theorem wM_sA5 {m0 : Nat} {r : Nat → Nat} {cI cJ cZ cB cT : ClassId} {h : HS} {x : Nat → Int32} : (wM m0 r cI cJ cZ cB cT h).set 5 ((r 7), .inl (cI, 96, .inl x)) = wM m0 r cI cJ cZ cB cT (sA h 0 7 x) := rfl
theorem wM_at6 {m0 : Nat} {r : Nat → Nat} {cI cJ cZ cB cT : ClassId} {h : HS} : (wM m0 r cI cJ cZ cB cT h)[6]? = some ((r 8), .inl (cI, 96, .inl (eA h 0 8))) := rfl
theorem wM_sA6 {m0 : Nat} {r : Nat → Nat} {cI cJ cZ cB cT : ClassId} {h : HS} {x : Nat → Int32} : (wM m0 r cI cJ cZ cB cT h).set 6 ((r 8), .inl (cI, 96, .inl x)) = wM m0 r cI cJ cZ cB cT (sA h 0 8 x) := rfl
theorem wM_at7 {m0 : Nat} {r : Nat → Nat} {cI cJ cZ cB cT : ClassId} {h : HS} : (wM m0 r cI cJ cZ cB cT h)[7]? = some ((r 9), .inl (cI, 96, .inl (eA h 0 9))) := rfl
theorem wM_sA7 {m0 : Nat} {r : Nat → Nat} {cI cJ cZ cB cT : ClassId} {h : HS} {x : Nat → Int32} : (wM m0 r cI cJ cZ cB cT h).set 7 ((r 9), .inl (cI, 96, .inl x)) = wM m0 r cI cJ cZ cB cT (sA h 0 9 x) := rfl
theorem wM_at8 {m0 : Nat} {r : Nat → Nat} {cI cJ cZ cB cT : ClassId} {h : HS} : (wM m0 r cI cJ cZ cB cT h)[8]? = some ((r 10), .inl (cI, 96, .inl (eA h 0 10))) := rfl
theorem wM_sA8 {m0 : Nat} {r : Nat → Nat} {cI cJ cZ cB cT : ClassId} {h : HS} {x : Nat → Int32} : (wM m0 r cI cJ cZ cB cT h).set 8 ((r 10), .inl (cI, 96, .inl x)) = wM m0 r cI cJ cZ cB cT (sA h 0 10 x) := rfl
theorem wM_at9 {m0 : Nat} {r : Nat → Nat} {cI cJ cZ cB cT : ClassId} {h : HS} : (wM m0 r cI cJ cZ cB cT h)[9]? = some ((r 11), .inl (cI, 96, .inl (eA h 0 11))) := rfl
theorem wM_sA9 {m0 : Nat} {r : Nat → Nat} {cI cJ cZ cB cT : ClassId} {h : HS} {x : Nat → Int32} : (wM m0 r cI cJ cZ cB cT h).set 9 ((r 11), .inl (cI, 96, .inl x)) = wM m0 r cI cJ cZ cB cT (sA h 0 11 x) := rfl
theorem wM_at10 {m0 : Nat} {r : Nat → Nat} {cI cJ cZ cB cT : ClassId} {h : HS} : (wM m0 r cI cJ cZ cB cT h)[10]? = some ((r 12), .inl (cI, 1600, .inl (eA h 0 12))) := rfl
theorem wM_sA10 {m0 : Nat} {r : Nat → Nat} {cI cJ cZ cB cT : ClassId} {h : HS} {x : Nat → Int32} : (wM m0 r cI cJ cZ cB cT h).set 10 ((r 12), .inl (cI, 1600, .inl x)) = wM m0 r cI cJ cZ cB cT (sA h 0 12 x) := rfl
theorem wM_at11 {m0 : Nat} {r : Nat → Nat} {cI cJ cZ cB cT : ClassId} {h : HS} : (wM m0 r cI cJ cZ cB cT h)[11]? = some ((r 13), .inl (cI, 1600, .inl (eA h 0 13))) := rfl
theorem wM_sA11 {m0 : Nat} {r : Nat → Nat} {cI cJ cZ cB cT : ClassId} {h : HS} {x : Nat → Int32} : (wM m0 r cI cJ cZ cB cT h).set 11 ((r 13), .inl (cI, 1600, .inl x)) = wM m0 r cI cJ cZ cB cT (sA h 0 13 x) := rfl
theorem wM_at12 {m0 : Nat} {r : Nat → Nat} {cI cJ cZ cB cT : ClassId} {h : HS} : (wM m0 r cI cJ cZ cB cT h)[12]? = some ((r 23), .inl (cI, 40, .inl (eA h 0 23))) := rfl
theorem wM_sA12 {m0 : Nat} {r : Nat → Nat} {cI cJ cZ cB cT : ClassId} {h : HS} {x : Nat → Int32} : (wM m0 r cI cJ cZ cB cT h).set 12 ((r 23), .inl (cI, 40, .inl x)) = wM m0 r cI cJ cZ cB cT (sA h 0 23 x) := rfl
theorem wM_at13 {m0 : Nat} {r : Nat → Nat} {cI cJ cZ cB cT : ClassId} {h : HS} : (wM m0 r cI cJ cZ cB cT h)[13]? = some ((r 24), .inl (cI, 41, .inl (eA h 0 24))) := rfl
theorem wM_sA13 {m0 : Nat} {r : Nat → Nat} {cI cJ cZ cB cT : ClassId} {h : HS} {x : Nat → Int32} : (wM m0 r cI cJ cZ cB cT h).set 13 ((r 24), .inl (cI, 41, .inl x)) = wM m0 r cI cJ cZ cB cT (sA h 0 24 x) := rfl
theorem wM_at14 {m0 : Nat} {r : Nat → Nat} {cI cJ cZ cB cT : ClassId} {h : HS} : (wM m0 r cI cJ cZ cB cT h)[14]? = some ((r 26), .inl (cI, 80, .inl (eA h 0 26))) := rfl
theorem wM_sA14 {m0 : Nat} {r : Nat → Nat} {cI cJ cZ cB cT : ClassId} {h : HS} {x : Nat → Int32} : (wM m0 r cI cJ cZ cB cT h).set 14 ((r 26), .inl (cI, 80, .inl x)) = wM m0 r cI cJ cZ cB cT (sA h 0 26 x) := rfl
theorem wM_at15 {m0 : Nat} {r : Nat → Nat} {cI cJ cZ cB cT : ClassId} {h : HS} : (wM m0 r cI cJ cZ cB cT h)[15]? = some ((r 27), .inl (cI, 80, .inl (eA h 0 27))) := rfl
theorem wM_sA15 {m0 : Nat} {r : Nat → Nat} {cI cJ cZ cB cT : ClassId} {h : HS} {x : Nat → Int32} : (wM m0 r cI cJ cZ cB cT h).set 15 ((r 27), .inl (cI, 80, .inl x)) = wM m0 r cI cJ cZ cB cT (sA h 0 27 x) := rfl
theorem wM_at16 {m0 : Nat} {r : Nat → Nat} {cI cJ cZ cB cT : ClassId} {h : HS} : (wM m0 r cI cJ cZ cB cT h)[16]? = some ((r 31), .inl (cI, 24, .inl (eA h 0 31))) := rfl
theorem wM_sA16 {m0 : Nat} {r : Nat → Nat} {cI cJ cZ cB cT : ClassId} {h : HS} {x : Nat → Int32} : (wM m0 r cI cJ cZ cB cT h).set 16 ((r 31), .inl (cI, 24, .inl x)) = wM m0 r cI cJ cZ cB cT (sA h 0 31 x) := rfl
theorem wM_at17 {m0 : Nat} {r : Nat → Nat} {cI cJ cZ cB cT : ClassId} {h : HS} : (wM m0 r cI cJ cZ cB cT h)[17]? = some ((r 32), .inl (cI, 24, .inl (eA h 0 32))) := rfl
theorem wM_sA17 {m0 : Nat} {r : Nat → Nat} {cI cJ cZ cB cT : ClassId} {h : HS} {x : Nat → Int32} : (wM m0 r cI cJ cZ cB cT h).set 17 ((r 32), .inl (cI, 24, .inl x)) = wM m0 r cI cJ cZ cB cT (sA h 0 32 x) := rfl
theorem wM_at18 {m0 : Nat} {r : Nat → Nat} {cI cJ cZ cB cT : ClassId} {h : HS} : (wM m0 r cI cJ cZ cB cT h)[18]? = some ((r 33), .inl (cI, 24, .inl (eA h 0 33))) := rfl
theorem wM_sA18 {m0 : Nat} {r : Nat → Nat} {cI cJ cZ cB cT : ClassId} {h : HS} {x : Nat → Int32} : (wM m0 r cI cJ cZ cB cT h).set 18 ((r 33), .inl (cI, 24, .inl x)) = wM m0 r cI cJ cZ cB cT (sA h 0 33 x) := rfl
theorem wM_at19 {m0 : Nat} {r : Nat → Nat} {cI cJ cZ cB cT : ClassId} {h : HS} : (wM m0 r cI cJ cZ cB cT h)[19]? = some ((r 34), .inl (cI, 24, .inl (eA h 0 34))) := rfl
theorem wM_sA19 {m0 : Nat} {r : Nat → Nat} {cI cJ cZ cB cT : ClassId} {h : HS} {x : Nat → Int32} : (wM m0 r cI cJ cZ cB cT h).set 19 ((r 34), .inl (cI, 24, .inl x)) = wM m0 r cI cJ cZ cB cT (sA h 0 34 x) := rfl
theorem wM_at20 {m0 : Nat} {r : Nat → Nat} {cI cJ cZ cB cT : ClassId} {h : HS} : (wM m0 r cI cJ cZ cB cT h)[20]? = some ((r 35), .inl (cI, 24, .inl (eA h 0 35))) := rfl
theorem wM_sA20 {m0 : Nat} {r : Nat → Nat} {cI cJ cZ cB cT : ClassId} {h : HS} {x : Nat → Int32} : (wM m0 r cI cJ cZ cB cT h).set 20 ((r 35), .inl (cI, 24, .inl x)) = wM m0 r cI cJ cZ cB cT (sA h 0 35 x) := rfl
theorem wM_at21 {m0 : Nat} {r : Nat → Nat} {cI cJ cZ cB cT : ClassId} {h : HS} : (wM m0 r cI cJ cZ cB cT h)[21]? = some ((r 37), .inl (cI, 400, .inl (eA h 0 37))) := rfl
theorem wM_sA21 {m0 : Nat} {r : Nat → Nat} {cI cJ cZ cB cT : ClassId} {h : HS} {x : Nat → Int32} : (wM m0 r cI cJ cZ cB cT h).set 21 ((r 37), .inl (cI, 400, .inl x)) = wM m0 r cI cJ cZ cB cT (sA h 0 37 x) := rfl
theorem wM_at22 {m0 : Nat} {r : Nat → Nat} {cI cJ cZ cB cT : ClassId} {h : HS} : (wM m0 r cI cJ cZ cB cT h)[22]? = some ((r 38), .inl (cI, 400, .inl (eA h 0 38))) := rfl
theorem wM_sA22 {m0 : Nat} {r : Nat → Nat} {cI cJ cZ cB cT : ClassId} {h : HS} {x : Nat → Int32} : (wM m0 r cI cJ cZ cB cT h).set 22 ((r 38), .inl (cI, 400, .inl x)) = wM m0 r cI cJ cZ cB cT (sA h 0 38 x) := rfl
theorem wM_at23 {m0 : Nat} {r : Nat → Nat} {cI cJ cZ cB cT : ClassId} {h : HS} : (wM m0 r cI cJ cZ cB cT h)[23]? = some ((r 39), .inl (cI, 9, .inl (eA h 0 39))) := rfl
theorem wM_sA23 {m0 : Nat} {r : Nat → Nat} {cI cJ cZ cB cT : ClassId} {h : HS} {x : Nat → Int32} : (wM m0 r cI cJ cZ cB cT h).set 23 ((r 39), .inl (cI, 9, .inl x)) = wM m0 r cI cJ cZ cB cT (sA h 0 39 x) := rfl
theorem wM_at24 {m0 : Nat} {r : Nat → Nat} {cI cJ cZ cB cT : ClassId} {h : HS} : (wM m0 r cI cJ cZ cB cT h)[24]? = some ((r 40), .inl (cJ, 200, .inr (.inl (eJ h 0 40)))) := rfl
theorem wM_sA24 {m0 : Nat} {r : Nat → Nat} {cI cJ cZ cB cT : ClassId} {h : HS} {x : Nat → Int64} : (wM m0 r cI cJ cZ cB cT h).set 24 ((r 40), .inl (cJ, 200, .inr (.inl x))) = wM m0 r cI cJ cZ cB cT (sJ h 0 40 x) := rfl
theorem wM_at25 {m0 : Nat} {r : Nat → Nat} {cI cJ cZ cB cT : ClassId} {h : HS} : (wM m0 r cI cJ cZ cB cT h)[25]? = some ((r 41), .inl (cJ, 16, .inr (.inl (eJ h 0 41)))) := rfl
theorem wM_sA25 {m0 : Nat} {r : Nat → Nat} {cI cJ cZ cB cT : ClassId} {h : HS} {x : Nat → Int64} : (wM m0 r cI cJ cZ cB cT h).set 25 ((r 41), .inl (cJ, 16, .inr (.inl x))) = wM m0 r cI cJ cZ cB cT (sJ h 0 41 x) := rfl
theorem wM_at26 {m0 : Nat} {r : Nat → Nat} {cI cJ cZ cB cT : ClassId} {h : HS} : (wM m0 r cI cJ cZ cB cT h)[26]? = some ((r 42), .inl (cJ, 16, .inr (.inl (eJ h 0 42)))) := rfl
theorem wM_sA26 {m0 : Nat} {r : Nat → Nat} {cI cJ cZ cB cT : ClassId} {h : HS} {x : Nat → Int64} : (wM m0 r cI cJ cZ cB cT h).set 26 ((r 42), .inl (cJ, 16, .inr (.inl x))) = wM m0 r cI cJ cZ cB cT (sJ h 0 42 x) := rfl
theorem wM_at27 {m0 : Nat} {r : Nat → Nat} {cI cJ cZ cB cT : ClassId} {h : HS} : (wM m0 r cI cJ cZ cB cT h)[27]? = some ((r 43), .inl (cI, 120, .inl (eA h 0 43))) := rfl
theorem wM_sA27 {m0 : Nat} {r : Nat → Nat} {cI cJ cZ cB cT : ClassId} {h : HS} {x : Nat → Int32} : (wM m0 r cI cJ cZ cB cT h).set 27 ((r 43), .inl (cI, 120, .inl x)) = wM m0 r cI cJ cZ cB cT (sA h 0 43 x) := rfl
theorem wM_at28 {m0 : Nat} {r : Nat → Nat} {cI cJ cZ cB cT : ClassId} {h : HS} : (wM m0 r cI cJ cZ cB cT h)[28]? = some ((r 44), .inl (cI, 120, .inl (eA h 0 44))) := rfl
theorem wM_sA28 {m0 : Nat} {r : Nat → Nat} {cI cJ cZ cB cT : ClassId} {h : HS} {x : Nat → Int32} : (wM m0 r cI cJ cZ cB cT h).set 28 ((r 44), .inl (cI, 120, .inl x)) = wM m0 r cI cJ cZ cB cT (sA h 0 44 x) := rfl
theorem wM_at29 {m0 : Nat} {r : Nat → Nat} {cI cJ cZ cB cT : ClassId} {h : HS} : (wM m0 r cI cJ cZ cB cT h)[29]? = some ((r 45), .inl (cZ, 120, .inl (eA h 0 45))) := rfl
theorem wM_sA29 {m0 : Nat} {r : Nat → Nat} {cI cJ cZ cB cT : ClassId} {h : HS} {x : Nat → Int32} : (wM m0 r cI cJ cZ cB cT h).set 29 ((r 45), .inl (cZ, 120, .inl x)) = wM m0 r cI cJ cZ cB cT (sA h 0 45 x) := rfl
theorem wM_at30 {m0 : Nat} {r : Nat → Nat} {cI cJ cZ cB cT : ClassId} {h : HS} : (wM m0 r cI cJ cZ cB cT h)[30]? = some ((r 46), .inl (cI, 10, .inl (eA h 0 46))) := rfl
theorem wM_sA30 {m0 : Nat} {r : Nat → Nat} {cI cJ cZ cB cT : ClassId} {h : HS} {x : Nat → Int32} : (wM m0 r cI cJ cZ cB cT h).set 30 ((r 46), .inl (cI, 10, .inl x)) = wM m0 r cI cJ cZ cB cT (sA h 0 46 x) := rfl
theorem wM_at31 {m0 : Nat} {r : Nat → Nat} {cI cJ cZ cB cT : ClassId} {h : HS} : (wM m0 r cI cJ cZ cB cT h)[31]? = some ((r 48), .inl (cI, 3, .inl (eA h 0 48))) := rfl
theorem wM_sA31 {m0 : Nat} {r : Nat → Nat} {cI cJ cZ cB cT : ClassId} {h : HS} {x : Nat → Int32} : (wM m0 r cI cJ cZ cB cT h).set 31 ((r 48), .inl (cI, 3, .inl x)) = wM m0 r cI cJ cZ cB cT (sA h 0 48 x) := rfl
theorem wM_at32 {m0 : Nat} {r : Nat → Nat} {cI cJ cZ cB cT : ClassId} {h : HS} : (wM m0 r cI cJ cZ cB cT h)[32]? = some ((r 49), .inl (cI, 3, .inl (eA h 0 49))) := rfl
theorem wM_sA32 {m0 : Nat} {r : Nat → Nat} {cI cJ cZ cB cT : ClassId} {h : HS} {x : Nat → Int32} : (wM m0 r cI cJ cZ cB cT h).set 32 ((r 49), .inl (cI, 3, .inl x)) = wM m0 r cI cJ cZ cB cT (sA h 0 49 x) := rfl
theorem wM_at33 {m0 : Nat} {r : Nat → Nat} {cI cJ cZ cB cT : ClassId} {h : HS} : (wM m0 r cI cJ cZ cB cT h)[33]? = some ((r 50), .inl (cI, 3, .inl (eA h 0 50))) := rfl
theorem wM_sA33 {m0 : Nat} {r : Nat → Nat} {cI cJ cZ cB cT : ClassId} {h : HS} {x : Nat → Int32} : (wM m0 r cI cJ cZ cB cT h).set 33 ((r 50), .inl (cI, 3, .inl x)) = wM m0 r cI cJ cZ cB cT (sA h 0 50 x) := rfl
theorem wM_at34 {m0 : Nat} {r : Nat → Nat} {cI cJ cZ cB cT : ClassId} {h : HS} : (wM m0 r cI cJ cZ cB cT h)[34]? = some ((r 51), .inl (cI, 3, .inl (eA h 0 51))) := rfl
theorem wM_sA34 {m0 : Nat} {r : Nat → Nat} {cI cJ cZ cB cT : ClassId} {h : HS} {x : Nat → Int32} : (wM m0 r cI cJ cZ cB cT h).set 34 ((r 51), .inl (cI, 3, .inl x)) = wM m0 r cI cJ cZ cB cT (sA h 0 51 x) := rfl
