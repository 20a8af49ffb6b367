def RX0 : String := "DiceAudit$Dice"
def TX0 : u_T := fun k => match k with
  | 0 => ("DiceAudit$Dice", "faceCounts", "[I", true)
  | 1 => ("DiceAudit$Dice", "weights", "[I", true)
  | _ => ("DiceAudit$Dice", "count", "I", false)
def tyX0 : Nat → FieldType := fun k => match k with
  | 0 => .array .int
  | 1 => .array .int
  | _ => .int
abbrev wsX00 : List Cond := u_ws RX0 TX0 3
theorem nmX0 : ∀ a, a < 3 → ∀ b, b < 3 → a ≠ b → (TX0 a).2.1 ≠ (TX0 b).2.1 := by decide +kernel
theorem tyX0_ok : ∀ k, k < 3 → parseFieldDescriptor (TX0 k).2.2.1 = some (tyX0 k) := by decide +kernel
abbrev cX0_init : ByteArray := prog_2_method_1_code
def yX0_init : MethodName := ⟨RX0, "<init>", "()V"⟩
abbrev cX0_clear : ByteArray := prog_2_method_2_code
def yX0_clear : MethodName := ⟨RX0, "clear", "()V"⟩
abbrev cX0_copyFrom : ByteArray := prog_2_method_3_code
def yX0_copyFrom : MethodName := ⟨RX0, "copyFrom", "(LDiceAudit$Dice;)V"⟩
abbrev cX0_add : ByteArray := prog_2_method_4_code
def yX0_add : MethodName := ⟨RX0, "add", "(I)V"⟩
abbrev cX0_faceCount : ByteArray := prog_2_method_5_code
def yX0_faceCount : MethodName := ⟨RX0, "faceCount", "(I)I"⟩
abbrev cX0_weight : ByteArray := prog_2_method_6_code
def yX0_weight : MethodName := ⟨RX0, "weight", "(II)I"⟩
abbrev cX0_putWeight : ByteArray := prog_2_method_7_code
def yX0_putWeight : MethodName := ⟨RX0, "putWeight", "(III)V"⟩
abbrev cX0_weightSum : ByteArray := prog_2_method_8_code
def yX0_weightSum : MethodName := ⟨RX0, "weightSum", "(I)I"⟩
abbrev cX0_faceShown : ByteArray := prog_2_method_10_code
def yX0_faceShown : MethodName := ⟨RX0, "faceShown", "(II)I"⟩
abbrev cX0_fairFaceShown : ByteArray := prog_2_method_11_code
def yX0_fairFaceShown : MethodName := ⟨RX0, "fairFaceShown", "(II)I"⟩
def RX1 : String := "DiceAudit$Forecast"
def TX1 : u_T := fun k => match k with
  | 0 => ("DiceAudit$Forecast", "frequencies", "[I", true)
  | 1 => ("DiceAudit$Forecast", "die", "I", false)
  | _ => ("DiceAudit$Forecast", "seed", "I", false)
def tyX1 : Nat → FieldType := fun k => match k with
  | 0 => .array .int
  | 1 => .int
  | _ => .int
abbrev wsX10 : List Cond := u_ws RX1 TX1 3
theorem nmX1 : ∀ a, a < 3 → ∀ b, b < 3 → a ≠ b → (TX1 a).2.1 ≠ (TX1 b).2.1 := by decide +kernel
theorem tyX1_ok : ∀ k, k < 3 → parseFieldDescriptor (TX1 k).2.2.1 = some (tyX1 k) := by decide +kernel
abbrev cX1_init : ByteArray := prog_3_method_1_code
def yX1_init : MethodName := ⟨RX1, "<init>", "()V"⟩
def RX2 : String := "DiceAudit$Hall"
def TX2 : u_T := fun k => match k with
  | 0 => ("DiceAudit$Hall", "dice", "LDiceAudit$Dice;", true)
  | 1 => ("DiceAudit$Hall", "players", "LDiceAudit$Players;", true)
  | 2 => ("DiceAudit$Hall", "ledger", "LDiceAudit$Ledger;", true)
  | 3 => ("DiceAudit$Hall", "offences", "LDiceAudit$Offences;", true)
  | 4 => ("DiceAudit$Hall", "seed", "I", false)
  | 5 => ("DiceAudit$Hall", "minimum", "I", false)
  | _ => ("DiceAudit$Hall", "threshold", "I", false)
def tyX2 : Nat → FieldType := fun k => match k with
  | 0 => .object "DiceAudit$Dice"
  | 1 => .object "DiceAudit$Players"
  | 2 => .object "DiceAudit$Ledger"
  | 3 => .object "DiceAudit$Offences"
  | 4 => .int
  | 5 => .int
  | _ => .int
abbrev wsX20 : List Cond := u_ws RX2 TX2 7
theorem nmX2 : ∀ a, a < 7 → ∀ b, b < 7 → a ≠ b → (TX2 a).2.1 ≠ (TX2 b).2.1 := by decide +kernel
theorem tyX2_ok : ∀ k, k < 7 → parseFieldDescriptor (TX2 k).2.2.1 = some (tyX2 k) := by decide +kernel
abbrev cX2_init : ByteArray := prog_4_method_1_code
def yX2_init : MethodName := ⟨RX2, "<init>", "()V"⟩
abbrev cX2_begin : ByteArray := prog_4_method_2_code
def yX2_begin : MethodName := ⟨RX2, "begin", "(III)V"⟩
abbrev cX2_copyFrom : ByteArray := prog_4_method_3_code
def yX2_copyFrom : MethodName := ⟨RX2, "copyFrom", "(LDiceAudit$Hall;)V"⟩
abbrev cX2_makeThrows : ByteArray := prog_4_method_4_code
def yX2_makeThrows : MethodName := ⟨RX2, "makeThrows", "(IIZ)I"⟩
abbrev cX2_pairScore : ByteArray := prog_4_method_5_code
def yX2_pairScore : MethodName := ⟨RX2, "pairScore", "(I)I"⟩
abbrev cX2_exceedsLimits : ByteArray := prog_4_method_6_code
def yX2_exceedsLimits : MethodName := ⟨RX2, "exceedsLimits", "(II)Z"⟩
abbrev cX2_isPairSuspicious : ByteArray := prog_4_method_7_code
def yX2_isPairSuspicious : MethodName := ⟨RX2, "isPairSuspicious", "(I)Z"⟩
abbrev cX2_countSuspicious : ByteArray := prog_4_method_8_code
def yX2_countSuspicious : MethodName := ⟨RX2, "countSuspicious", "()I"⟩
abbrev cX2_holdAudit : ByteArray := prog_4_method_10_code
def yX2_holdAudit : MethodName := ⟨RX2, "holdAudit", "()I"⟩
abbrev cX2_penanceSize : ByteArray := prog_4_method_11_code
def yX2_penanceSize : MethodName := ⟨RX2, "penanceSize", "()I"⟩
abbrev cX2_doPenance : ByteArray := prog_4_method_12_code
def yX2_doPenance : MethodName := ⟨RX2, "doPenance", "()I"⟩
def RX3 : String := "DiceAudit$History"
def TX3 : u_T := fun k => match k with
  | 0 => ("DiceAudit$History", "rows", "[LDiceAudit$Hall;", true)
  | 1 => ("DiceAudit$History", "next", "I", false)
  | _ => ("DiceAudit$History", "depth", "I", false)
def tyX3 : Nat → FieldType := fun k => match k with
  | 0 => .array (.object "DiceAudit$Hall")
  | 1 => .int
  | _ => .int
abbrev wsX30 : List Cond := u_ws RX3 TX3 3
theorem nmX3 : ∀ a, a < 3 → ∀ b, b < 3 → a ≠ b → (TX3 a).2.1 ≠ (TX3 b).2.1 := by decide +kernel
theorem tyX3_ok : ∀ k, k < 3 → parseFieldDescriptor (TX3 k).2.2.1 = some (tyX3 k) := by decide +kernel
abbrev cX3_init : ByteArray := prog_5_method_1_code
def yX3_init : MethodName := ⟨RX3, "<init>", "()V"⟩
abbrev cX3_remember : ByteArray := prog_5_method_2_code
def yX3_remember : MethodName := ⟨RX3, "remember", "(LDiceAudit$Hall;)V"⟩
def RX4 : String := "DiceAudit$Ledger"
def TX4 : u_T := fun k => match k with
  | 0 => ("DiceAudit$Ledger", "entries", "[I", true)
  | 1 => ("DiceAudit$Ledger", "frequencies", "[I", true)
  | _ => ("DiceAudit$Ledger", "count", "I", false)
def tyX4 : Nat → FieldType := fun k => match k with
  | 0 => .array .int
  | 1 => .array .int
  | _ => .int
abbrev wsX40 : List Cond := u_ws RX4 TX4 3
theorem nmX4 : ∀ a, a < 3 → ∀ b, b < 3 → a ≠ b → (TX4 a).2.1 ≠ (TX4 b).2.1 := by decide +kernel
theorem tyX4_ok : ∀ k, k < 3 → parseFieldDescriptor (TX4 k).2.2.1 = some (tyX4 k) := by decide +kernel
abbrev cX4_init : ByteArray := prog_6_method_1_code
def yX4_init : MethodName := ⟨RX4, "<init>", "()V"⟩
abbrev cX4_clear : ByteArray := prog_6_method_2_code
def yX4_clear : MethodName := ⟨RX4, "clear", "()V"⟩
abbrev cX4_copyFrom : ByteArray := prog_6_method_3_code
def yX4_copyFrom : MethodName := ⟨RX4, "copyFrom", "(LDiceAudit$Ledger;)V"⟩
abbrev cX4_add : ByteArray := prog_6_method_4_code
def yX4_add : MethodName := ⟨RX4, "add", "(IIZ)V"⟩
abbrev cX4_pairIn : ByteArray := prog_6_method_5_code
def yX4_pairIn : MethodName := ⟨RX4, "pairIn", "(I)I"⟩
abbrev cX4_faceIn : ByteArray := prog_6_method_6_code
def yX4_faceIn : MethodName := ⟨RX4, "faceIn", "(I)I"⟩
abbrev cX4_isMarked : ByteArray := prog_6_method_7_code
def yX4_isMarked : MethodName := ⟨RX4, "isMarked", "(I)Z"⟩
abbrev cX4_removeLatest : ByteArray := prog_6_method_8_code
def yX4_removeLatest : MethodName := ⟨RX4, "removeLatest", "(II)V"⟩
abbrev cX4_pairThrows : ByteArray := prog_6_method_9_code
def yX4_pairThrows : MethodName := ⟨RX4, "pairThrows", "(I)I"⟩
abbrev cX4_playerTotal : ByteArray := prog_6_method_13_code
def yX4_playerTotal : MethodName := ⟨RX4, "playerTotal", "(I)I"⟩
abbrev cX4_frequencySum : ByteArray := prog_6_method_15_code
def yX4_frequencySum : MethodName := ⟨RX4, "frequencySum", "()I"⟩
abbrev cX4_faceSum : ByteArray := prog_6_method_16_code
def yX4_faceSum : MethodName := ⟨RX4, "faceSum", "()I"⟩
def RX5 : String := "DiceAudit$Loader"
def TX5 : u_T := fun k => match k with
  | 0 => ("DiceAudit$Loader", "text", "LDiceAudit$Text;", true)
  | 1 => ("DiceAudit$Loader", "tokens", "LDiceAudit$Tokens;", true)
  | 2 => ("DiceAudit$Loader", "draft", "LDiceAudit$Hall;", true)
  | 3 => ("DiceAudit$Loader", "error", "I", false)
  | _ => ("DiceAudit$Loader", "errorOffset", "I", false)
def tyX5 : Nat → FieldType := fun k => match k with
  | 0 => .object "DiceAudit$Text"
  | 1 => .object "DiceAudit$Tokens"
  | 2 => .object "DiceAudit$Hall"
  | 3 => .int
  | _ => .int
abbrev wsX50 : List Cond := u_ws RX5 TX5 5
theorem nmX5 : ∀ a, a < 5 → ∀ b, b < 5 → a ≠ b → (TX5 a).2.1 ≠ (TX5 b).2.1 := by decide +kernel
theorem tyX5_ok : ∀ k, k < 5 → parseFieldDescriptor (TX5 k).2.2.1 = some (tyX5 k) := by decide +kernel
abbrev cX5_init : ByteArray := prog_7_method_1_code
def yX5_init : MethodName := ⟨RX5, "<init>", "(LDiceAudit$Text;)V"⟩
abbrev cX5_parse : ByteArray := prog_7_method_2_code
def yX5_parse : MethodName := ⟨RX5, "parse", "()Z"⟩
abbrev cX5_hasMore : ByteArray := prog_7_method_3_code
def yX5_hasMore : MethodName := ⟨RX5, "hasMore", "()Z"⟩
abbrev cX5_readHall : ByteArray := prog_7_method_4_code
def yX5_readHall : MethodName := ⟨RX5, "readHall", "()V"⟩
abbrev cX5_readStatement : ByteArray := prog_7_method_5_code
def yX5_readStatement : MethodName := ⟨RX5, "readStatement", "()V"⟩
abbrev cX5_readDie : ByteArray := prog_7_method_6_code
def yX5_readDie : MethodName := ⟨RX5, "readDie", "()V"⟩
abbrev cX5_readPlayer : ByteArray := prog_7_method_7_code
def yX5_readPlayer : MethodName := ⟨RX5, "readPlayer", "()V"⟩
abbrev cX5_takeNewName : ByteArray := prog_7_method_8_code
def yX5_takeNewName : MethodName := ⟨RX5, "takeNewName", "()V"⟩
abbrev cX5_readThrow : ByteArray := prog_7_method_9_code
def yX5_readThrow : MethodName := ⟨RX5, "readThrow", "()V"⟩
abbrev cX5_readAudit : ByteArray := prog_7_method_10_code
def yX5_readAudit : MethodName := ⟨RX5, "readAudit", "()V"⟩
abbrev cX5_readAbsolve : ByteArray := prog_7_method_11_code
def yX5_readAbsolve : MethodName := ⟨RX5, "readAbsolve", "()V"⟩
abbrev cX5_readForgive : ByteArray := prog_7_method_12_code
def yX5_readForgive : MethodName := ⟨RX5, "readForgive", "()V"⟩
abbrev cX5_takeKnownName : ByteArray := prog_7_method_13_code
def yX5_takeKnownName : MethodName := ⟨RX5, "takeKnownName", "()I"⟩
abbrev cX5_takeKeyword : ByteArray := prog_7_method_14_code
def yX5_takeKeyword : MethodName := ⟨RX5, "takeKeyword", "(I)V"⟩
abbrev cX5_isNumberIn : ByteArray := prog_7_method_15_code
def yX5_isNumberIn : MethodName := ⟨RX5, "isNumberIn", "(II)Z"⟩
abbrev cX5_takeNumber : ByteArray := prog_7_method_16_code
def yX5_takeNumber : MethodName := ⟨RX5, "takeNumber", "(II)I"⟩
abbrev cX5_takeSemicolon : ByteArray := prog_7_method_17_code
def yX5_takeSemicolon : MethodName := ⟨RX5, "takeSemicolon", "(I)V"⟩
abbrev cX5_fail : ByteArray := prog_7_method_18_code
def yX5_fail : MethodName := ⟨RX5, "fail", "(I)V"⟩
def RX6 : String := "DiceAudit$Offences"
def TX6 : u_T := fun k => match k with
  | 0 => ("DiceAudit$Offences", "pairs", "[I", true)
  | 1 => ("DiceAudit$Offences", "scores", "[I", true)
  | _ => ("DiceAudit$Offences", "count", "I", false)
def tyX6 : Nat → FieldType := fun k => match k with
  | 0 => .array .int
  | 1 => .array .int
  | _ => .int
abbrev wsX60 : List Cond := u_ws RX6 TX6 3
theorem nmX6 : ∀ a, a < 3 → ∀ b, b < 3 → a ≠ b → (TX6 a).2.1 ≠ (TX6 b).2.1 := by decide +kernel
theorem tyX6_ok : ∀ k, k < 3 → parseFieldDescriptor (TX6 k).2.2.1 = some (tyX6 k) := by decide +kernel
abbrev cX6_init : ByteArray := prog_8_method_1_code
def yX6_init : MethodName := ⟨RX6, "<init>", "()V"⟩
abbrev cX6_clear : ByteArray := prog_8_method_2_code
def yX6_clear : MethodName := ⟨RX6, "clear", "()V"⟩
abbrev cX6_copyFrom : ByteArray := prog_8_method_3_code
def yX6_copyFrom : MethodName := ⟨RX6, "copyFrom", "(LDiceAudit$Offences;)V"⟩
abbrev cX6_has : ByteArray := prog_8_method_4_code
def yX6_has : MethodName := ⟨RX6, "has", "(I)Z"⟩
abbrev cX6_add : ByteArray := prog_8_method_5_code
def yX6_add : MethodName := ⟨RX6, "add", "(II)V"⟩
abbrev cX6_goesBefore : ByteArray := prog_8_method_6_code
def yX6_goesBefore : MethodName := ⟨RX6, "goesBefore", "(III)Z"⟩
abbrev cX6_set : ByteArray := prog_8_method_7_code
def yX6_set : MethodName := ⟨RX6, "set", "(III)V"⟩
abbrev cX6_removeFirst : ByteArray := prog_8_method_8_code
def yX6_removeFirst : MethodName := ⟨RX6, "removeFirst", "()V"⟩
abbrev cX6_removeAllOf : ByteArray := prog_8_method_9_code
def yX6_removeAllOf : MethodName := ⟨RX6, "removeAllOf", "(I)I"⟩
def RX7 : String := "DiceAudit$Players"
def TX7 : u_T := fun k => match k with
  | 0 => ("DiceAudit$Players", "lengths", "[I", true)
  | 1 => ("DiceAudit$Players", "letters", "[I", true)
  | _ => ("DiceAudit$Players", "count", "I", false)
def tyX7 : Nat → FieldType := fun k => match k with
  | 0 => .array .int
  | 1 => .array .int
  | _ => .int
abbrev wsX70 : List Cond := u_ws RX7 TX7 3
theorem nmX7 : ∀ a, a < 3 → ∀ b, b < 3 → a ≠ b → (TX7 a).2.1 ≠ (TX7 b).2.1 := by decide +kernel
theorem tyX7_ok : ∀ k, k < 3 → parseFieldDescriptor (TX7 k).2.2.1 = some (tyX7 k) := by decide +kernel
abbrev cX7_init : ByteArray := prog_9_method_1_code
def yX7_init : MethodName := ⟨RX7, "<init>", "()V"⟩
abbrev cX7_clear : ByteArray := prog_9_method_2_code
def yX7_clear : MethodName := ⟨RX7, "clear", "()V"⟩
abbrev cX7_copyFrom : ByteArray := prog_9_method_3_code
def yX7_copyFrom : MethodName := ⟨RX7, "copyFrom", "(LDiceAudit$Players;)V"⟩
abbrev cX7_add : ByteArray := prog_9_method_4_code
def yX7_add : MethodName := ⟨RX7, "add", "(LDiceAudit$Text;II)V"⟩
abbrev cX7_find : ByteArray := prog_9_method_7_code
def yX7_find : MethodName := ⟨RX7, "find", "(LDiceAudit$Text;II)I"⟩
abbrev cX7_isNamed : ByteArray := prog_9_method_8_code
def yX7_isNamed : MethodName := ⟨RX7, "isNamed", "(ILDiceAudit$Text;II)Z"⟩
def RX8 : String := "DiceAudit$Text"
def TX8 : u_T := fun k => match k with
  | 0 => ("DiceAudit$Text", "bytes", "[I", true)
  | _ => ("DiceAudit$Text", "length", "I", false)
def tyX8 : Nat → FieldType := fun k => match k with
  | 0 => .array .int
  | _ => .int
abbrev wsX80 : List Cond := u_ws RX8 TX8 2
theorem nmX8 : ∀ a, a < 2 → ∀ b, b < 2 → a ≠ b → (TX8 a).2.1 ≠ (TX8 b).2.1 := by decide +kernel
theorem tyX8_ok : ∀ k, k < 2 → parseFieldDescriptor (TX8 k).2.2.1 = some (tyX8 k) := by decide +kernel
abbrev cX8_init : ByteArray := prog_10_method_1_code
def yX8_init : MethodName := ⟨RX8, "<init>", "()V"⟩
abbrev cX8_byteIn : ByteArray := prog_10_method_2_code
def yX8_byteIn : MethodName := ⟨RX8, "byteIn", "(I)I"⟩
abbrev cX8_append : ByteArray := prog_10_method_3_code
def yX8_append : MethodName := ⟨RX8, "append", "(I)V"⟩
abbrev cX8_appendWord : ByteArray := prog_10_method_4_code
def yX8_appendWord : MethodName := ⟨RX8, "appendWord", "(I)V"⟩
abbrev cX8_appendString : ByteArray := prog_10_method_5_code
def yX8_appendString : MethodName := ⟨RX8, "appendString", "(Ljava/lang/String;)V"⟩
abbrev cX8_cutTo : ByteArray := prog_10_method_8_code
def yX8_cutTo : MethodName := ⟨RX8, "cutTo", "(I)V"⟩
def RX9 : String := "DiceAudit$Tokens"
def TX9 : u_T := fun k => match k with
  | 0 => ("DiceAudit$Tokens", "text", "LDiceAudit$Text;", true)
  | 1 => ("DiceAudit$Tokens", "kind", "I", false)
  | 2 => ("DiceAudit$Tokens", "start", "I", false)
  | 3 => ("DiceAudit$Tokens", "end", "I", false)
  | _ => ("DiceAudit$Tokens", "value", "I", false)
def tyX9 : Nat → FieldType := fun k => match k with
  | 0 => .object "DiceAudit$Text"
  | 1 => .int
  | 2 => .int
  | 3 => .int
  | _ => .int
abbrev wsX90 : List Cond := u_ws RX9 TX9 5
theorem nmX9 : ∀ a, a < 5 → ∀ b, b < 5 → a ≠ b → (TX9 a).2.1 ≠ (TX9 b).2.1 := by decide +kernel
theorem tyX9_ok : ∀ k, k < 5 → parseFieldDescriptor (TX9 k).2.2.1 = some (tyX9 k) := by decide +kernel
abbrev cX9_init : ByteArray := prog_11_method_1_code
def yX9_init : MethodName := ⟨RX9, "<init>", "(LDiceAudit$Text;)V"⟩
abbrev cX9_rewind : ByteArray := prog_11_method_2_code
def yX9_rewind : MethodName := ⟨RX9, "rewind", "()V"⟩
abbrev cX9_advance : ByteArray := prog_11_method_3_code
def yX9_advance : MethodName := ⟨RX9, "advance", "()V"⟩
abbrev cX9_passLetters : ByteArray := prog_11_method_4_code
def yX9_passLetters : MethodName := ⟨RX9, "passLetters", "()V"⟩
abbrev cX9_passDigits : ByteArray := prog_11_method_5_code
def yX9_passDigits : MethodName := ⟨RX9, "passDigits", "()V"⟩
abbrev cX9_isWord : ByteArray := prog_11_method_6_code
def yX9_isWord : MethodName := ⟨RX9, "isWord", "(Ljava/lang/String;)Z"⟩
abbrev cX9_isSemicolon : ByteArray := prog_11_method_7_code
def yX9_isSemicolon : MethodName := ⟨RX9, "isSemicolon", "()Z"⟩
abbrev cX9_isBlank : ByteArray := prog_11_method_8_code
def yX9_isBlank : MethodName := ⟨RX9, "isBlank", "(I)Z"⟩
abbrev cX9_isLetter : ByteArray := prog_11_method_9_code
def yX9_isLetter : MethodName := ⟨RX9, "isLetter", "(I)Z"⟩
abbrev cX9_isDigit : ByteArray := prog_11_method_10_code
def yX9_isDigit : MethodName := ⟨RX9, "isDigit", "(I)Z"⟩
def RX10 : String := "DiceAudit"
def TX10 : u_T := fun k => match k with
  | 0 => ("DiceAudit", "input", "LDiceAudit$Text;", true)
  | 1 => ("DiceAudit", "loader", "LDiceAudit$Loader;", true)
  | 2 => ("DiceAudit", "output", "LDiceAudit$Text;", true)
  | 3 => ("DiceAudit", "hall", "LDiceAudit$Hall;", true)
  | 4 => ("DiceAudit", "forecast", "LDiceAudit$Forecast;", true)
  | 5 => ("DiceAudit", "history", "LDiceAudit$History;", true)
  | 6 => ("DiceAudit", "slots", "[LDiceAudit$Hall;", true)
  | _ => ("DiceAudit", "slotsInUse", "[I", true)
def tyX10 : Nat → FieldType := fun k => match k with
  | 0 => .object "DiceAudit$Text"
  | 1 => .object "DiceAudit$Loader"
  | 2 => .object "DiceAudit$Text"
  | 3 => .object "DiceAudit$Hall"
  | 4 => .object "DiceAudit$Forecast"
  | 5 => .object "DiceAudit$History"
  | 6 => .array (.object "DiceAudit$Hall")
  | _ => .array .int
abbrev wsX100 : List Cond := u_ws RX10 TX10 8
theorem nmX10 : ∀ a, a < 8 → ∀ b, b < 8 → a ≠ b → (TX10 a).2.1 ≠ (TX10 b).2.1 := by decide +kernel
theorem tyX10_ok : ∀ k, k < 8 → parseFieldDescriptor (TX10 k).2.2.1 = some (tyX10 k) := by decide +kernel
abbrev cX10_init : ByteArray := prog_1_method_1_code
def yX10_init : MethodName := ⟨RX10, "<init>", "()V"⟩
abbrev cX10_appendInput : ByteArray := prog_1_method_2_code
def yX10_appendInput : MethodName := ⟨RX10, "appendInput", "(IIIII)I"⟩
abbrev cX10_truncateInput : ByteArray := prog_1_method_3_code
def yX10_truncateInput : MethodName := ⟨RX10, "truncateInput", "(I)I"⟩
abbrev cX10_load : ByteArray := prog_1_method_4_code
def yX10_load : MethodName := ⟨RX10, "load", "()I"⟩
abbrev cX10_errorCode : ByteArray := prog_1_method_5_code
def yX10_errorCode : MethodName := ⟨RX10, "errorCode", "()I"⟩
abbrev cX10_seed : ByteArray := prog_1_method_7_code
def yX10_seed : MethodName := ⟨RX10, "seed", "()I"⟩
abbrev cX10_minimum : ByteArray := prog_1_method_8_code
def yX10_minimum : MethodName := ⟨RX10, "minimum", "()I"⟩
abbrev cX10_threshold : ByteArray := prog_1_method_9_code
def yX10_threshold : MethodName := ⟨RX10, "threshold", "()I"⟩
abbrev cX10_dieCount : ByteArray := prog_1_method_10_code
def yX10_dieCount : MethodName := ⟨RX10, "dieCount", "()I"⟩
abbrev cX10_throwCount : ByteArray := prog_1_method_12_code
def yX10_throwCount : MethodName := ⟨RX10, "throwCount", "()I"⟩
abbrev cX10_faces : ByteArray := prog_1_method_13_code
def yX10_faces : MethodName := ⟨RX10, "faces", "(I)I"⟩
abbrev cX10_weightOf : ByteArray := prog_1_method_14_code
def yX10_weightOf : MethodName := ⟨RX10, "weightOf", "(II)I"⟩
abbrev cX10_playerAt : ByteArray := prog_1_method_18_code
def yX10_playerAt : MethodName := ⟨RX10, "playerAt", "(I)I"⟩
abbrev cX10_dieAt : ByteArray := prog_1_method_19_code
def yX10_dieAt : MethodName := ⟨RX10, "dieAt", "(I)I"⟩
abbrev cX10_faceAt : ByteArray := prog_1_method_20_code
def yX10_faceAt : MethodName := ⟨RX10, "faceAt", "(I)I"⟩
abbrev cX10_isFairAt : ByteArray := prog_1_method_21_code
def yX10_isFairAt : MethodName := ⟨RX10, "isFairAt", "(I)Z"⟩
abbrev cX10_throwsOfPair : ByteArray := prog_1_method_29_code
def yX10_throwsOfPair : MethodName := ⟨RX10, "throwsOfPair", "(II)I"⟩
abbrev cX10_score : ByteArray := prog_1_method_34_code
def yX10_score : MethodName := ⟨RX10, "score", "(II)I"⟩
abbrev cX10_isSuspicious : ByteArray := prog_1_method_35_code
def yX10_isSuspicious : MethodName := ⟨RX10, "isSuspicious", "(II)Z"⟩
abbrev cX10_offenceCount : ByteArray := prog_1_method_38_code
def yX10_offenceCount : MethodName := ⟨RX10, "offenceCount", "()I"⟩
abbrev cX10_offencePlayer : ByteArray := prog_1_method_39_code
def yX10_offencePlayer : MethodName := ⟨RX10, "offencePlayer", "(I)I"⟩
abbrev cX10_offenceDie : ByteArray := prog_1_method_40_code
def yX10_offenceDie : MethodName := ⟨RX10, "offenceDie", "(I)I"⟩
abbrev cX10_offenceScore : ByteArray := prog_1_method_41_code
def yX10_offenceScore : MethodName := ⟨RX10, "offenceScore", "(I)I"⟩
abbrev cX10_frequencyDifference : ByteArray := prog_1_method_49_code
def yX10_frequencyDifference : MethodName := ⟨RX10, "frequencyDifference", "()I"⟩
abbrev cX10_totalDifference : ByteArray := prog_1_method_50_code
def yX10_totalDifference : MethodName := ⟨RX10, "totalDifference", "()I"⟩
abbrev cX10_throwDie : ByteArray := prog_1_method_52_code
def yX10_throwDie : MethodName := ⟨RX10, "throwDie", "(III)I"⟩
abbrev cX10_audit : ByteArray := prog_1_method_53_code
def yX10_audit : MethodName := ⟨RX10, "audit", "()I"⟩
abbrev cX10_absolve : ByteArray := prog_1_method_54_code
def yX10_absolve : MethodName := ⟨RX10, "absolve", "()I"⟩
abbrev cX10_forgive : ByteArray := prog_1_method_55_code
def yX10_forgive : MethodName := ⟨RX10, "forgive", "(I)I"⟩
abbrev cX10_setWeight : ByteArray := prog_1_method_56_code
def yX10_setWeight : MethodName := ⟨RX10, "setWeight", "(III)I"⟩
abbrev cX10_setSeed : ByteArray := prog_1_method_57_code
def yX10_setSeed : MethodName := ⟨RX10, "setSeed", "(I)I"⟩
abbrev cX10_setLimits : ByteArray := prog_1_method_58_code
def yX10_setLimits : MethodName := ⟨RX10, "setLimits", "(II)I"⟩
abbrev cX10_requireDie : ByteArray := prog_1_method_67_code
def yX10_requireDie : MethodName := ⟨RX10, "requireDie", "(I)V"⟩
abbrev cX10_requirePlayer : ByteArray := prog_1_method_68_code
def yX10_requirePlayer : MethodName := ⟨RX10, "requirePlayer", "(I)V"⟩
abbrev cX10_requirePair : ByteArray := prog_1_method_69_code
def yX10_requirePair : MethodName := ⟨RX10, "requirePair", "(II)V"⟩
abbrev cX10_requireThrow : ByteArray := prog_1_method_70_code
def yX10_requireThrow : MethodName := ⟨RX10, "requireThrow", "(I)V"⟩
abbrev cX10_requireOffence : ByteArray := prog_1_method_71_code
def yX10_requireOffence : MethodName := ⟨RX10, "requireOffence", "(I)V"⟩
abbrev cX10_requireFace : ByteArray := prog_1_method_72_code
def yX10_requireFace : MethodName := ⟨RX10, "requireFace", "(II)V"⟩
abbrev cX10_requireIndex : ByteArray := prog_1_method_74_code
def yX10_requireIndex : MethodName := ⟨RX10, "requireIndex", "(II)V"⟩
abbrev cX10_requireRange : ByteArray := prog_1_method_75_code
def yX10_requireRange : MethodName := ⟨RX10, "requireRange", "(III)V"⟩
abbrev cX10_at : ByteArray := prog_1_method_76_code
def yX10_at : MethodName := ⟨RX10, "at", "([II)I"⟩
abbrev cX10_put : ByteArray := prog_1_method_77_code
def yX10_put : MethodName := ⟨RX10, "put", "([III)V"⟩
abbrev cX10_copyRow : ByteArray := prog_1_method_78_code
def yX10_copyRow : MethodName := ⟨RX10, "copyRow", "([I[I)V"⟩
abbrev cX10_sumOf : ByteArray := prog_1_method_79_code
def yX10_sumOf : MethodName := ⟨RX10, "sumOf", "([III)I"⟩
abbrev cX10_testScore : ByteArray := prog_1_method_81_code
def yX10_testScore : MethodName := ⟨RX10, "testScore", "([III)I"⟩
abbrev cX10_nextSeed : ByteArray := prog_1_method_82_code
def yX10_nextSeed : MethodName := ⟨RX10, "nextSeed", "(I)I"⟩
abbrev cX10_pairOf : ByteArray := prog_1_method_83_code
def yX10_pairOf : MethodName := ⟨RX10, "pairOf", "(II)I"⟩
abbrev cX10_playerOf : ByteArray := prog_1_method_84_code
def yX10_playerOf : MethodName := ⟨RX10, "playerOf", "(I)I"⟩
abbrev cX10_dieOf : ByteArray := prog_1_method_85_code
def yX10_dieOf : MethodName := ⟨RX10, "dieOf", "(I)I"⟩
abbrev cX10_cellOf : ByteArray := prog_1_method_86_code
def yX10_cellOf : MethodName := ⟨RX10, "cellOf", "(II)I"⟩
def RX11 : String := "DiceAuditLaw$Hand"
def TX11 : u_T := fun k => match k with
  | 0 => ("DiceAuditLaw$Hand", "weight", "[[I", true)
  | 1 => ("DiceAuditLaw$Hand", "thrown", "[[I", true)
  | 2 => ("DiceAuditLaw$Hand", "queue", "[[I", true)
  | 3 => ("DiceAuditLaw$Hand", "many", "I", false)
  | 4 => ("DiceAuditLaw$Hand", "offences", "I", false)
  | 5 => ("DiceAuditLaw$Hand", "seed", "J", false)
  | 6 => ("DiceAuditLaw$Hand", "minimum", "I", false)
  | _ => ("DiceAuditLaw$Hand", "threshold", "I", false)
def tyX11 : Nat → FieldType := fun k => match k with
  | 0 => .array (.array .int)
  | 1 => .array (.array .int)
  | 2 => .array (.array .int)
  | 3 => .int
  | 4 => .int
  | 5 => .long
  | 6 => .int
  | _ => .int
abbrev wsX110 : List Cond := u_ws RX11 TX11 8
theorem nmX11 : ∀ a, a < 8 → ∀ b, b < 8 → a ≠ b → (TX11 a).2.1 ≠ (TX11 b).2.1 := by decide +kernel
theorem tyX11_ok : ∀ k, k < 8 → parseFieldDescriptor (TX11 k).2.2.1 = some (tyX11 k) := by decide +kernel
abbrev cX11_init : ByteArray := prog_13_method_1_code
def yX11_init : MethodName := ⟨RX11, "<init>", "(LDiceAudit;)V"⟩
abbrev cX11_shows : ByteArray := prog_13_method_2_code
def yX11_shows : MethodName := ⟨RX11, "shows", "(IZ)I"⟩
abbrev cX11_throwsDie : ByteArray := prog_13_method_3_code
def yX11_throwsDie : MethodName := ⟨RX11, "throwsDie", "(IIIZ)I"⟩
abbrev cX11_ofPair : ByteArray := prog_13_method_4_code
def yX11_ofPair : MethodName := ⟨RX11, "ofPair", "(II)I"⟩
abbrev cX11_score : ByteArray := prog_13_method_5_code
def yX11_score : MethodName := ⟨RX11, "score", "(II)I"⟩
abbrev cX11_isBad : ByteArray := prog_13_method_6_code
def yX11_isBad : MethodName := ⟨RX11, "isBad", "(II)Z"⟩
abbrev cX11_isQueued : ByteArray := prog_13_method_7_code
def yX11_isQueued : MethodName := ⟨RX11, "isQueued", "(II)Z"⟩
abbrev cX11_audits : ByteArray := prog_13_method_8_code
def yX11_audits : MethodName := ⟨RX11, "audits", "()I"⟩
abbrev cX11_isWorse : ByteArray := prog_13_method_9_code
def yX11_isWorse : MethodName := ⟨RX11, "isWorse", "([I[I)Z"⟩
abbrev cX11_rank : ByteArray := prog_13_method_10_code
def yX11_rank : MethodName := ⟨RX11, "rank", "(I)I"⟩
abbrev cX11_unqueue : ByteArray := prog_13_method_11_code
def yX11_unqueue : MethodName := ⟨RX11, "unqueue", "(I)V"⟩
abbrev cX11_absolves : ByteArray := prog_13_method_12_code
def yX11_absolves : MethodName := ⟨RX11, "absolves", "()I"⟩
abbrev cX11_acts : ByteArray := prog_13_method_13_code
def yX11_acts : MethodName := ⟨RX11, "acts", "(ILDiceAudit;)I"⟩
abbrev cX11_agrees : ByteArray := prog_13_method_14_code
def yX11_agrees : MethodName := ⟨RX11, "agrees", "(LDiceAudit;)Z"⟩
def RX12 : String := "DiceAuditModel"
def TX12 : u_T := fun k => match k with
  | _ => ("", "", "", false)
def tyX12 : Nat → FieldType := fun k => match k with
  | _ => .int
abbrev wsX120 : List Cond := u_ws RX12 TX12 0
theorem nmX12 : ∀ a, a < 0 → ∀ b, b < 0 → a ≠ b → (TX12 a).2.1 ≠ (TX12 b).2.1 := by decide +kernel
theorem tyX12_ok : ∀ k, k < 0 → parseFieldDescriptor (TX12 k).2.2.1 = some (tyX12 k) := by decide +kernel
def RJx145de : String := "java/io/Serializable"
def RJ5 : String := "java/lang/AbstractStringBuilder"
abbrev cJ5_init_d00df : ByteArray := prog_15_method_2_code
def yJ5_init_d00df : MethodName := ⟨RJ5, "<init>", "(I)V"⟩
abbrev cJ5_init_a7421 : ByteArray := prog_15_method_3_code
def yJ5_init_a7421 : MethodName := ⟨RJ5, "<init>", "(Ljava/lang/String;)V"⟩
abbrev cJ5_length_8abf5 : ByteArray := prog_15_method_6_code
def yJ5_length_8abf5 : MethodName := ⟨RJ5, "length", "()I"⟩
abbrev cJ5_ensureCapacityInternal_d00df : ByteArray := prog_15_method_9_code
def yJ5_ensureCapacityInternal_d00df : MethodName := ⟨RJ5, "ensureCapacityInternal", "(I)V"⟩
abbrev cJ5_newCapacity_0f7a4 : ByteArray := prog_15_method_10_code
def yJ5_newCapacity_0f7a4 : MethodName := ⟨RJ5, "newCapacity", "(I)I"⟩
abbrev cJ5_inflate_da8c8 : ByteArray := prog_15_method_11_code
def yJ5_inflate_da8c8 : MethodName := ⟨RJ5, "inflate", "()V"⟩
abbrev cJ5_append_cf1ce : ByteArray := prog_15_method_22_code
def yJ5_append_cf1ce : MethodName := ⟨RJ5, "append", "(Ljava/lang/String;)Ljava/lang/AbstractStringBuilder;"⟩
abbrev cJ5_appendNull_278bc : ByteArray := prog_15_method_26_code
def yJ5_appendNull_278bc : MethodName := ⟨RJ5, "appendNull", "()Ljava/lang/AbstractStringBuilder;"⟩
abbrev cJ5_append_3fe6f : ByteArray := prog_15_method_31_code
def yJ5_append_3fe6f : MethodName := ⟨RJ5, "append", "(C)Ljava/lang/AbstractStringBuilder;"⟩
abbrev cJ5_append_c97b9 : ByteArray := prog_15_method_32_code
def yJ5_append_c97b9 : MethodName := ⟨RJ5, "append", "(I)Ljava/lang/AbstractStringBuilder;"⟩
abbrev cJ5_getValue_6d5f1 : ByteArray := prog_15_method_64_code
def yJ5_getValue_6d5f1 : MethodName := ⟨RJ5, "getValue", "()[B"⟩
abbrev cJ5_isLatin1_aae02 : ByteArray := prog_15_method_68_code
def yJ5_isLatin1_aae02 : MethodName := ⟨RJ5, "isLatin1", "()Z"⟩
abbrev cJ5_inflateIfNeededFor_a7421 : ByteArray := prog_15_method_71_code
def yJ5_inflateIfNeededFor_a7421 : MethodName := ⟨RJ5, "inflateIfNeededFor", "(Ljava/lang/String;)V"⟩
abbrev cJ5_putStringAt_47b60 : ByteArray := prog_15_method_73_code
def yJ5_putStringAt_47b60 : MethodName := ⟨RJ5, "putStringAt", "(ILjava/lang/String;)V"⟩
def RJx2cfe8 : String := "java/lang/Appendable"
def RJx9f9b0 : String := "java/lang/CharSequence"
def RJx8e188 : String := "java/lang/Cloneable"
def RJxb160c : String := "java/lang/Comparable"
def RJ6 : String := "java/lang/Integer"
abbrev cJ6_getChars_ba4f3 : ByteArray := prog_21_method_12_code
def yJ6_getChars_ba4f3 : MethodName := ⟨RJ6, "getChars", "(II[B)I"⟩
abbrev cJ6_stringSize_0f7a4 : ByteArray := prog_21_method_13_code
def yJ6_stringSize_0f7a4 : MethodName := ⟨RJ6, "stringSize", "(I)I"⟩
def RJ9 : String := "java/lang/Math"
abbrev cJ9_max_7cf53 : ByteArray := prog_22_method_65_code
def yJ9_max_7cf53 : MethodName := ⟨RJ9, "max", "(II)I"⟩
abbrev cJ9_min_7cf53 : ByteArray := prog_22_method_69_code
def yJ9_min_7cf53 : MethodName := ⟨RJ9, "min", "(II)I"⟩
def RJxd2413 : String := "java/lang/Number"
def RJ0 : String := "java/lang/String"
def TJ0 : u_T := fun k => match k with
  | 0 => ("java/lang/String", "value", "[B", true)
  | 1 => ("java/lang/String", "coder", "B", true)
  | 2 => ("java/lang/String", "hash", "I", false)
  | _ => ("java/lang/String", "hashIsZero", "Z", false)
def tyJ0 : Nat → FieldType := fun k => match k with
  | 0 => .array .byte
  | 1 => .byte
  | 2 => .int
  | _ => .boolean
abbrev wsJ00 : List Cond := u_ws RJ0 TJ0 4
theorem nmJ0 : ∀ a, a < 4 → ∀ b, b < 4 → a ≠ b → (TJ0 a).2.1 ≠ (TJ0 b).2.1 := by decide +kernel
theorem tyJ0_ok : ∀ k, k < 4 → parseFieldDescriptor (TJ0 k).2.2.1 = some (tyJ0 k) := by decide +kernel
abbrev cJ0_init_81219 : ByteArray := prog_25_method_53_code
def yJ0_init_81219 : MethodName := ⟨RJ0, "<init>", "(Ljava/lang/StringBuilder;)V"⟩
abbrev cJ0_length_8abf5 : ByteArray := prog_25_method_54_code
def yJ0_length_8abf5 : MethodName := ⟨RJ0, "length", "()I"⟩
abbrev cJ0_charAt_5068e : ByteArray := prog_25_method_56_code
def yJ0_charAt_5068e : MethodName := ⟨RJ0, "charAt", "(I)C"⟩
abbrev cJ0_getBytes_840e7 : ByteArray := prog_25_method_147_code
def yJ0_getBytes_840e7 : MethodName := ⟨RJ0, "getBytes", "([BIB)V"⟩
abbrev cJ0_init_db425 : ByteArray := prog_25_method_150_code
def yJ0_init_db425 : MethodName := ⟨RJ0, "<init>", "(Ljava/lang/AbstractStringBuilder;Ljava/lang/Void;)V"⟩
abbrev cJ0_coder_7d493 : ByteArray := prog_25_method_152_code
def yJ0_coder_7d493 : MethodName := ⟨RJ0, "coder", "()B"⟩
abbrev cJ0_isLatin1_aae02 : ByteArray := prog_25_method_154_code
def yJ0_isLatin1_aae02 : MethodName := ⟨RJ0, "isLatin1", "()Z"⟩
abbrev cJ0_checkIndex_df160 : ByteArray := prog_25_method_155_code
def yJ0_checkIndex_df160 : MethodName := ⟨RJ0, "checkIndex", "(II)V"⟩
abbrev cJ0_checkBoundsOffCount_cabcc : ByteArray := prog_25_method_157_code
def yJ0_checkBoundsOffCount_cabcc : MethodName := ⟨RJ0, "checkBoundsOffCount", "(III)I"⟩
abbrev cJ0_checkBoundsBeginEnd_23922 : ByteArray := prog_25_method_158_code
def yJ0_checkBoundsBeginEnd_23922 : MethodName := ⟨RJ0, "checkBoundsBeginEnd", "(III)V"⟩
def RJ4 : String := "java/lang/StringBuilder"
def TJ4 : u_T := fun k => match k with
  | 0 => ("java/lang/AbstractStringBuilder", "value", "[B", false)
  | 1 => ("java/lang/AbstractStringBuilder", "coder", "B", false)
  | 2 => ("java/lang/AbstractStringBuilder", "maybeLatin1", "Z", false)
  | _ => ("java/lang/AbstractStringBuilder", "count", "I", false)
def tyJ4 : Nat → FieldType := fun k => match k with
  | 0 => .array .byte
  | 1 => .byte
  | 2 => .boolean
  | _ => .int
abbrev wsJ40 : List Cond := u_ws RJ4 TJ4 4
theorem nmJ4 : ∀ a, a < 4 → ∀ b, b < 4 → a ≠ b → (TJ4 a).2.1 ≠ (TJ4 b).2.1 := by decide +kernel
theorem tyJ4_ok : ∀ k, k < 4 → parseFieldDescriptor (TJ4 k).2.2.1 = some (tyJ4 k) := by decide +kernel
abbrev cJ4_init_da8c8 : ByteArray := prog_26_method_1_code
def yJ4_init_da8c8 : MethodName := ⟨RJ4, "<init>", "()V"⟩
abbrev cJ4_init_a7421 : ByteArray := prog_26_method_3_code
def yJ4_init_a7421 : MethodName := ⟨RJ4, "<init>", "(Ljava/lang/String;)V"⟩
abbrev cJ4_append_15ec4 : ByteArray := prog_26_method_7_code
def yJ4_append_15ec4 : MethodName := ⟨RJ4, "append", "(Ljava/lang/String;)Ljava/lang/StringBuilder;"⟩
abbrev cJ4_append_cf468 : ByteArray := prog_26_method_14_code
def yJ4_append_cf468 : MethodName := ⟨RJ4, "append", "(C)Ljava/lang/StringBuilder;"⟩
abbrev cJ4_append_bf812 : ByteArray := prog_26_method_15_code
def yJ4_append_bf812 : MethodName := ⟨RJ4, "append", "(I)Ljava/lang/StringBuilder;"⟩
abbrev cJ4_toString_0e30d : ByteArray := prog_26_method_42_code
def yJ4_toString_0e30d : MethodName := ⟨RJ4, "toString", "()Ljava/lang/String;"⟩
abbrev cJ4_append_cf1ce : ByteArray := prog_26_method_80_code
def yJ4_append_cf1ce : MethodName := ⟨RJ4, "append", "(Ljava/lang/String;)Ljava/lang/AbstractStringBuilder;"⟩
abbrev cJ4_length_8abf5 : ByteArray := prog_26_method_93_code
def yJ4_length_8abf5 : MethodName := ⟨RJ4, "length", "()I"⟩
def RJ1 : String := "java/lang/StringLatin1"
abbrev cJ1_charAt_3b067 : ByteArray := prog_27_method_2_code
def yJ1_charAt_3b067 : MethodName := ⟨RJ1, "charAt", "([BI)C"⟩
abbrev cJ1_canEncode_fc78d : ByteArray := prog_27_method_3_code
def yJ1_canEncode_fc78d : MethodName := ⟨RJ1, "canEncode", "(C)Z"⟩
abbrev cJ1_inflate_0e8fd : ByteArray := prog_27_method_50_code
def yJ1_inflate_0e8fd : MethodName := ⟨RJ1, "inflate", "([BI[BII)V"⟩
def RJ2 : String := "java/lang/StringUTF16"
abbrev cJ2_newBytesFor_77867 : ByteArray := prog_28_method_2_code
def yJ2_newBytesFor_77867 : MethodName := ⟨RJ2, "newBytesFor", "(I)[B"⟩
abbrev cJ2_newBytesLength_0f7a4 : ByteArray := prog_28_method_3_code
def yJ2_newBytesLength_0f7a4 : MethodName := ⟨RJ2, "newBytesLength", "(I)I"⟩
abbrev cJ2_putChar_b72d1 : ByteArray := prog_28_method_4_code
def yJ2_putChar_b72d1 : MethodName := ⟨RJ2, "putChar", "([BII)V"⟩
abbrev cJ2_getChar_3b067 : ByteArray := prog_28_method_5_code
def yJ2_getChar_3b067 : MethodName := ⟨RJ2, "getChar", "([BI)C"⟩
abbrev cJ2_length_9d52b : ByteArray := prog_28_method_6_code
def yJ2_length_9d52b : MethodName := ⟨RJ2, "length", "([B)I"⟩
abbrev cJ2_coderFromArrayLen_85cad : ByteArray := prog_28_method_15_code
def yJ2_coderFromArrayLen_85cad : MethodName := ⟨RJ2, "coderFromArrayLen", "([BI)B"⟩
abbrev cJ2_compress_39247 : ByteArray := prog_28_method_17_code
def yJ2_compress_39247 : MethodName := ⟨RJ2, "compress", "([BII)[B"⟩
abbrev cJ2_compress_5af95 : ByteArray := prog_28_method_22_code
def yJ2_compress_5af95 : MethodName := ⟨RJ2, "compress", "([BI[BII)I"⟩
abbrev cJ2_putCharSB_b72d1 : ByteArray := prog_28_method_71_code
def yJ2_putCharSB_b72d1 : MethodName := ⟨RJ2, "putCharSB", "([BII)V"⟩
abbrev cJ2_getChars_46870 : ByteArray := prog_28_method_77_code
def yJ2_getChars_46870 : MethodName := ⟨RJ2, "getChars", "(III[B)I"⟩
abbrev cJ2_putCharsAt_cd4e5 : ByteArray := prog_28_method_81_code
def yJ2_putCharsAt_cd4e5 : MethodName := ⟨RJ2, "putCharsAt", "([BICCCC)I"⟩
abbrev cJ2_charAt_3b067 : ByteArray := prog_28_method_83_code
def yJ2_charAt_3b067 : MethodName := ⟨RJ2, "charAt", "([BI)C"⟩
abbrev cJ2_inflate_0e8fd : ByteArray := prog_28_method_86_code
def yJ2_inflate_0e8fd : MethodName := ⟨RJ2, "inflate", "([BI[BII)V"⟩
abbrev cJ2_getChars_ba4f3 : ByteArray := prog_28_method_89_code
def yJ2_getChars_ba4f3 : MethodName := ⟨RJ2, "getChars", "(II[B)I"⟩
abbrev cJ2_checkIndex_2214a : ByteArray := prog_28_method_91_code
def yJ2_checkIndex_2214a : MethodName := ⟨RJ2, "checkIndex", "(I[B)V"⟩
abbrev cJ2_checkBoundsBeginEnd_d044e : ByteArray := prog_28_method_93_code
def yJ2_checkBoundsBeginEnd_d044e : MethodName := ⟨RJ2, "checkBoundsBeginEnd", "(II[B)V"⟩
abbrev cJ2_checkBoundsOffCount_d044e : ByteArray := prog_28_method_94_code
def yJ2_checkBoundsOffCount_d044e : MethodName := ⟨RJ2, "checkBoundsOffCount", "(II[B)V"⟩
def RJ10 : String := "java/lang/System"
def RJxfd54e : String := "java/lang/constant/Constable"
def RJx3cf43 : String := "java/lang/constant/ConstantDesc"
def RJ7 : String := "java/util/Arrays"
abbrev cJ7_fill_53178 : ByteArray := prog_31_method_103_code
def yJ7_fill_53178 : MethodName := ⟨RJ7, "fill", "([II)V"⟩
abbrev cJ7_copyOf_9075b : ByteArray := prog_31_method_121_code
def yJ7_copyOf_9075b : MethodName := ⟨RJ7, "copyOf", "([BI)[B"⟩
abbrev cJ7_checkLength_df160 : ByteArray := prog_31_method_131_code
def yJ7_checkLength_df160 : MethodName := ⟨RJ7, "checkLength", "(II)V"⟩
abbrev cJ7_copyOfRange_39247 : ByteArray := prog_31_method_132_code
def yJ7_copyOfRange_39247 : MethodName := ⟨RJ7, "copyOfRange", "([BII)[B"⟩
abbrev cJ7_copyOfRangeByte_39247 : ByteArray := prog_31_method_133_code
def yJ7_copyOfRangeByte_39247 : MethodName := ⟨RJ7, "copyOfRangeByte", "([BII)[B"⟩
def RJ8 : String := "jdk/internal/util/ArraysSupport"
abbrev cJ8_newLength_cabcc : ByteArray := prog_32_method_27_code
def yJ8_newLength_cabcc : MethodName := ⟨RJ8, "newLength", "(III)I"⟩
abbrev cJ8_hugeLength_7cf53 : ByteArray := prog_32_method_28_code
def yJ8_hugeLength_7cf53 : MethodName := ⟨RJ8, "hugeLength", "(II)I"⟩
def RJ3 : String := "jdk/internal/util/Preconditions"
abbrev cJ3_checkIndex_8e157 : ByteArray := prog_33_method_11_code
def yJ3_checkIndex_8e157 : MethodName := ⟨RJ3, "checkIndex", "(IILjava/util/function/BiFunction;)I"⟩
abbrev cJ3_checkFromToIndex_8c36e : ByteArray := prog_33_method_12_code
def yJ3_checkFromToIndex_8c36e : MethodName := ⟨RJ3, "checkFromToIndex", "(IIILjava/util/function/BiFunction;)I"⟩
abbrev cJ3_checkFromIndexSize_8c36e : ByteArray := prog_33_method_13_code
def yJ3_checkFromIndexSize_8c36e : MethodName := ⟨RJ3, "checkFromIndexSize", "(IIILjava/util/function/BiFunction;)I"⟩
def RL : String := "DiceAuditLaw"
abbrev cL_cell : ByteArray := method_2_code
def yL_cell : MethodName := ⟨RL, "cell", "([II)I"⟩
abbrev cL_says : ByteArray := method_3_code
def yL_says : MethodName := ⟨RL, "says", "(LDiceAudit;Ljava/lang/String;)V"⟩
abbrev cL_loaded : ByteArray := method_4_code
def yL_loaded : MethodName := ⟨RL, "loaded", "(LDiceAudit;)I"⟩
abbrev cL_text : ByteArray := method_5_code
def yL_text : MethodName := ⟨RL, "text", "([I)Ljava/lang/String;"⟩
abbrev cL_acts : ByteArray := method_6_code
def yL_acts : MethodName := ⟨RL, "acts", "(LDiceAudit;I)I"⟩
abbrev cL_law : ByteArray := code
def yL_law : MethodName := ⟨RL, "law", "([I)Z"⟩
theorem dX0_init_0 : decode cX0_init 0 = .ok (.aload_n 0, 1) := by decide +kernel
theorem dX0_init_1 : decode cX0_init 1 = .ok (.invokespecial 3, 3) := by decide +kernel
theorem dX0_init_4 : decode cX0_init 4 = .ok (.aload_n 0, 1) := by decide +kernel
theorem dX0_init_5 : decode cX0_init 5 = .ok (.bipush 6, 2) := by decide +kernel
theorem dX0_init_7 : decode cX0_init 7 = .ok (.newarray .int, 2) := by decide +kernel
theorem dX0_init_9 : decode cX0_init 9 = .ok (.putfield 9, 3) := by decide +kernel
theorem dX0_init_12 : decode cX0_init 12 = .ok (.aload_n 0, 1) := by decide +kernel
theorem dX0_init_13 : decode cX0_init 13 = .ok (.bipush 72, 2) := by decide +kernel
theorem dX0_init_15 : decode cX0_init 15 = .ok (.newarray .int, 2) := by decide +kernel
theorem dX0_init_17 : decode cX0_init 17 = .ok (.putfield 15, 3) := by decide +kernel
theorem dX0_init_20 : decode cX0_init 20 = .ok (.aload_n 0, 1) := by decide +kernel
theorem dX0_init_21 : decode cX0_init 21 = .ok (.iconst 0, 1) := by decide +kernel
theorem dX0_init_22 : decode cX0_init 22 = .ok (.putfield 18, 3) := by decide +kernel
theorem dX0_init_25 : decode cX0_init 25 = .ok (.return_, 1) := by decide +kernel
theorem dX0_clear_0 : decode cX0_clear 0 = .ok (.aload_n 0, 1) := by decide +kernel
theorem dX0_clear_1 : decode cX0_clear 1 = .ok (.iconst 0, 1) := by decide +kernel
theorem dX0_clear_2 : decode cX0_clear 2 = .ok (.putfield 18, 3) := by decide +kernel
theorem dX0_clear_5 : decode cX0_clear 5 = .ok (.return_, 1) := by decide +kernel
theorem dX0_copyFrom_0 : decode cX0_copyFrom 0 = .ok (.aload_n 0, 1) := by decide +kernel
theorem dX0_copyFrom_1 : decode cX0_copyFrom 1 = .ok (.aload_n 1, 1) := by decide +kernel
theorem dX0_copyFrom_2 : decode cX0_copyFrom 2 = .ok (.getfield 18, 3) := by decide +kernel
theorem dX0_copyFrom_5 : decode cX0_copyFrom 5 = .ok (.putfield 18, 3) := by decide +kernel
theorem dX0_copyFrom_8 : decode cX0_copyFrom 8 = .ok (.aload_n 1, 1) := by decide +kernel
theorem dX0_copyFrom_9 : decode cX0_copyFrom 9 = .ok (.getfield 9, 3) := by decide +kernel
theorem dX0_copyFrom_12 : decode cX0_copyFrom 12 = .ok (.aload_n 0, 1) := by decide +kernel
theorem dX0_copyFrom_13 : decode cX0_copyFrom 13 = .ok (.getfield 9, 3) := by decide +kernel
theorem dX0_copyFrom_16 : decode cX0_copyFrom 16 = .ok (.invokestatic 22, 3) := by decide +kernel
theorem dX0_copyFrom_19 : decode cX0_copyFrom 19 = .ok (.aload_n 1, 1) := by decide +kernel
theorem dX0_copyFrom_20 : decode cX0_copyFrom 20 = .ok (.getfield 15, 3) := by decide +kernel
theorem dX0_copyFrom_23 : decode cX0_copyFrom 23 = .ok (.aload_n 0, 1) := by decide +kernel
theorem dX0_copyFrom_24 : decode cX0_copyFrom 24 = .ok (.getfield 15, 3) := by decide +kernel
theorem dX0_copyFrom_27 : decode cX0_copyFrom 27 = .ok (.invokestatic 22, 3) := by decide +kernel
theorem dX0_copyFrom_30 : decode cX0_copyFrom 30 = .ok (.return_, 1) := by decide +kernel
theorem dX0_add_0 : decode cX0_add 0 = .ok (.aload_n 0, 1) := by decide +kernel
theorem dX0_add_1 : decode cX0_add 1 = .ok (.getfield 18, 3) := by decide +kernel
theorem dX0_add_4 : decode cX0_add 4 = .ok (.bipush 6, 2) := by decide +kernel
theorem dX0_add_6 : decode cX0_add 6 = .ok (.if_icmp .ge 25, 3) := by decide +kernel
theorem dX0_add_9 : decode cX0_add 9 = .ok (.aload_n 0, 1) := by decide +kernel
theorem dX0_add_10 : decode cX0_add 10 = .ok (.getfield 9, 3) := by decide +kernel
theorem dX0_add_13 : decode cX0_add 13 = .ok (.aload_n 0, 1) := by decide +kernel
theorem dX0_add_14 : decode cX0_add 14 = .ok (.getfield 18, 3) := by decide +kernel
theorem dX0_add_17 : decode cX0_add 17 = .ok (.iload_n 1, 1) := by decide +kernel
theorem dX0_add_18 : decode cX0_add 18 = .ok (.invokestatic 26, 3) := by decide +kernel
theorem dX0_add_21 : decode cX0_add 21 = .ok (.aload_n 0, 1) := by decide +kernel
theorem dX0_add_22 : decode cX0_add 22 = .ok (.dup, 1) := by decide +kernel
theorem dX0_add_23 : decode cX0_add 23 = .ok (.getfield 18, 3) := by decide +kernel
theorem dX0_add_26 : decode cX0_add 26 = .ok (.iconst 1, 1) := by decide +kernel
theorem dX0_add_27 : decode cX0_add 27 = .ok (.iadd, 1) := by decide +kernel
theorem dX0_add_28 : decode cX0_add 28 = .ok (.putfield 18, 3) := by decide +kernel
theorem dX0_add_31 : decode cX0_add 31 = .ok (.return_, 1) := by decide +kernel
theorem dX0_faceCount_0 : decode cX0_faceCount 0 = .ok (.aload_n 0, 1) := by decide +kernel
theorem dX0_faceCount_1 : decode cX0_faceCount 1 = .ok (.getfield 9, 3) := by decide +kernel
theorem dX0_faceCount_4 : decode cX0_faceCount 4 = .ok (.iload_n 1, 1) := by decide +kernel
theorem dX0_faceCount_5 : decode cX0_faceCount 5 = .ok (.invokestatic 30, 3) := by decide +kernel
theorem dX0_faceCount_8 : decode cX0_faceCount 8 = .ok (.ireturn, 1) := by decide +kernel
theorem dX0_weight_0 : decode cX0_weight 0 = .ok (.aload_n 0, 1) := by decide +kernel
theorem dX0_weight_1 : decode cX0_weight 1 = .ok (.getfield 15, 3) := by decide +kernel
theorem dX0_weight_4 : decode cX0_weight 4 = .ok (.iload_n 1, 1) := by decide +kernel
theorem dX0_weight_5 : decode cX0_weight 5 = .ok (.iload_n 2, 1) := by decide +kernel
theorem dX0_weight_6 : decode cX0_weight 6 = .ok (.invokestatic 34, 3) := by decide +kernel
theorem dX0_weight_9 : decode cX0_weight 9 = .ok (.invokestatic 30, 3) := by decide +kernel
theorem dX0_weight_12 : decode cX0_weight 12 = .ok (.ireturn, 1) := by decide +kernel
theorem dX0_putWeight_0 : decode cX0_putWeight 0 = .ok (.aload_n 0, 1) := by decide +kernel
theorem dX0_putWeight_1 : decode cX0_putWeight 1 = .ok (.getfield 15, 3) := by decide +kernel
theorem dX0_putWeight_4 : decode cX0_putWeight 4 = .ok (.iload_n 1, 1) := by decide +kernel
theorem dX0_putWeight_5 : decode cX0_putWeight 5 = .ok (.iload_n 2, 1) := by decide +kernel
theorem dX0_putWeight_6 : decode cX0_putWeight 6 = .ok (.invokestatic 34, 3) := by decide +kernel
theorem dX0_putWeight_9 : decode cX0_putWeight 9 = .ok (.iload_n 3, 1) := by decide +kernel
theorem dX0_putWeight_10 : decode cX0_putWeight 10 = .ok (.invokestatic 26, 3) := by decide +kernel
theorem dX0_putWeight_13 : decode cX0_putWeight 13 = .ok (.return_, 1) := by decide +kernel
theorem dX0_weightSum_0 : decode cX0_weightSum 0 = .ok (.aload_n 0, 1) := by decide +kernel
theorem dX0_weightSum_1 : decode cX0_weightSum 1 = .ok (.getfield 15, 3) := by decide +kernel
theorem dX0_weightSum_4 : decode cX0_weightSum 4 = .ok (.iload_n 1, 1) := by decide +kernel
theorem dX0_weightSum_5 : decode cX0_weightSum 5 = .ok (.iconst 1, 1) := by decide +kernel
theorem dX0_weightSum_6 : decode cX0_weightSum 6 = .ok (.invokestatic 34, 3) := by decide +kernel
theorem dX0_weightSum_9 : decode cX0_weightSum 9 = .ok (.aload_n 0, 1) := by decide +kernel
theorem dX0_weightSum_10 : decode cX0_weightSum 10 = .ok (.iload_n 1, 1) := by decide +kernel
theorem dX0_weightSum_11 : decode cX0_weightSum 11 = .ok (.invokevirtual 38, 3) := by decide +kernel
theorem dX0_weightSum_14 : decode cX0_weightSum 14 = .ok (.invokestatic 42, 3) := by decide +kernel
theorem dX0_weightSum_17 : decode cX0_weightSum 17 = .ok (.ireturn, 1) := by decide +kernel
theorem dX0_faceShown_0 : decode cX0_faceShown 0 = .ok (.aload_n 0, 1) := by decide +kernel
theorem dX0_faceShown_1 : decode cX0_faceShown 1 = .ok (.getfield 9, 3) := by decide +kernel
theorem dX0_faceShown_4 : decode cX0_faceShown 4 = .ok (.iload_n 1, 1) := by decide +kernel
theorem dX0_faceShown_5 : decode cX0_faceShown 5 = .ok (.invokestatic 30, 3) := by decide +kernel
theorem dX0_faceShown_8 : decode cX0_faceShown 8 = .ok (.istore_n 3, 1) := by decide +kernel
theorem dX0_faceShown_9 : decode cX0_faceShown 9 = .ok (.aload_n 0, 1) := by decide +kernel
theorem dX0_faceShown_10 : decode cX0_faceShown 10 = .ok (.getfield 15, 3) := by decide +kernel
theorem dX0_faceShown_13 : decode cX0_faceShown 13 = .ok (.iload_n 1, 1) := by decide +kernel
theorem dX0_faceShown_14 : decode cX0_faceShown 14 = .ok (.iconst 1, 1) := by decide +kernel
theorem dX0_faceShown_15 : decode cX0_faceShown 15 = .ok (.invokestatic 34, 3) := by decide +kernel
theorem dX0_faceShown_18 : decode cX0_faceShown 18 = .ok (.iload_n 3, 1) := by decide +kernel
theorem dX0_faceShown_19 : decode cX0_faceShown 19 = .ok (.invokestatic 42, 3) := by decide +kernel
theorem dX0_faceShown_22 : decode cX0_faceShown 22 = .ok (.istore 4, 2) := by decide +kernel
theorem dX0_faceShown_24 : decode cX0_faceShown 24 = .ok (.iload 4, 2) := by decide +kernel
theorem dX0_faceShown_26 : decode cX0_faceShown 26 = .ok (.ifCond .le 10, 3) := by decide +kernel
theorem dX0_faceShown_29 : decode cX0_faceShown 29 = .ok (.iload_n 2, 1) := by decide +kernel
theorem dX0_faceShown_30 : decode cX0_faceShown 30 = .ok (.iload 4, 2) := by decide +kernel
theorem dX0_faceShown_32 : decode cX0_faceShown 32 = .ok (.irem, 1) := by decide +kernel
theorem dX0_faceShown_33 : decode cX0_faceShown 33 = .ok (.goto 4, 3) := by decide +kernel
theorem dX0_faceShown_36 : decode cX0_faceShown 36 = .ok (.iconst 0, 1) := by decide +kernel
theorem dX0_faceShown_37 : decode cX0_faceShown 37 = .ok (.istore 5, 2) := by decide +kernel
theorem dX0_faceShown_39 : decode cX0_faceShown 39 = .ok (.iconst 0, 1) := by decide +kernel
theorem dX0_faceShown_40 : decode cX0_faceShown 40 = .ok (.istore 6, 2) := by decide +kernel
theorem dX0_faceShown_42 : decode cX0_faceShown 42 = .ok (.iconst 1, 1) := by decide +kernel
theorem dX0_faceShown_43 : decode cX0_faceShown 43 = .ok (.istore 7, 2) := by decide +kernel
theorem dX0_faceShown_45 : decode cX0_faceShown 45 = .ok (.iload 7, 2) := by decide +kernel
theorem dX0_faceShown_47 : decode cX0_faceShown 47 = .ok (.iload_n 3, 1) := by decide +kernel
theorem dX0_faceShown_48 : decode cX0_faceShown 48 = .ok (.if_icmp .ge 37, 3) := by decide +kernel
theorem dX0_faceShown_51 : decode cX0_faceShown 51 = .ok (.iload 6, 2) := by decide +kernel
theorem dX0_faceShown_53 : decode cX0_faceShown 53 = .ok (.aload_n 0, 1) := by decide +kernel
theorem dX0_faceShown_54 : decode cX0_faceShown 54 = .ok (.getfield 15, 3) := by decide +kernel
theorem dX0_faceShown_57 : decode cX0_faceShown 57 = .ok (.iload_n 1, 1) := by decide +kernel
theorem dX0_faceShown_58 : decode cX0_faceShown 58 = .ok (.iload 7, 2) := by decide +kernel
theorem dX0_faceShown_60 : decode cX0_faceShown 60 = .ok (.invokestatic 34, 3) := by decide +kernel
theorem dX0_faceShown_63 : decode cX0_faceShown 63 = .ok (.invokestatic 30, 3) := by decide +kernel
theorem dX0_faceShown_66 : decode cX0_faceShown 66 = .ok (.iadd, 1) := by decide +kernel
theorem dX0_faceShown_67 : decode cX0_faceShown 67 = .ok (.istore 6, 2) := by decide +kernel
theorem dX0_faceShown_69 : decode cX0_faceShown 69 = .ok (.iload 6, 2) := by decide +kernel
theorem dX0_faceShown_71 : decode cX0_faceShown 71 = .ok (.iload 5, 2) := by decide +kernel
theorem dX0_faceShown_73 : decode cX0_faceShown 73 = .ok (.if_icmp .le 6, 3) := by decide +kernel
theorem dX0_faceShown_76 : decode cX0_faceShown 76 = .ok (.iload 7, 2) := by decide +kernel
theorem dX0_faceShown_78 : decode cX0_faceShown 78 = .ok (.ireturn, 1) := by decide +kernel
theorem dX0_faceShown_79 : decode cX0_faceShown 79 = .ok (.iinc 7 1, 3) := by decide +kernel
theorem dX0_faceShown_82 : decode cX0_faceShown 82 = .ok (.goto (-37), 3) := by decide +kernel
theorem dX0_faceShown_85 : decode cX0_faceShown 85 = .ok (.iload_n 3, 1) := by decide +kernel
theorem dX0_faceShown_86 : decode cX0_faceShown 86 = .ok (.ireturn, 1) := by decide +kernel
theorem dX0_fairFaceShown_0 : decode cX0_fairFaceShown 0 = .ok (.aload_n 0, 1) := by decide +kernel
theorem dX0_fairFaceShown_1 : decode cX0_fairFaceShown 1 = .ok (.getfield 9, 3) := by decide +kernel
theorem dX0_fairFaceShown_4 : decode cX0_fairFaceShown 4 = .ok (.iload_n 1, 1) := by decide +kernel
theorem dX0_fairFaceShown_5 : decode cX0_fairFaceShown 5 = .ok (.invokestatic 30, 3) := by decide +kernel
theorem dX0_fairFaceShown_8 : decode cX0_fairFaceShown 8 = .ok (.istore_n 3, 1) := by decide +kernel
theorem dX0_fairFaceShown_9 : decode cX0_fairFaceShown 9 = .ok (.iload_n 3, 1) := by decide +kernel
theorem dX0_fairFaceShown_10 : decode cX0_fairFaceShown 10 = .ok (.ifCond .le 11, 3) := by decide +kernel
theorem dX0_fairFaceShown_13 : decode cX0_fairFaceShown 13 = .ok (.iload_n 2, 1) := by decide +kernel
theorem dX0_fairFaceShown_14 : decode cX0_fairFaceShown 14 = .ok (.iload_n 3, 1) := by decide +kernel
theorem dX0_fairFaceShown_15 : decode cX0_fairFaceShown 15 = .ok (.irem, 1) := by decide +kernel
theorem dX0_fairFaceShown_16 : decode cX0_fairFaceShown 16 = .ok (.iconst 1, 1) := by decide +kernel
theorem dX0_fairFaceShown_17 : decode cX0_fairFaceShown 17 = .ok (.iadd, 1) := by decide +kernel
theorem dX0_fairFaceShown_18 : decode cX0_fairFaceShown 18 = .ok (.goto 4, 3) := by decide +kernel
theorem dX0_fairFaceShown_21 : decode cX0_fairFaceShown 21 = .ok (.iconst 1, 1) := by decide +kernel
theorem dX0_fairFaceShown_22 : decode cX0_fairFaceShown 22 = .ok (.ireturn, 1) := by decide +kernel
theorem dX1_init_0 : decode cX1_init 0 = .ok (.aload_n 0, 1) := by decide +kernel
theorem dX1_init_1 : decode cX1_init 1 = .ok (.invokespecial 3, 3) := by decide +kernel
theorem dX1_init_4 : decode cX1_init 4 = .ok (.aload_n 0, 1) := by decide +kernel
theorem dX1_init_5 : decode cX1_init 5 = .ok (.bipush 12, 2) := by decide +kernel
theorem dX1_init_7 : decode cX1_init 7 = .ok (.newarray .int, 2) := by decide +kernel
theorem dX1_init_9 : decode cX1_init 9 = .ok (.putfield 9, 3) := by decide +kernel
theorem dX1_init_12 : decode cX1_init 12 = .ok (.aload_n 0, 1) := by decide +kernel
theorem dX1_init_13 : decode cX1_init 13 = .ok (.iconst 0, 1) := by decide +kernel
theorem dX1_init_14 : decode cX1_init 14 = .ok (.putfield 15, 3) := by decide +kernel
theorem dX1_init_17 : decode cX1_init 17 = .ok (.aload_n 0, 1) := by decide +kernel
theorem dX1_init_18 : decode cX1_init 18 = .ok (.iconst 0, 1) := by decide +kernel
theorem dX1_init_19 : decode cX1_init 19 = .ok (.putfield 19, 3) := by decide +kernel
theorem dX1_init_22 : decode cX1_init 22 = .ok (.return_, 1) := by decide +kernel
theorem dX2_init_0 : decode cX2_init 0 = .ok (.aload_n 0, 1) := by decide +kernel
theorem dX2_init_1 : decode cX2_init 1 = .ok (.invokespecial 3, 3) := by decide +kernel
theorem dX2_init_4 : decode cX2_init 4 = .ok (.aload_n 0, 1) := by decide +kernel
theorem dX2_init_5 : decode cX2_init 5 = .ok (.new 9, 3) := by decide +kernel
theorem dX2_init_8 : decode cX2_init 8 = .ok (.dup, 1) := by decide +kernel
theorem dX2_init_9 : decode cX2_init 9 = .ok (.invokespecial 11, 3) := by decide +kernel
theorem dX2_init_12 : decode cX2_init 12 = .ok (.putfield 12, 3) := by decide +kernel
theorem dX2_init_15 : decode cX2_init 15 = .ok (.aload_n 0, 1) := by decide +kernel
theorem dX2_init_16 : decode cX2_init 16 = .ok (.new 18, 3) := by decide +kernel
theorem dX2_init_19 : decode cX2_init 19 = .ok (.dup, 1) := by decide +kernel
theorem dX2_init_20 : decode cX2_init 20 = .ok (.invokespecial 20, 3) := by decide +kernel
theorem dX2_init_23 : decode cX2_init 23 = .ok (.putfield 21, 3) := by decide +kernel
theorem dX2_init_26 : decode cX2_init 26 = .ok (.aload_n 0, 1) := by decide +kernel
theorem dX2_init_27 : decode cX2_init 27 = .ok (.new 25, 3) := by decide +kernel
theorem dX2_init_30 : decode cX2_init 30 = .ok (.dup, 1) := by decide +kernel
theorem dX2_init_31 : decode cX2_init 31 = .ok (.invokespecial 27, 3) := by decide +kernel
theorem dX2_init_34 : decode cX2_init 34 = .ok (.putfield 28, 3) := by decide +kernel
theorem dX2_init_37 : decode cX2_init 37 = .ok (.aload_n 0, 1) := by decide +kernel
theorem dX2_init_38 : decode cX2_init 38 = .ok (.new 32, 3) := by decide +kernel
theorem dX2_init_41 : decode cX2_init 41 = .ok (.dup, 1) := by decide +kernel
theorem dX2_init_42 : decode cX2_init 42 = .ok (.invokespecial 34, 3) := by decide +kernel
theorem dX2_init_45 : decode cX2_init 45 = .ok (.putfield 35, 3) := by decide +kernel
theorem dX2_init_48 : decode cX2_init 48 = .ok (.aload_n 0, 1) := by decide +kernel
theorem dX2_init_49 : decode cX2_init 49 = .ok (.iconst 0, 1) := by decide +kernel
theorem dX2_init_50 : decode cX2_init 50 = .ok (.putfield 39, 3) := by decide +kernel
theorem dX2_init_53 : decode cX2_init 53 = .ok (.aload_n 0, 1) := by decide +kernel
theorem dX2_init_54 : decode cX2_init 54 = .ok (.iconst 1, 1) := by decide +kernel
theorem dX2_init_55 : decode cX2_init 55 = .ok (.putfield 43, 3) := by decide +kernel
theorem dX2_init_58 : decode cX2_init 58 = .ok (.aload_n 0, 1) := by decide +kernel
theorem dX2_init_59 : decode cX2_init 59 = .ok (.iconst 0, 1) := by decide +kernel
theorem dX2_init_60 : decode cX2_init 60 = .ok (.putfield 46, 3) := by decide +kernel
theorem dX2_init_63 : decode cX2_init 63 = .ok (.return_, 1) := by decide +kernel
theorem dX2_begin_0 : decode cX2_begin 0 = .ok (.aload_n 0, 1) := by decide +kernel
theorem dX2_begin_1 : decode cX2_begin 1 = .ok (.iload_n 1, 1) := by decide +kernel
theorem dX2_begin_2 : decode cX2_begin 2 = .ok (.putfield 39, 3) := by decide +kernel
theorem dX2_begin_5 : decode cX2_begin 5 = .ok (.aload_n 0, 1) := by decide +kernel
theorem dX2_begin_6 : decode cX2_begin 6 = .ok (.iload_n 2, 1) := by decide +kernel
theorem dX2_begin_7 : decode cX2_begin 7 = .ok (.putfield 43, 3) := by decide +kernel
theorem dX2_begin_10 : decode cX2_begin 10 = .ok (.aload_n 0, 1) := by decide +kernel
theorem dX2_begin_11 : decode cX2_begin 11 = .ok (.iload_n 3, 1) := by decide +kernel
theorem dX2_begin_12 : decode cX2_begin 12 = .ok (.putfield 46, 3) := by decide +kernel
theorem dX2_begin_15 : decode cX2_begin 15 = .ok (.aload_n 0, 1) := by decide +kernel
theorem dX2_begin_16 : decode cX2_begin 16 = .ok (.getfield 12, 3) := by decide +kernel
theorem dX2_begin_19 : decode cX2_begin 19 = .ok (.invokevirtual 49, 3) := by decide +kernel
theorem dX2_begin_22 : decode cX2_begin 22 = .ok (.aload_n 0, 1) := by decide +kernel
theorem dX2_begin_23 : decode cX2_begin 23 = .ok (.getfield 21, 3) := by decide +kernel
theorem dX2_begin_26 : decode cX2_begin 26 = .ok (.invokevirtual 52, 3) := by decide +kernel
theorem dX2_begin_29 : decode cX2_begin 29 = .ok (.aload_n 0, 1) := by decide +kernel
theorem dX2_begin_30 : decode cX2_begin 30 = .ok (.getfield 28, 3) := by decide +kernel
theorem dX2_begin_33 : decode cX2_begin 33 = .ok (.invokevirtual 53, 3) := by decide +kernel
theorem dX2_begin_36 : decode cX2_begin 36 = .ok (.aload_n 0, 1) := by decide +kernel
theorem dX2_begin_37 : decode cX2_begin 37 = .ok (.getfield 35, 3) := by decide +kernel
theorem dX2_begin_40 : decode cX2_begin 40 = .ok (.invokevirtual 54, 3) := by decide +kernel
theorem dX2_begin_43 : decode cX2_begin 43 = .ok (.return_, 1) := by decide +kernel
theorem dX2_copyFrom_0 : decode cX2_copyFrom 0 = .ok (.aload_n 0, 1) := by decide +kernel
theorem dX2_copyFrom_1 : decode cX2_copyFrom 1 = .ok (.aload_n 1, 1) := by decide +kernel
theorem dX2_copyFrom_2 : decode cX2_copyFrom 2 = .ok (.getfield 39, 3) := by decide +kernel
theorem dX2_copyFrom_5 : decode cX2_copyFrom 5 = .ok (.putfield 39, 3) := by decide +kernel
theorem dX2_copyFrom_8 : decode cX2_copyFrom 8 = .ok (.aload_n 0, 1) := by decide +kernel
theorem dX2_copyFrom_9 : decode cX2_copyFrom 9 = .ok (.aload_n 1, 1) := by decide +kernel
theorem dX2_copyFrom_10 : decode cX2_copyFrom 10 = .ok (.getfield 43, 3) := by decide +kernel
theorem dX2_copyFrom_13 : decode cX2_copyFrom 13 = .ok (.putfield 43, 3) := by decide +kernel
theorem dX2_copyFrom_16 : decode cX2_copyFrom 16 = .ok (.aload_n 0, 1) := by decide +kernel
theorem dX2_copyFrom_17 : decode cX2_copyFrom 17 = .ok (.aload_n 1, 1) := by decide +kernel
theorem dX2_copyFrom_18 : decode cX2_copyFrom 18 = .ok (.getfield 46, 3) := by decide +kernel
theorem dX2_copyFrom_21 : decode cX2_copyFrom 21 = .ok (.putfield 46, 3) := by decide +kernel
theorem dX2_copyFrom_24 : decode cX2_copyFrom 24 = .ok (.aload_n 0, 1) := by decide +kernel
theorem dX2_copyFrom_25 : decode cX2_copyFrom 25 = .ok (.getfield 12, 3) := by decide +kernel
theorem dX2_copyFrom_28 : decode cX2_copyFrom 28 = .ok (.aload_n 1, 1) := by decide +kernel
theorem dX2_copyFrom_29 : decode cX2_copyFrom 29 = .ok (.getfield 12, 3) := by decide +kernel
theorem dX2_copyFrom_32 : decode cX2_copyFrom 32 = .ok (.invokevirtual 55, 3) := by decide +kernel
theorem dX2_copyFrom_35 : decode cX2_copyFrom 35 = .ok (.aload_n 0, 1) := by decide +kernel
theorem dX2_copyFrom_36 : decode cX2_copyFrom 36 = .ok (.getfield 21, 3) := by decide +kernel
theorem dX2_copyFrom_39 : decode cX2_copyFrom 39 = .ok (.aload_n 1, 1) := by decide +kernel
theorem dX2_copyFrom_40 : decode cX2_copyFrom 40 = .ok (.getfield 21, 3) := by decide +kernel
theorem dX2_copyFrom_43 : decode cX2_copyFrom 43 = .ok (.invokevirtual 59, 3) := by decide +kernel
theorem dX2_copyFrom_46 : decode cX2_copyFrom 46 = .ok (.aload_n 0, 1) := by decide +kernel
theorem dX2_copyFrom_47 : decode cX2_copyFrom 47 = .ok (.getfield 28, 3) := by decide +kernel
theorem dX2_copyFrom_50 : decode cX2_copyFrom 50 = .ok (.aload_n 1, 1) := by decide +kernel
theorem dX2_copyFrom_51 : decode cX2_copyFrom 51 = .ok (.getfield 28, 3) := by decide +kernel
theorem dX2_copyFrom_54 : decode cX2_copyFrom 54 = .ok (.invokevirtual 62, 3) := by decide +kernel
theorem dX2_copyFrom_57 : decode cX2_copyFrom 57 = .ok (.aload_n 0, 1) := by decide +kernel
theorem dX2_copyFrom_58 : decode cX2_copyFrom 58 = .ok (.getfield 35, 3) := by decide +kernel
theorem dX2_copyFrom_61 : decode cX2_copyFrom 61 = .ok (.aload_n 1, 1) := by decide +kernel
theorem dX2_copyFrom_62 : decode cX2_copyFrom 62 = .ok (.getfield 35, 3) := by decide +kernel
theorem dX2_copyFrom_65 : decode cX2_copyFrom 65 = .ok (.invokevirtual 65, 3) := by decide +kernel
theorem dX2_copyFrom_68 : decode cX2_copyFrom 68 = .ok (.return_, 1) := by decide +kernel
theorem dX2_makeThrows_0 : decode cX2_makeThrows 0 = .ok (.iload_n 1, 1) := by decide +kernel
theorem dX2_makeThrows_1 : decode cX2_makeThrows 1 = .ok (.invokestatic 68, 3) := by decide +kernel
theorem dX2_makeThrows_4 : decode cX2_makeThrows 4 = .ok (.istore 4, 2) := by decide +kernel
theorem dX2_makeThrows_6 : decode cX2_makeThrows 6 = .ok (.iconst 0, 1) := by decide +kernel
theorem dX2_makeThrows_7 : decode cX2_makeThrows 7 = .ok (.istore 5, 2) := by decide +kernel
theorem dX2_makeThrows_9 : decode cX2_makeThrows 9 = .ok (.iconst 0, 1) := by decide +kernel
theorem dX2_makeThrows_10 : decode cX2_makeThrows 10 = .ok (.istore 6, 2) := by decide +kernel
theorem dX2_makeThrows_12 : decode cX2_makeThrows 12 = .ok (.iload 6, 2) := by decide +kernel
theorem dX2_makeThrows_14 : decode cX2_makeThrows 14 = .ok (.iload_n 2, 1) := by decide +kernel
theorem dX2_makeThrows_15 : decode cX2_makeThrows 15 = .ok (.if_icmp .ge 73, 3) := by decide +kernel
theorem dX2_makeThrows_18 : decode cX2_makeThrows 18 = .ok (.aload_n 0, 1) := by decide +kernel
theorem dX2_makeThrows_19 : decode cX2_makeThrows 19 = .ok (.aload_n 0, 1) := by decide +kernel
theorem dX2_makeThrows_20 : decode cX2_makeThrows 20 = .ok (.getfield 39, 3) := by decide +kernel
theorem dX2_makeThrows_23 : decode cX2_makeThrows 23 = .ok (.invokestatic 72, 3) := by decide +kernel
theorem dX2_makeThrows_26 : decode cX2_makeThrows 26 = .ok (.putfield 39, 3) := by decide +kernel
theorem dX2_makeThrows_29 : decode cX2_makeThrows 29 = .ok (.iload_n 3, 1) := by decide +kernel
theorem dX2_makeThrows_30 : decode cX2_makeThrows 30 = .ok (.ifCond .eq 19, 3) := by decide +kernel
theorem dX2_makeThrows_33 : decode cX2_makeThrows 33 = .ok (.aload_n 0, 1) := by decide +kernel
theorem dX2_makeThrows_34 : decode cX2_makeThrows 34 = .ok (.getfield 12, 3) := by decide +kernel
theorem dX2_makeThrows_37 : decode cX2_makeThrows 37 = .ok (.iload 4, 2) := by decide +kernel
theorem dX2_makeThrows_39 : decode cX2_makeThrows 39 = .ok (.aload_n 0, 1) := by decide +kernel
theorem dX2_makeThrows_40 : decode cX2_makeThrows 40 = .ok (.getfield 39, 3) := by decide +kernel
theorem dX2_makeThrows_43 : decode cX2_makeThrows 43 = .ok (.invokevirtual 75, 3) := by decide +kernel
theorem dX2_makeThrows_46 : decode cX2_makeThrows 46 = .ok (.goto 16, 3) := by decide +kernel
theorem dX2_makeThrows_49 : decode cX2_makeThrows 49 = .ok (.aload_n 0, 1) := by decide +kernel
theorem dX2_makeThrows_50 : decode cX2_makeThrows 50 = .ok (.getfield 12, 3) := by decide +kernel
theorem dX2_makeThrows_53 : decode cX2_makeThrows 53 = .ok (.iload 4, 2) := by decide +kernel
theorem dX2_makeThrows_55 : decode cX2_makeThrows 55 = .ok (.aload_n 0, 1) := by decide +kernel
theorem dX2_makeThrows_56 : decode cX2_makeThrows 56 = .ok (.getfield 39, 3) := by decide +kernel
theorem dX2_makeThrows_59 : decode cX2_makeThrows 59 = .ok (.invokevirtual 79, 3) := by decide +kernel
theorem dX2_makeThrows_62 : decode cX2_makeThrows 62 = .ok (.istore 7, 2) := by decide +kernel
theorem dX2_makeThrows_64 : decode cX2_makeThrows 64 = .ok (.aload_n 0, 1) := by decide +kernel
theorem dX2_makeThrows_65 : decode cX2_makeThrows 65 = .ok (.getfield 28, 3) := by decide +kernel
theorem dX2_makeThrows_68 : decode cX2_makeThrows 68 = .ok (.iload_n 1, 1) := by decide +kernel
theorem dX2_makeThrows_69 : decode cX2_makeThrows 69 = .ok (.iload 7, 2) := by decide +kernel
theorem dX2_makeThrows_71 : decode cX2_makeThrows 71 = .ok (.iload_n 3, 1) := by decide +kernel
theorem dX2_makeThrows_72 : decode cX2_makeThrows 72 = .ok (.invokevirtual 82, 3) := by decide +kernel
theorem dX2_makeThrows_75 : decode cX2_makeThrows 75 = .ok (.iload 5, 2) := by decide +kernel
theorem dX2_makeThrows_77 : decode cX2_makeThrows 77 = .ok (.iload 7, 2) := by decide +kernel
theorem dX2_makeThrows_79 : decode cX2_makeThrows 79 = .ok (.iadd, 1) := by decide +kernel
theorem dX2_makeThrows_80 : decode cX2_makeThrows 80 = .ok (.istore 5, 2) := by decide +kernel
theorem dX2_makeThrows_82 : decode cX2_makeThrows 82 = .ok (.iinc 6 1, 3) := by decide +kernel
theorem dX2_makeThrows_85 : decode cX2_makeThrows 85 = .ok (.goto (-73), 3) := by decide +kernel
theorem dX2_makeThrows_88 : decode cX2_makeThrows 88 = .ok (.iload 5, 2) := by decide +kernel
theorem dX2_makeThrows_90 : decode cX2_makeThrows 90 = .ok (.ireturn, 1) := by decide +kernel
theorem dX2_pairScore_0 : decode cX2_pairScore 0 = .ok (.aload_n 0, 1) := by decide +kernel
theorem dX2_pairScore_1 : decode cX2_pairScore 1 = .ok (.getfield 28, 3) := by decide +kernel
theorem dX2_pairScore_4 : decode cX2_pairScore 4 = .ok (.getfield 86, 3) := by decide +kernel
theorem dX2_pairScore_7 : decode cX2_pairScore 7 = .ok (.iload_n 1, 1) := by decide +kernel
theorem dX2_pairScore_8 : decode cX2_pairScore 8 = .ok (.iconst 1, 1) := by decide +kernel
theorem dX2_pairScore_9 : decode cX2_pairScore 9 = .ok (.invokestatic 90, 3) := by decide +kernel
theorem dX2_pairScore_12 : decode cX2_pairScore 12 = .ok (.aload_n 0, 1) := by decide +kernel
theorem dX2_pairScore_13 : decode cX2_pairScore 13 = .ok (.getfield 12, 3) := by decide +kernel
theorem dX2_pairScore_16 : decode cX2_pairScore 16 = .ok (.iload_n 1, 1) := by decide +kernel
theorem dX2_pairScore_17 : decode cX2_pairScore 17 = .ok (.invokestatic 68, 3) := by decide +kernel
theorem dX2_pairScore_20 : decode cX2_pairScore 20 = .ok (.invokevirtual 93, 3) := by decide +kernel
theorem dX2_pairScore_23 : decode cX2_pairScore 23 = .ok (.invokestatic 96, 3) := by decide +kernel
theorem dX2_pairScore_26 : decode cX2_pairScore 26 = .ok (.ireturn, 1) := by decide +kernel
theorem dX2_exceedsLimits_0 : decode cX2_exceedsLimits 0 = .ok (.iload_n 1, 1) := by decide +kernel
theorem dX2_exceedsLimits_1 : decode cX2_exceedsLimits 1 = .ok (.aload_n 0, 1) := by decide +kernel
theorem dX2_exceedsLimits_2 : decode cX2_exceedsLimits 2 = .ok (.getfield 43, 3) := by decide +kernel
theorem dX2_exceedsLimits_5 : decode cX2_exceedsLimits 5 = .ok (.if_icmp .lt 15, 3) := by decide +kernel
theorem dX2_exceedsLimits_8 : decode cX2_exceedsLimits 8 = .ok (.iload_n 2, 1) := by decide +kernel
theorem dX2_exceedsLimits_9 : decode cX2_exceedsLimits 9 = .ok (.aload_n 0, 1) := by decide +kernel
theorem dX2_exceedsLimits_10 : decode cX2_exceedsLimits 10 = .ok (.getfield 46, 3) := by decide +kernel
theorem dX2_exceedsLimits_13 : decode cX2_exceedsLimits 13 = .ok (.if_icmp .le 7, 3) := by decide +kernel
theorem dX2_exceedsLimits_16 : decode cX2_exceedsLimits 16 = .ok (.iconst 1, 1) := by decide +kernel
theorem dX2_exceedsLimits_17 : decode cX2_exceedsLimits 17 = .ok (.goto 4, 3) := by decide +kernel
theorem dX2_exceedsLimits_20 : decode cX2_exceedsLimits 20 = .ok (.iconst 0, 1) := by decide +kernel
theorem dX2_exceedsLimits_21 : decode cX2_exceedsLimits 21 = .ok (.ireturn, 1) := by decide +kernel
theorem dX2_isPairSuspicious_0 : decode cX2_isPairSuspicious 0 = .ok (.aload_n 0, 1) := by decide +kernel
theorem dX2_isPairSuspicious_1 : decode cX2_isPairSuspicious 1 = .ok (.aload_n 0, 1) := by decide +kernel
theorem dX2_isPairSuspicious_2 : decode cX2_isPairSuspicious 2 = .ok (.getfield 28, 3) := by decide +kernel
theorem dX2_isPairSuspicious_5 : decode cX2_isPairSuspicious 5 = .ok (.iload_n 1, 1) := by decide +kernel
theorem dX2_isPairSuspicious_6 : decode cX2_isPairSuspicious 6 = .ok (.invokevirtual 100, 3) := by decide +kernel
theorem dX2_isPairSuspicious_9 : decode cX2_isPairSuspicious 9 = .ok (.aload_n 0, 1) := by decide +kernel
theorem dX2_isPairSuspicious_10 : decode cX2_isPairSuspicious 10 = .ok (.iload_n 1, 1) := by decide +kernel
theorem dX2_isPairSuspicious_11 : decode cX2_isPairSuspicious 11 = .ok (.invokevirtual 103, 3) := by decide +kernel
theorem dX2_isPairSuspicious_14 : decode cX2_isPairSuspicious 14 = .ok (.invokevirtual 106, 3) := by decide +kernel
theorem dX2_isPairSuspicious_17 : decode cX2_isPairSuspicious 17 = .ok (.ireturn, 1) := by decide +kernel
theorem dX2_countSuspicious_0 : decode cX2_countSuspicious 0 = .ok (.iconst 0, 1) := by decide +kernel
theorem dX2_countSuspicious_1 : decode cX2_countSuspicious 1 = .ok (.istore_n 1, 1) := by decide +kernel
theorem dX2_countSuspicious_2 : decode cX2_countSuspicious 2 = .ok (.iconst 0, 1) := by decide +kernel
theorem dX2_countSuspicious_3 : decode cX2_countSuspicious 3 = .ok (.istore_n 2, 1) := by decide +kernel
theorem dX2_countSuspicious_4 : decode cX2_countSuspicious 4 = .ok (.iload_n 2, 1) := by decide +kernel
theorem dX2_countSuspicious_5 : decode cX2_countSuspicious 5 = .ok (.bipush 36, 2) := by decide +kernel
theorem dX2_countSuspicious_7 : decode cX2_countSuspicious 7 = .ok (.if_icmp .ge 20, 3) := by decide +kernel
theorem dX2_countSuspicious_10 : decode cX2_countSuspicious 10 = .ok (.aload_n 0, 1) := by decide +kernel
theorem dX2_countSuspicious_11 : decode cX2_countSuspicious 11 = .ok (.iload_n 2, 1) := by decide +kernel
theorem dX2_countSuspicious_12 : decode cX2_countSuspicious 12 = .ok (.invokevirtual 110, 3) := by decide +kernel
theorem dX2_countSuspicious_15 : decode cX2_countSuspicious 15 = .ok (.ifCond .eq 6, 3) := by decide +kernel
theorem dX2_countSuspicious_18 : decode cX2_countSuspicious 18 = .ok (.iinc 1 1, 3) := by decide +kernel
theorem dX2_countSuspicious_21 : decode cX2_countSuspicious 21 = .ok (.iinc 2 1, 3) := by decide +kernel
theorem dX2_countSuspicious_24 : decode cX2_countSuspicious 24 = .ok (.goto (-20), 3) := by decide +kernel
theorem dX2_countSuspicious_27 : decode cX2_countSuspicious 27 = .ok (.iload_n 1, 1) := by decide +kernel
theorem dX2_countSuspicious_28 : decode cX2_countSuspicious 28 = .ok (.ireturn, 1) := by decide +kernel
theorem dX2_holdAudit_0 : decode cX2_holdAudit 0 = .ok (.aload_n 0, 1) := by decide +kernel
theorem dX2_holdAudit_1 : decode cX2_holdAudit 1 = .ok (.getfield 35, 3) := by decide +kernel
theorem dX2_holdAudit_4 : decode cX2_holdAudit 4 = .ok (.getfield 114, 3) := by decide +kernel
theorem dX2_holdAudit_7 : decode cX2_holdAudit 7 = .ok (.istore_n 1, 1) := by decide +kernel
theorem dX2_holdAudit_8 : decode cX2_holdAudit 8 = .ok (.iconst 0, 1) := by decide +kernel
theorem dX2_holdAudit_9 : decode cX2_holdAudit 9 = .ok (.istore_n 2, 1) := by decide +kernel
theorem dX2_holdAudit_10 : decode cX2_holdAudit 10 = .ok (.iload_n 2, 1) := by decide +kernel
theorem dX2_holdAudit_11 : decode cX2_holdAudit 11 = .ok (.bipush 36, 2) := by decide +kernel
theorem dX2_holdAudit_13 : decode cX2_holdAudit 13 = .ok (.if_icmp .ge 51, 3) := by decide +kernel
theorem dX2_holdAudit_16 : decode cX2_holdAudit 16 = .ok (.aload_n 0, 1) := by decide +kernel
theorem dX2_holdAudit_17 : decode cX2_holdAudit 17 = .ok (.iload_n 2, 1) := by decide +kernel
theorem dX2_holdAudit_18 : decode cX2_holdAudit 18 = .ok (.invokevirtual 103, 3) := by decide +kernel
theorem dX2_holdAudit_21 : decode cX2_holdAudit 21 = .ok (.istore_n 3, 1) := by decide +kernel
theorem dX2_holdAudit_22 : decode cX2_holdAudit 22 = .ok (.aload_n 0, 1) := by decide +kernel
theorem dX2_holdAudit_23 : decode cX2_holdAudit 23 = .ok (.aload_n 0, 1) := by decide +kernel
theorem dX2_holdAudit_24 : decode cX2_holdAudit 24 = .ok (.getfield 28, 3) := by decide +kernel
theorem dX2_holdAudit_27 : decode cX2_holdAudit 27 = .ok (.iload_n 2, 1) := by decide +kernel
theorem dX2_holdAudit_28 : decode cX2_holdAudit 28 = .ok (.invokevirtual 100, 3) := by decide +kernel
theorem dX2_holdAudit_31 : decode cX2_holdAudit 31 = .ok (.iload_n 3, 1) := by decide +kernel
theorem dX2_holdAudit_32 : decode cX2_holdAudit 32 = .ok (.invokevirtual 106, 3) := by decide +kernel
theorem dX2_holdAudit_35 : decode cX2_holdAudit 35 = .ok (.ifCond .eq 23, 3) := by decide +kernel
theorem dX2_holdAudit_38 : decode cX2_holdAudit 38 = .ok (.aload_n 0, 1) := by decide +kernel
theorem dX2_holdAudit_39 : decode cX2_holdAudit 39 = .ok (.getfield 35, 3) := by decide +kernel
theorem dX2_holdAudit_42 : decode cX2_holdAudit 42 = .ok (.iload_n 2, 1) := by decide +kernel
theorem dX2_holdAudit_43 : decode cX2_holdAudit 43 = .ok (.invokevirtual 117, 3) := by decide +kernel
theorem dX2_holdAudit_46 : decode cX2_holdAudit 46 = .ok (.ifCond .ne 12, 3) := by decide +kernel
theorem dX2_holdAudit_49 : decode cX2_holdAudit 49 = .ok (.aload_n 0, 1) := by decide +kernel
theorem dX2_holdAudit_50 : decode cX2_holdAudit 50 = .ok (.getfield 35, 3) := by decide +kernel
theorem dX2_holdAudit_53 : decode cX2_holdAudit 53 = .ok (.iload_n 2, 1) := by decide +kernel
theorem dX2_holdAudit_54 : decode cX2_holdAudit 54 = .ok (.iload_n 3, 1) := by decide +kernel
theorem dX2_holdAudit_55 : decode cX2_holdAudit 55 = .ok (.invokevirtual 120, 3) := by decide +kernel
theorem dX2_holdAudit_58 : decode cX2_holdAudit 58 = .ok (.iinc 2 1, 3) := by decide +kernel
theorem dX2_holdAudit_61 : decode cX2_holdAudit 61 = .ok (.goto (-51), 3) := by decide +kernel
theorem dX2_holdAudit_64 : decode cX2_holdAudit 64 = .ok (.aload_n 0, 1) := by decide +kernel
theorem dX2_holdAudit_65 : decode cX2_holdAudit 65 = .ok (.getfield 35, 3) := by decide +kernel
theorem dX2_holdAudit_68 : decode cX2_holdAudit 68 = .ok (.getfield 114, 3) := by decide +kernel
theorem dX2_holdAudit_71 : decode cX2_holdAudit 71 = .ok (.iload_n 1, 1) := by decide +kernel
theorem dX2_holdAudit_72 : decode cX2_holdAudit 72 = .ok (.isub, 1) := by decide +kernel
theorem dX2_holdAudit_73 : decode cX2_holdAudit 73 = .ok (.ireturn, 1) := by decide +kernel
theorem dX2_penanceSize_0 : decode cX2_penanceSize 0 = .ok (.aload_n 0, 1) := by decide +kernel
theorem dX2_penanceSize_1 : decode cX2_penanceSize 1 = .ok (.getfield 35, 3) := by decide +kernel
theorem dX2_penanceSize_4 : decode cX2_penanceSize 4 = .ok (.getfield 114, 3) := by decide +kernel
theorem dX2_penanceSize_7 : decode cX2_penanceSize 7 = .ok (.ifCond .ne 5, 3) := by decide +kernel
theorem dX2_penanceSize_10 : decode cX2_penanceSize 10 = .ok (.iconst 0, 1) := by decide +kernel
theorem dX2_penanceSize_11 : decode cX2_penanceSize 11 = .ok (.ireturn, 1) := by decide +kernel
theorem dX2_penanceSize_12 : decode cX2_penanceSize 12 = .ok (.aload_n 0, 1) := by decide +kernel
theorem dX2_penanceSize_13 : decode cX2_penanceSize 13 = .ok (.getfield 35, 3) := by decide +kernel
theorem dX2_penanceSize_16 : decode cX2_penanceSize 16 = .ok (.getfield 123, 3) := by decide +kernel
theorem dX2_penanceSize_19 : decode cX2_penanceSize 19 = .ok (.iconst 0, 1) := by decide +kernel
theorem dX2_penanceSize_20 : decode cX2_penanceSize 20 = .ok (.invokestatic 126, 3) := by decide +kernel
theorem dX2_penanceSize_23 : decode cX2_penanceSize 23 = .ok (.aload_n 0, 1) := by decide +kernel
theorem dX2_penanceSize_24 : decode cX2_penanceSize 24 = .ok (.getfield 28, 3) := by decide +kernel
theorem dX2_penanceSize_27 : decode cX2_penanceSize 27 = .ok (.aload_n 0, 1) := by decide +kernel
theorem dX2_penanceSize_28 : decode cX2_penanceSize 28 = .ok (.getfield 35, 3) := by decide +kernel
theorem dX2_penanceSize_31 : decode cX2_penanceSize 31 = .ok (.getfield 130, 3) := by decide +kernel
theorem dX2_penanceSize_34 : decode cX2_penanceSize 34 = .ok (.iconst 0, 1) := by decide +kernel
theorem dX2_penanceSize_35 : decode cX2_penanceSize 35 = .ok (.invokestatic 126, 3) := by decide +kernel
theorem dX2_penanceSize_38 : decode cX2_penanceSize 38 = .ok (.invokevirtual 100, 3) := by decide +kernel
theorem dX2_penanceSize_41 : decode cX2_penanceSize 41 = .ok (.invokestatic 133, 3) := by decide +kernel
theorem dX2_penanceSize_44 : decode cX2_penanceSize 44 = .ok (.ireturn, 1) := by decide +kernel
theorem dX2_doPenance_0 : decode cX2_doPenance 0 = .ok (.aload_n 0, 1) := by decide +kernel
theorem dX2_doPenance_1 : decode cX2_doPenance 1 = .ok (.invokevirtual 138, 3) := by decide +kernel
theorem dX2_doPenance_4 : decode cX2_doPenance 4 = .ok (.istore_n 1, 1) := by decide +kernel
theorem dX2_doPenance_5 : decode cX2_doPenance 5 = .ok (.aload_n 0, 1) := by decide +kernel
theorem dX2_doPenance_6 : decode cX2_doPenance 6 = .ok (.getfield 35, 3) := by decide +kernel
theorem dX2_doPenance_9 : decode cX2_doPenance 9 = .ok (.getfield 130, 3) := by decide +kernel
theorem dX2_doPenance_12 : decode cX2_doPenance 12 = .ok (.iconst 0, 1) := by decide +kernel
theorem dX2_doPenance_13 : decode cX2_doPenance 13 = .ok (.invokestatic 126, 3) := by decide +kernel
theorem dX2_doPenance_16 : decode cX2_doPenance 16 = .ok (.istore_n 2, 1) := by decide +kernel
theorem dX2_doPenance_17 : decode cX2_doPenance 17 = .ok (.aload_n 0, 1) := by decide +kernel
theorem dX2_doPenance_18 : decode cX2_doPenance 18 = .ok (.getfield 35, 3) := by decide +kernel
theorem dX2_doPenance_21 : decode cX2_doPenance 21 = .ok (.invokevirtual 142, 3) := by decide +kernel
theorem dX2_doPenance_24 : decode cX2_doPenance 24 = .ok (.aload_n 0, 1) := by decide +kernel
theorem dX2_doPenance_25 : decode cX2_doPenance 25 = .ok (.getfield 28, 3) := by decide +kernel
theorem dX2_doPenance_28 : decode cX2_doPenance 28 = .ok (.iload_n 2, 1) := by decide +kernel
theorem dX2_doPenance_29 : decode cX2_doPenance 29 = .ok (.iload_n 1, 1) := by decide +kernel
theorem dX2_doPenance_30 : decode cX2_doPenance 30 = .ok (.invokevirtual 145, 3) := by decide +kernel
theorem dX2_doPenance_33 : decode cX2_doPenance 33 = .ok (.aload_n 0, 1) := by decide +kernel
theorem dX2_doPenance_34 : decode cX2_doPenance 34 = .ok (.iload_n 2, 1) := by decide +kernel
theorem dX2_doPenance_35 : decode cX2_doPenance 35 = .ok (.iload_n 1, 1) := by decide +kernel
theorem dX2_doPenance_36 : decode cX2_doPenance 36 = .ok (.iconst 1, 1) := by decide +kernel
theorem dX2_doPenance_37 : decode cX2_doPenance 37 = .ok (.invokevirtual 148, 3) := by decide +kernel
theorem dX2_doPenance_40 : decode cX2_doPenance 40 = .ok (.ireturn, 1) := by decide +kernel
theorem dX3_init_0 : decode cX3_init 0 = .ok (.aload_n 0, 1) := by decide +kernel
theorem dX3_init_1 : decode cX3_init 1 = .ok (.invokespecial 3, 3) := by decide +kernel
theorem dX3_init_4 : decode cX3_init 4 = .ok (.aload_n 0, 1) := by decide +kernel
theorem dX3_init_5 : decode cX3_init 5 = .ok (.bipush 8, 2) := by decide +kernel
theorem dX3_init_7 : decode cX3_init 7 = .ok (.anewarray 9, 3) := by decide +kernel
theorem dX3_init_10 : decode cX3_init 10 = .ok (.putfield 11, 3) := by decide +kernel
theorem dX3_init_13 : decode cX3_init 13 = .ok (.aload_n 0, 1) := by decide +kernel
theorem dX3_init_14 : decode cX3_init 14 = .ok (.iconst 0, 1) := by decide +kernel
theorem dX3_init_15 : decode cX3_init 15 = .ok (.putfield 17, 3) := by decide +kernel
theorem dX3_init_18 : decode cX3_init 18 = .ok (.aload_n 0, 1) := by decide +kernel
theorem dX3_init_19 : decode cX3_init 19 = .ok (.iconst 0, 1) := by decide +kernel
theorem dX3_init_20 : decode cX3_init 20 = .ok (.putfield 21, 3) := by decide +kernel
theorem dX3_init_23 : decode cX3_init 23 = .ok (.iconst 0, 1) := by decide +kernel
theorem dX3_init_24 : decode cX3_init 24 = .ok (.istore_n 1, 1) := by decide +kernel
theorem dX3_init_25 : decode cX3_init 25 = .ok (.iload_n 1, 1) := by decide +kernel
theorem dX3_init_26 : decode cX3_init 26 = .ok (.aload_n 0, 1) := by decide +kernel
theorem dX3_init_27 : decode cX3_init 27 = .ok (.getfield 11, 3) := by decide +kernel
theorem dX3_init_30 : decode cX3_init 30 = .ok (.arraylength, 1) := by decide +kernel
theorem dX3_init_31 : decode cX3_init 31 = .ok (.if_icmp .ge 22, 3) := by decide +kernel
theorem dX3_init_34 : decode cX3_init 34 = .ok (.aload_n 0, 1) := by decide +kernel
theorem dX3_init_35 : decode cX3_init 35 = .ok (.getfield 11, 3) := by decide +kernel
theorem dX3_init_38 : decode cX3_init 38 = .ok (.iload_n 1, 1) := by decide +kernel
theorem dX3_init_39 : decode cX3_init 39 = .ok (.new 9, 3) := by decide +kernel
theorem dX3_init_42 : decode cX3_init 42 = .ok (.dup, 1) := by decide +kernel
theorem dX3_init_43 : decode cX3_init 43 = .ok (.invokespecial 24, 3) := by decide +kernel
theorem dX3_init_46 : decode cX3_init 46 = .ok (.aastore, 1) := by decide +kernel
theorem dX3_init_47 : decode cX3_init 47 = .ok (.iinc 1 1, 3) := by decide +kernel
theorem dX3_init_50 : decode cX3_init 50 = .ok (.goto (-25), 3) := by decide +kernel
theorem dX3_init_53 : decode cX3_init 53 = .ok (.return_, 1) := by decide +kernel
theorem dX3_remember_0 : decode cX3_remember 0 = .ok (.aload_n 0, 1) := by decide +kernel
theorem dX3_remember_1 : decode cX3_remember 1 = .ok (.getfield 17, 3) := by decide +kernel
theorem dX3_remember_4 : decode cX3_remember 4 = .ok (.ifCond .lt 40, 3) := by decide +kernel
theorem dX3_remember_7 : decode cX3_remember 7 = .ok (.aload_n 0, 1) := by decide +kernel
theorem dX3_remember_8 : decode cX3_remember 8 = .ok (.getfield 17, 3) := by decide +kernel
theorem dX3_remember_11 : decode cX3_remember 11 = .ok (.aload_n 0, 1) := by decide +kernel
theorem dX3_remember_12 : decode cX3_remember 12 = .ok (.getfield 11, 3) := by decide +kernel
theorem dX3_remember_15 : decode cX3_remember 15 = .ok (.arraylength, 1) := by decide +kernel
theorem dX3_remember_16 : decode cX3_remember 16 = .ok (.if_icmp .ge 28, 3) := by decide +kernel
theorem dX3_remember_19 : decode cX3_remember 19 = .ok (.aload_n 0, 1) := by decide +kernel
theorem dX3_remember_20 : decode cX3_remember 20 = .ok (.getfield 11, 3) := by decide +kernel
theorem dX3_remember_23 : decode cX3_remember 23 = .ok (.aload_n 0, 1) := by decide +kernel
theorem dX3_remember_24 : decode cX3_remember 24 = .ok (.getfield 17, 3) := by decide +kernel
theorem dX3_remember_27 : decode cX3_remember 27 = .ok (.aaload, 1) := by decide +kernel
theorem dX3_remember_28 : decode cX3_remember 28 = .ok (.ifnull 16, 3) := by decide +kernel
theorem dX3_remember_31 : decode cX3_remember 31 = .ok (.aload_n 0, 1) := by decide +kernel
theorem dX3_remember_32 : decode cX3_remember 32 = .ok (.getfield 11, 3) := by decide +kernel
theorem dX3_remember_35 : decode cX3_remember 35 = .ok (.aload_n 0, 1) := by decide +kernel
theorem dX3_remember_36 : decode cX3_remember 36 = .ok (.getfield 17, 3) := by decide +kernel
theorem dX3_remember_39 : decode cX3_remember 39 = .ok (.aaload, 1) := by decide +kernel
theorem dX3_remember_40 : decode cX3_remember 40 = .ok (.aload_n 1, 1) := by decide +kernel
theorem dX3_remember_41 : decode cX3_remember 41 = .ok (.invokevirtual 25, 3) := by decide +kernel
theorem dX3_remember_44 : decode cX3_remember 44 = .ok (.aload_n 0, 1) := by decide +kernel
theorem dX3_remember_45 : decode cX3_remember 45 = .ok (.aload_n 0, 1) := by decide +kernel
theorem dX3_remember_46 : decode cX3_remember 46 = .ok (.getfield 17, 3) := by decide +kernel
theorem dX3_remember_49 : decode cX3_remember 49 = .ok (.iconst 1, 1) := by decide +kernel
theorem dX3_remember_50 : decode cX3_remember 50 = .ok (.iadd, 1) := by decide +kernel
theorem dX3_remember_51 : decode cX3_remember 51 = .ok (.bipush 8, 2) := by decide +kernel
theorem dX3_remember_53 : decode cX3_remember 53 = .ok (.irem, 1) := by decide +kernel
theorem dX3_remember_54 : decode cX3_remember 54 = .ok (.putfield 17, 3) := by decide +kernel
theorem dX3_remember_57 : decode cX3_remember 57 = .ok (.aload_n 0, 1) := by decide +kernel
theorem dX3_remember_58 : decode cX3_remember 58 = .ok (.aload_n 0, 1) := by decide +kernel
theorem dX3_remember_59 : decode cX3_remember 59 = .ok (.getfield 21, 3) := by decide +kernel
theorem dX3_remember_62 : decode cX3_remember 62 = .ok (.iconst 1, 1) := by decide +kernel
theorem dX3_remember_63 : decode cX3_remember 63 = .ok (.iadd, 1) := by decide +kernel
theorem dX3_remember_64 : decode cX3_remember 64 = .ok (.bipush 8, 2) := by decide +kernel
theorem dX3_remember_66 : decode cX3_remember 66 = .ok (.invokestatic 29, 3) := by decide +kernel
theorem dX3_remember_69 : decode cX3_remember 69 = .ok (.putfield 21, 3) := by decide +kernel
theorem dX3_remember_72 : decode cX3_remember 72 = .ok (.return_, 1) := by decide +kernel
theorem dX4_init_0 : decode cX4_init 0 = .ok (.aload_n 0, 1) := by decide +kernel
theorem dX4_init_1 : decode cX4_init 1 = .ok (.invokespecial 3, 3) := by decide +kernel
theorem dX4_init_4 : decode cX4_init 4 = .ok (.aload_n 0, 1) := by decide +kernel
theorem dX4_init_5 : decode cX4_init 5 = .ok (.sipush 300, 3) := by decide +kernel
theorem dX4_init_8 : decode cX4_init 8 = .ok (.newarray .int, 2) := by decide +kernel
theorem dX4_init_10 : decode cX4_init 10 = .ok (.putfield 9, 3) := by decide +kernel
theorem dX4_init_13 : decode cX4_init 13 = .ok (.aload_n 0, 1) := by decide +kernel
theorem dX4_init_14 : decode cX4_init 14 = .ok (.sipush 432, 3) := by decide +kernel
theorem dX4_init_17 : decode cX4_init 17 = .ok (.newarray .int, 2) := by decide +kernel
theorem dX4_init_19 : decode cX4_init 19 = .ok (.putfield 15, 3) := by decide +kernel
theorem dX4_init_22 : decode cX4_init 22 = .ok (.aload_n 0, 1) := by decide +kernel
theorem dX4_init_23 : decode cX4_init 23 = .ok (.iconst 0, 1) := by decide +kernel
theorem dX4_init_24 : decode cX4_init 24 = .ok (.putfield 18, 3) := by decide +kernel
theorem dX4_init_27 : decode cX4_init 27 = .ok (.return_, 1) := by decide +kernel
theorem dX4_clear_0 : decode cX4_clear 0 = .ok (.aload_n 0, 1) := by decide +kernel
theorem dX4_clear_1 : decode cX4_clear 1 = .ok (.iconst 0, 1) := by decide +kernel
theorem dX4_clear_2 : decode cX4_clear 2 = .ok (.putfield 18, 3) := by decide +kernel
theorem dX4_clear_5 : decode cX4_clear 5 = .ok (.aload_n 0, 1) := by decide +kernel
theorem dX4_clear_6 : decode cX4_clear 6 = .ok (.getfield 15, 3) := by decide +kernel
theorem dX4_clear_9 : decode cX4_clear 9 = .ok (.iconst 0, 1) := by decide +kernel
theorem dX4_clear_10 : decode cX4_clear 10 = .ok (.invokestatic 22, 3) := by decide +kernel
theorem dX4_clear_13 : decode cX4_clear 13 = .ok (.return_, 1) := by decide +kernel
theorem dX4_copyFrom_0 : decode cX4_copyFrom 0 = .ok (.aload_n 0, 1) := by decide +kernel
theorem dX4_copyFrom_1 : decode cX4_copyFrom 1 = .ok (.aload_n 1, 1) := by decide +kernel
theorem dX4_copyFrom_2 : decode cX4_copyFrom 2 = .ok (.getfield 18, 3) := by decide +kernel
theorem dX4_copyFrom_5 : decode cX4_copyFrom 5 = .ok (.putfield 18, 3) := by decide +kernel
theorem dX4_copyFrom_8 : decode cX4_copyFrom 8 = .ok (.aload_n 1, 1) := by decide +kernel
theorem dX4_copyFrom_9 : decode cX4_copyFrom 9 = .ok (.getfield 9, 3) := by decide +kernel
theorem dX4_copyFrom_12 : decode cX4_copyFrom 12 = .ok (.aload_n 0, 1) := by decide +kernel
theorem dX4_copyFrom_13 : decode cX4_copyFrom 13 = .ok (.getfield 9, 3) := by decide +kernel
theorem dX4_copyFrom_16 : decode cX4_copyFrom 16 = .ok (.invokestatic 28, 3) := by decide +kernel
theorem dX4_copyFrom_19 : decode cX4_copyFrom 19 = .ok (.aload_n 1, 1) := by decide +kernel
theorem dX4_copyFrom_20 : decode cX4_copyFrom 20 = .ok (.getfield 15, 3) := by decide +kernel
theorem dX4_copyFrom_23 : decode cX4_copyFrom 23 = .ok (.aload_n 0, 1) := by decide +kernel
theorem dX4_copyFrom_24 : decode cX4_copyFrom 24 = .ok (.getfield 15, 3) := by decide +kernel
theorem dX4_copyFrom_27 : decode cX4_copyFrom 27 = .ok (.invokestatic 28, 3) := by decide +kernel
theorem dX4_copyFrom_30 : decode cX4_copyFrom 30 = .ok (.return_, 1) := by decide +kernel
theorem dX4_add_0 : decode cX4_add 0 = .ok (.aload_n 0, 1) := by decide +kernel
theorem dX4_add_1 : decode cX4_add 1 = .ok (.getfield 18, 3) := by decide +kernel
theorem dX4_add_4 : decode cX4_add 4 = .ok (.sipush 300, 3) := by decide +kernel
theorem dX4_add_7 : decode cX4_add 7 = .ok (.if_icmp .ge 68, 3) := by decide +kernel
theorem dX4_add_10 : decode cX4_add 10 = .ok (.aload_n 0, 1) := by decide +kernel
theorem dX4_add_11 : decode cX4_add 11 = .ok (.getfield 9, 3) := by decide +kernel
theorem dX4_add_14 : decode cX4_add 14 = .ok (.aload_n 0, 1) := by decide +kernel
theorem dX4_add_15 : decode cX4_add 15 = .ok (.getfield 18, 3) := by decide +kernel
theorem dX4_add_18 : decode cX4_add 18 = .ok (.iload_n 1, 1) := by decide +kernel
theorem dX4_add_19 : decode cX4_add 19 = .ok (.iconst 5, 1) := by decide +kernel
theorem dX4_add_20 : decode cX4_add 20 = .ok (.ishl, 1) := by decide +kernel
theorem dX4_add_21 : decode cX4_add 21 = .ok (.iload_n 2, 1) := by decide +kernel
theorem dX4_add_22 : decode cX4_add 22 = .ok (.iconst 1, 1) := by decide +kernel
theorem dX4_add_23 : decode cX4_add 23 = .ok (.ishl, 1) := by decide +kernel
theorem dX4_add_24 : decode cX4_add 24 = .ok (.ior, 1) := by decide +kernel
theorem dX4_add_25 : decode cX4_add 25 = .ok (.iload_n 3, 1) := by decide +kernel
theorem dX4_add_26 : decode cX4_add 26 = .ok (.ifCond .eq 7, 3) := by decide +kernel
theorem dX4_add_29 : decode cX4_add 29 = .ok (.iconst 1, 1) := by decide +kernel
theorem dX4_add_30 : decode cX4_add 30 = .ok (.goto 4, 3) := by decide +kernel
theorem dX4_add_33 : decode cX4_add 33 = .ok (.iconst 0, 1) := by decide +kernel
theorem dX4_add_34 : decode cX4_add 34 = .ok (.ior, 1) := by decide +kernel
theorem dX4_add_35 : decode cX4_add 35 = .ok (.invokestatic 32, 3) := by decide +kernel
theorem dX4_add_38 : decode cX4_add 38 = .ok (.iload_n 1, 1) := by decide +kernel
theorem dX4_add_39 : decode cX4_add 39 = .ok (.iload_n 2, 1) := by decide +kernel
theorem dX4_add_40 : decode cX4_add 40 = .ok (.invokestatic 36, 3) := by decide +kernel
theorem dX4_add_43 : decode cX4_add 43 = .ok (.istore 4, 2) := by decide +kernel
theorem dX4_add_45 : decode cX4_add 45 = .ok (.aload_n 0, 1) := by decide +kernel
theorem dX4_add_46 : decode cX4_add 46 = .ok (.getfield 15, 3) := by decide +kernel
theorem dX4_add_49 : decode cX4_add 49 = .ok (.iload 4, 2) := by decide +kernel
theorem dX4_add_51 : decode cX4_add 51 = .ok (.aload_n 0, 1) := by decide +kernel
theorem dX4_add_52 : decode cX4_add 52 = .ok (.getfield 15, 3) := by decide +kernel
theorem dX4_add_55 : decode cX4_add 55 = .ok (.iload 4, 2) := by decide +kernel
theorem dX4_add_57 : decode cX4_add 57 = .ok (.invokestatic 40, 3) := by decide +kernel
theorem dX4_add_60 : decode cX4_add 60 = .ok (.iconst 1, 1) := by decide +kernel
theorem dX4_add_61 : decode cX4_add 61 = .ok (.iadd, 1) := by decide +kernel
theorem dX4_add_62 : decode cX4_add 62 = .ok (.invokestatic 32, 3) := by decide +kernel
theorem dX4_add_65 : decode cX4_add 65 = .ok (.aload_n 0, 1) := by decide +kernel
theorem dX4_add_66 : decode cX4_add 66 = .ok (.dup, 1) := by decide +kernel
theorem dX4_add_67 : decode cX4_add 67 = .ok (.getfield 18, 3) := by decide +kernel
theorem dX4_add_70 : decode cX4_add 70 = .ok (.iconst 1, 1) := by decide +kernel
theorem dX4_add_71 : decode cX4_add 71 = .ok (.iadd, 1) := by decide +kernel
theorem dX4_add_72 : decode cX4_add 72 = .ok (.putfield 18, 3) := by decide +kernel
theorem dX4_add_75 : decode cX4_add 75 = .ok (.return_, 1) := by decide +kernel
theorem dX4_pairIn_0 : decode cX4_pairIn 0 = .ok (.aload_n 0, 1) := by decide +kernel
theorem dX4_pairIn_1 : decode cX4_pairIn 1 = .ok (.getfield 9, 3) := by decide +kernel
theorem dX4_pairIn_4 : decode cX4_pairIn 4 = .ok (.iload_n 1, 1) := by decide +kernel
theorem dX4_pairIn_5 : decode cX4_pairIn 5 = .ok (.invokestatic 40, 3) := by decide +kernel
theorem dX4_pairIn_8 : decode cX4_pairIn 8 = .ok (.iconst 5, 1) := by decide +kernel
theorem dX4_pairIn_9 : decode cX4_pairIn 9 = .ok (.ishr, 1) := by decide +kernel
theorem dX4_pairIn_10 : decode cX4_pairIn 10 = .ok (.ireturn, 1) := by decide +kernel
theorem dX4_faceIn_0 : decode cX4_faceIn 0 = .ok (.aload_n 0, 1) := by decide +kernel
theorem dX4_faceIn_1 : decode cX4_faceIn 1 = .ok (.getfield 9, 3) := by decide +kernel
theorem dX4_faceIn_4 : decode cX4_faceIn 4 = .ok (.iload_n 1, 1) := by decide +kernel
theorem dX4_faceIn_5 : decode cX4_faceIn 5 = .ok (.invokestatic 40, 3) := by decide +kernel
theorem dX4_faceIn_8 : decode cX4_faceIn 8 = .ok (.iconst 1, 1) := by decide +kernel
theorem dX4_faceIn_9 : decode cX4_faceIn 9 = .ok (.ishr, 1) := by decide +kernel
theorem dX4_faceIn_10 : decode cX4_faceIn 10 = .ok (.bipush 15, 2) := by decide +kernel
theorem dX4_faceIn_12 : decode cX4_faceIn 12 = .ok (.iand, 1) := by decide +kernel
theorem dX4_faceIn_13 : decode cX4_faceIn 13 = .ok (.ireturn, 1) := by decide +kernel
theorem dX4_isMarked_0 : decode cX4_isMarked 0 = .ok (.aload_n 0, 1) := by decide +kernel
theorem dX4_isMarked_1 : decode cX4_isMarked 1 = .ok (.getfield 9, 3) := by decide +kernel
theorem dX4_isMarked_4 : decode cX4_isMarked 4 = .ok (.iload_n 1, 1) := by decide +kernel
theorem dX4_isMarked_5 : decode cX4_isMarked 5 = .ok (.invokestatic 40, 3) := by decide +kernel
theorem dX4_isMarked_8 : decode cX4_isMarked 8 = .ok (.iconst 1, 1) := by decide +kernel
theorem dX4_isMarked_9 : decode cX4_isMarked 9 = .ok (.iand, 1) := by decide +kernel
theorem dX4_isMarked_10 : decode cX4_isMarked 10 = .ok (.iconst 1, 1) := by decide +kernel
theorem dX4_isMarked_11 : decode cX4_isMarked 11 = .ok (.if_icmp .ne 7, 3) := by decide +kernel
theorem dX4_isMarked_14 : decode cX4_isMarked 14 = .ok (.iconst 1, 1) := by decide +kernel
theorem dX4_isMarked_15 : decode cX4_isMarked 15 = .ok (.goto 4, 3) := by decide +kernel
theorem dX4_isMarked_18 : decode cX4_isMarked 18 = .ok (.iconst 0, 1) := by decide +kernel
theorem dX4_isMarked_19 : decode cX4_isMarked 19 = .ok (.ireturn, 1) := by decide +kernel
theorem dX4_removeLatest_0 : decode cX4_removeLatest 0 = .ok (.aload_n 0, 1) := by decide +kernel
theorem dX4_removeLatest_1 : decode cX4_removeLatest 1 = .ok (.iload_n 1, 1) := by decide +kernel
theorem dX4_removeLatest_2 : decode cX4_removeLatest 2 = .ok (.invokevirtual 44, 3) := by decide +kernel
theorem dX4_removeLatest_5 : decode cX4_removeLatest 5 = .ok (.iload_n 2, 1) := by decide +kernel
theorem dX4_removeLatest_6 : decode cX4_removeLatest 6 = .ok (.isub, 1) := by decide +kernel
theorem dX4_removeLatest_7 : decode cX4_removeLatest 7 = .ok (.istore_n 3, 1) := by decide +kernel
theorem dX4_removeLatest_8 : decode cX4_removeLatest 8 = .ok (.aload_n 0, 1) := by decide +kernel
theorem dX4_removeLatest_9 : decode cX4_removeLatest 9 = .ok (.getfield 18, 3) := by decide +kernel
theorem dX4_removeLatest_12 : decode cX4_removeLatest 12 = .ok (.istore 4, 2) := by decide +kernel
theorem dX4_removeLatest_14 : decode cX4_removeLatest 14 = .ok (.aload_n 0, 1) := by decide +kernel
theorem dX4_removeLatest_15 : decode cX4_removeLatest 15 = .ok (.invokevirtual 48, 3) := by decide +kernel
theorem dX4_removeLatest_18 : decode cX4_removeLatest 18 = .ok (.iconst 0, 1) := by decide +kernel
theorem dX4_removeLatest_19 : decode cX4_removeLatest 19 = .ok (.istore 5, 2) := by decide +kernel
theorem dX4_removeLatest_21 : decode cX4_removeLatest 21 = .ok (.iload 5, 2) := by decide +kernel
theorem dX4_removeLatest_23 : decode cX4_removeLatest 23 = .ok (.iload 4, 2) := by decide +kernel
theorem dX4_removeLatest_25 : decode cX4_removeLatest 25 = .ok (.if_icmp .ge 54, 3) := by decide +kernel
theorem dX4_removeLatest_28 : decode cX4_removeLatest 28 = .ok (.aload_n 0, 1) := by decide +kernel
theorem dX4_removeLatest_29 : decode cX4_removeLatest 29 = .ok (.iload 5, 2) := by decide +kernel
theorem dX4_removeLatest_31 : decode cX4_removeLatest 31 = .ok (.invokevirtual 51, 3) := by decide +kernel
theorem dX4_removeLatest_34 : decode cX4_removeLatest 34 = .ok (.istore 6, 2) := by decide +kernel
theorem dX4_removeLatest_36 : decode cX4_removeLatest 36 = .ok (.iload 6, 2) := by decide +kernel
theorem dX4_removeLatest_38 : decode cX4_removeLatest 38 = .ok (.iload_n 1, 1) := by decide +kernel
theorem dX4_removeLatest_39 : decode cX4_removeLatest 39 = .ok (.if_icmp .ne 7, 3) := by decide +kernel
theorem dX4_removeLatest_42 : decode cX4_removeLatest 42 = .ok (.iload_n 3, 1) := by decide +kernel
theorem dX4_removeLatest_43 : decode cX4_removeLatest 43 = .ok (.ifCond .le 21, 3) := by decide +kernel
theorem dX4_removeLatest_46 : decode cX4_removeLatest 46 = .ok (.aload_n 0, 1) := by decide +kernel
theorem dX4_removeLatest_47 : decode cX4_removeLatest 47 = .ok (.iload 6, 2) := by decide +kernel
theorem dX4_removeLatest_49 : decode cX4_removeLatest 49 = .ok (.aload_n 0, 1) := by decide +kernel
theorem dX4_removeLatest_50 : decode cX4_removeLatest 50 = .ok (.iload 5, 2) := by decide +kernel
theorem dX4_removeLatest_52 : decode cX4_removeLatest 52 = .ok (.invokevirtual 54, 3) := by decide +kernel
theorem dX4_removeLatest_55 : decode cX4_removeLatest 55 = .ok (.aload_n 0, 1) := by decide +kernel
theorem dX4_removeLatest_56 : decode cX4_removeLatest 56 = .ok (.iload 5, 2) := by decide +kernel
theorem dX4_removeLatest_58 : decode cX4_removeLatest 58 = .ok (.invokevirtual 57, 3) := by decide +kernel
theorem dX4_removeLatest_61 : decode cX4_removeLatest 61 = .ok (.invokevirtual 61, 3) := by decide +kernel
theorem dX4_removeLatest_64 : decode cX4_removeLatest 64 = .ok (.iload 6, 2) := by decide +kernel
theorem dX4_removeLatest_66 : decode cX4_removeLatest 66 = .ok (.iload_n 1, 1) := by decide +kernel
theorem dX4_removeLatest_67 : decode cX4_removeLatest 67 = .ok (.if_icmp .ne 6, 3) := by decide +kernel
theorem dX4_removeLatest_70 : decode cX4_removeLatest 70 = .ok (.iinc 3 (-1), 3) := by decide +kernel
theorem dX4_removeLatest_73 : decode cX4_removeLatest 73 = .ok (.iinc 5 1, 3) := by decide +kernel
theorem dX4_removeLatest_76 : decode cX4_removeLatest 76 = .ok (.goto (-55), 3) := by decide +kernel
theorem dX4_removeLatest_79 : decode cX4_removeLatest 79 = .ok (.return_, 1) := by decide +kernel
theorem dX4_pairThrows_0 : decode cX4_pairThrows 0 = .ok (.aload_n 0, 1) := by decide +kernel
theorem dX4_pairThrows_1 : decode cX4_pairThrows 1 = .ok (.getfield 15, 3) := by decide +kernel
theorem dX4_pairThrows_4 : decode cX4_pairThrows 4 = .ok (.iload_n 1, 1) := by decide +kernel
theorem dX4_pairThrows_5 : decode cX4_pairThrows 5 = .ok (.iconst 1, 1) := by decide +kernel
theorem dX4_pairThrows_6 : decode cX4_pairThrows 6 = .ok (.invokestatic 36, 3) := by decide +kernel
theorem dX4_pairThrows_9 : decode cX4_pairThrows 9 = .ok (.bipush 12, 2) := by decide +kernel
theorem dX4_pairThrows_11 : decode cX4_pairThrows 11 = .ok (.invokestatic 65, 3) := by decide +kernel
theorem dX4_pairThrows_14 : decode cX4_pairThrows 14 = .ok (.ireturn, 1) := by decide +kernel
theorem dX4_playerTotal_0 : decode cX4_playerTotal 0 = .ok (.iconst 0, 1) := by decide +kernel
theorem dX4_playerTotal_1 : decode cX4_playerTotal 1 = .ok (.istore_n 2, 1) := by decide +kernel
theorem dX4_playerTotal_2 : decode cX4_playerTotal 2 = .ok (.iconst 0, 1) := by decide +kernel
theorem dX4_playerTotal_3 : decode cX4_playerTotal 3 = .ok (.istore_n 3, 1) := by decide +kernel
theorem dX4_playerTotal_4 : decode cX4_playerTotal 4 = .ok (.iload_n 3, 1) := by decide +kernel
theorem dX4_playerTotal_5 : decode cX4_playerTotal 5 = .ok (.bipush 6, 2) := by decide +kernel
theorem dX4_playerTotal_7 : decode cX4_playerTotal 7 = .ok (.if_icmp .ge 48, 3) := by decide +kernel
theorem dX4_playerTotal_10 : decode cX4_playerTotal 10 = .ok (.iconst 1, 1) := by decide +kernel
theorem dX4_playerTotal_11 : decode cX4_playerTotal 11 = .ok (.istore 4, 2) := by decide +kernel
theorem dX4_playerTotal_13 : decode cX4_playerTotal 13 = .ok (.iload 4, 2) := by decide +kernel
theorem dX4_playerTotal_15 : decode cX4_playerTotal 15 = .ok (.bipush 12, 2) := by decide +kernel
theorem dX4_playerTotal_17 : decode cX4_playerTotal 17 = .ok (.if_icmp .gt 32, 3) := by decide +kernel
theorem dX4_playerTotal_20 : decode cX4_playerTotal 20 = .ok (.iload_n 2, 1) := by decide +kernel
theorem dX4_playerTotal_21 : decode cX4_playerTotal 21 = .ok (.iload 4, 2) := by decide +kernel
theorem dX4_playerTotal_23 : decode cX4_playerTotal 23 = .ok (.aload_n 0, 1) := by decide +kernel
theorem dX4_playerTotal_24 : decode cX4_playerTotal 24 = .ok (.getfield 15, 3) := by decide +kernel
theorem dX4_playerTotal_27 : decode cX4_playerTotal 27 = .ok (.iload_n 1, 1) := by decide +kernel
theorem dX4_playerTotal_28 : decode cX4_playerTotal 28 = .ok (.iload_n 3, 1) := by decide +kernel
theorem dX4_playerTotal_29 : decode cX4_playerTotal 29 = .ok (.invokestatic 69, 3) := by decide +kernel
theorem dX4_playerTotal_32 : decode cX4_playerTotal 32 = .ok (.iload 4, 2) := by decide +kernel
theorem dX4_playerTotal_34 : decode cX4_playerTotal 34 = .ok (.invokestatic 36, 3) := by decide +kernel
theorem dX4_playerTotal_37 : decode cX4_playerTotal 37 = .ok (.invokestatic 40, 3) := by decide +kernel
theorem dX4_playerTotal_40 : decode cX4_playerTotal 40 = .ok (.imul, 1) := by decide +kernel
theorem dX4_playerTotal_41 : decode cX4_playerTotal 41 = .ok (.iadd, 1) := by decide +kernel
theorem dX4_playerTotal_42 : decode cX4_playerTotal 42 = .ok (.istore_n 2, 1) := by decide +kernel
theorem dX4_playerTotal_43 : decode cX4_playerTotal 43 = .ok (.iinc 4 1, 3) := by decide +kernel
theorem dX4_playerTotal_46 : decode cX4_playerTotal 46 = .ok (.goto (-33), 3) := by decide +kernel
theorem dX4_playerTotal_49 : decode cX4_playerTotal 49 = .ok (.iinc 3 1, 3) := by decide +kernel
theorem dX4_playerTotal_52 : decode cX4_playerTotal 52 = .ok (.goto (-48), 3) := by decide +kernel
theorem dX4_playerTotal_55 : decode cX4_playerTotal 55 = .ok (.iload_n 2, 1) := by decide +kernel
theorem dX4_playerTotal_56 : decode cX4_playerTotal 56 = .ok (.ireturn, 1) := by decide +kernel
theorem dX4_frequencySum_0 : decode cX4_frequencySum 0 = .ok (.aload_n 0, 1) := by decide +kernel
theorem dX4_frequencySum_1 : decode cX4_frequencySum 1 = .ok (.getfield 15, 3) := by decide +kernel
theorem dX4_frequencySum_4 : decode cX4_frequencySum 4 = .ok (.iconst 0, 1) := by decide +kernel
theorem dX4_frequencySum_5 : decode cX4_frequencySum 5 = .ok (.aload_n 0, 1) := by decide +kernel
theorem dX4_frequencySum_6 : decode cX4_frequencySum 6 = .ok (.getfield 15, 3) := by decide +kernel
theorem dX4_frequencySum_9 : decode cX4_frequencySum 9 = .ok (.arraylength, 1) := by decide +kernel
theorem dX4_frequencySum_10 : decode cX4_frequencySum 10 = .ok (.invokestatic 65, 3) := by decide +kernel
theorem dX4_frequencySum_13 : decode cX4_frequencySum 13 = .ok (.ireturn, 1) := by decide +kernel
theorem dX4_faceSum_0 : decode cX4_faceSum 0 = .ok (.iconst 0, 1) := by decide +kernel
theorem dX4_faceSum_1 : decode cX4_faceSum 1 = .ok (.istore_n 1, 1) := by decide +kernel
theorem dX4_faceSum_2 : decode cX4_faceSum 2 = .ok (.iconst 0, 1) := by decide +kernel
theorem dX4_faceSum_3 : decode cX4_faceSum 3 = .ok (.istore_n 2, 1) := by decide +kernel
theorem dX4_faceSum_4 : decode cX4_faceSum 4 = .ok (.iload_n 2, 1) := by decide +kernel
theorem dX4_faceSum_5 : decode cX4_faceSum 5 = .ok (.aload_n 0, 1) := by decide +kernel
theorem dX4_faceSum_6 : decode cX4_faceSum 6 = .ok (.getfield 18, 3) := by decide +kernel
theorem dX4_faceSum_9 : decode cX4_faceSum 9 = .ok (.if_icmp .ge 17, 3) := by decide +kernel
theorem dX4_faceSum_12 : decode cX4_faceSum 12 = .ok (.iload_n 1, 1) := by decide +kernel
theorem dX4_faceSum_13 : decode cX4_faceSum 13 = .ok (.aload_n 0, 1) := by decide +kernel
theorem dX4_faceSum_14 : decode cX4_faceSum 14 = .ok (.iload_n 2, 1) := by decide +kernel
theorem dX4_faceSum_15 : decode cX4_faceSum 15 = .ok (.invokevirtual 54, 3) := by decide +kernel
theorem dX4_faceSum_18 : decode cX4_faceSum 18 = .ok (.iadd, 1) := by decide +kernel
theorem dX4_faceSum_19 : decode cX4_faceSum 19 = .ok (.istore_n 1, 1) := by decide +kernel
theorem dX4_faceSum_20 : decode cX4_faceSum 20 = .ok (.iinc 2 1, 3) := by decide +kernel
theorem dX4_faceSum_23 : decode cX4_faceSum 23 = .ok (.goto (-19), 3) := by decide +kernel
theorem dX4_faceSum_26 : decode cX4_faceSum 26 = .ok (.iload_n 1, 1) := by decide +kernel
theorem dX4_faceSum_27 : decode cX4_faceSum 27 = .ok (.ireturn, 1) := by decide +kernel
theorem dX5_init_0 : decode cX5_init 0 = .ok (.aload_n 0, 1) := by decide +kernel
theorem dX5_init_1 : decode cX5_init 1 = .ok (.invokespecial 3, 3) := by decide +kernel
theorem dX5_init_4 : decode cX5_init 4 = .ok (.aload_n 0, 1) := by decide +kernel
theorem dX5_init_5 : decode cX5_init 5 = .ok (.new 9, 3) := by decide +kernel
theorem dX5_init_8 : decode cX5_init 8 = .ok (.dup, 1) := by decide +kernel
theorem dX5_init_9 : decode cX5_init 9 = .ok (.invokespecial 11, 3) := by decide +kernel
theorem dX5_init_12 : decode cX5_init 12 = .ok (.putfield 12, 3) := by decide +kernel
theorem dX5_init_15 : decode cX5_init 15 = .ok (.aload_n 0, 1) := by decide +kernel
theorem dX5_init_16 : decode cX5_init 16 = .ok (.iconst 0, 1) := by decide +kernel
theorem dX5_init_17 : decode cX5_init 17 = .ok (.putfield 18, 3) := by decide +kernel
theorem dX5_init_20 : decode cX5_init 20 = .ok (.aload_n 0, 1) := by decide +kernel
theorem dX5_init_21 : decode cX5_init 21 = .ok (.iconst (-1), 1) := by decide +kernel
theorem dX5_init_22 : decode cX5_init 22 = .ok (.putfield 22, 3) := by decide +kernel
theorem dX5_init_25 : decode cX5_init 25 = .ok (.aload_n 0, 1) := by decide +kernel
theorem dX5_init_26 : decode cX5_init 26 = .ok (.aload_n 1, 1) := by decide +kernel
theorem dX5_init_27 : decode cX5_init 27 = .ok (.putfield 25, 3) := by decide +kernel
theorem dX5_init_30 : decode cX5_init 30 = .ok (.aload_n 0, 1) := by decide +kernel
theorem dX5_init_31 : decode cX5_init 31 = .ok (.new 29, 3) := by decide +kernel
theorem dX5_init_34 : decode cX5_init 34 = .ok (.dup, 1) := by decide +kernel
theorem dX5_init_35 : decode cX5_init 35 = .ok (.aload_n 1, 1) := by decide +kernel
theorem dX5_init_36 : decode cX5_init 36 = .ok (.invokespecial 31, 3) := by decide +kernel
theorem dX5_init_39 : decode cX5_init 39 = .ok (.putfield 34, 3) := by decide +kernel
theorem dX5_init_42 : decode cX5_init 42 = .ok (.return_, 1) := by decide +kernel
theorem dX5_parse_0 : decode cX5_parse 0 = .ok (.aload_n 0, 1) := by decide +kernel
theorem dX5_parse_1 : decode cX5_parse 1 = .ok (.iconst 0, 1) := by decide +kernel
theorem dX5_parse_2 : decode cX5_parse 2 = .ok (.putfield 18, 3) := by decide +kernel
theorem dX5_parse_5 : decode cX5_parse 5 = .ok (.aload_n 0, 1) := by decide +kernel
theorem dX5_parse_6 : decode cX5_parse 6 = .ok (.iconst (-1), 1) := by decide +kernel
theorem dX5_parse_7 : decode cX5_parse 7 = .ok (.putfield 22, 3) := by decide +kernel
theorem dX5_parse_10 : decode cX5_parse 10 = .ok (.aload_n 0, 1) := by decide +kernel
theorem dX5_parse_11 : decode cX5_parse 11 = .ok (.getfield 34, 3) := by decide +kernel
theorem dX5_parse_14 : decode cX5_parse 14 = .ok (.invokevirtual 38, 3) := by decide +kernel
theorem dX5_parse_17 : decode cX5_parse 17 = .ok (.aload_n 0, 1) := by decide +kernel
theorem dX5_parse_18 : decode cX5_parse 18 = .ok (.invokevirtual 41, 3) := by decide +kernel
theorem dX5_parse_21 : decode cX5_parse 21 = .ok (.iconst 0, 1) := by decide +kernel
theorem dX5_parse_22 : decode cX5_parse 22 = .ok (.istore_n 1, 1) := by decide +kernel
theorem dX5_parse_23 : decode cX5_parse 23 = .ok (.iload_n 1, 1) := by decide +kernel
theorem dX5_parse_24 : decode cX5_parse 24 = .ok (.sipush 600, 3) := by decide +kernel
theorem dX5_parse_27 : decode cX5_parse 27 = .ok (.if_icmp .ge 20, 3) := by decide +kernel
theorem dX5_parse_30 : decode cX5_parse 30 = .ok (.aload_n 0, 1) := by decide +kernel
theorem dX5_parse_31 : decode cX5_parse 31 = .ok (.invokevirtual 44, 3) := by decide +kernel
theorem dX5_parse_34 : decode cX5_parse 34 = .ok (.ifCond .eq 13, 3) := by decide +kernel
theorem dX5_parse_37 : decode cX5_parse 37 = .ok (.aload_n 0, 1) := by decide +kernel
theorem dX5_parse_38 : decode cX5_parse 38 = .ok (.invokevirtual 48, 3) := by decide +kernel
theorem dX5_parse_41 : decode cX5_parse 41 = .ok (.iinc 1 1, 3) := by decide +kernel
theorem dX5_parse_44 : decode cX5_parse 44 = .ok (.goto (-21), 3) := by decide +kernel
theorem dX5_parse_47 : decode cX5_parse 47 = .ok (.aload_n 0, 1) := by decide +kernel
theorem dX5_parse_48 : decode cX5_parse 48 = .ok (.getfield 18, 3) := by decide +kernel
theorem dX5_parse_51 : decode cX5_parse 51 = .ok (.ifCond .ne 7, 3) := by decide +kernel
theorem dX5_parse_54 : decode cX5_parse 54 = .ok (.iconst 1, 1) := by decide +kernel
theorem dX5_parse_55 : decode cX5_parse 55 = .ok (.goto 4, 3) := by decide +kernel
theorem dX5_parse_58 : decode cX5_parse 58 = .ok (.iconst 0, 1) := by decide +kernel
theorem dX5_parse_59 : decode cX5_parse 59 = .ok (.ireturn, 1) := by decide +kernel
theorem dX5_hasMore_0 : decode cX5_hasMore 0 = .ok (.aload_n 0, 1) := by decide +kernel
theorem dX5_hasMore_1 : decode cX5_hasMore 1 = .ok (.getfield 18, 3) := by decide +kernel
theorem dX5_hasMore_4 : decode cX5_hasMore 4 = .ok (.ifCond .ne 17, 3) := by decide +kernel
theorem dX5_hasMore_7 : decode cX5_hasMore 7 = .ok (.aload_n 0, 1) := by decide +kernel
theorem dX5_hasMore_8 : decode cX5_hasMore 8 = .ok (.getfield 34, 3) := by decide +kernel
theorem dX5_hasMore_11 : decode cX5_hasMore 11 = .ok (.getfield 51, 3) := by decide +kernel
theorem dX5_hasMore_14 : decode cX5_hasMore 14 = .ok (.ifCond .eq 7, 3) := by decide +kernel
theorem dX5_hasMore_17 : decode cX5_hasMore 17 = .ok (.iconst 1, 1) := by decide +kernel
theorem dX5_hasMore_18 : decode cX5_hasMore 18 = .ok (.goto 4, 3) := by decide +kernel
theorem dX5_hasMore_21 : decode cX5_hasMore 21 = .ok (.iconst 0, 1) := by decide +kernel
theorem dX5_hasMore_22 : decode cX5_hasMore 22 = .ok (.ireturn, 1) := by decide +kernel
theorem dX5_readHall_0 : decode cX5_readHall 0 = .ok (.aload_n 0, 1) := by decide +kernel
theorem dX5_readHall_1 : decode cX5_readHall 1 = .ok (.aload_n 0, 1) := by decide +kernel
theorem dX5_readHall_2 : decode cX5_readHall 2 = .ok (.getfield 34, 3) := by decide +kernel
theorem dX5_readHall_5 : decode cX5_readHall 5 = .ok (.ldc 54, 2) := by decide +kernel
theorem dX5_readHall_7 : decode cX5_readHall 7 = .ok (.invokevirtual 56, 3) := by decide +kernel
theorem dX5_readHall_10 : decode cX5_readHall 10 = .ok (.ifCond .eq 7, 3) := by decide +kernel
theorem dX5_readHall_13 : decode cX5_readHall 13 = .ok (.iconst 0, 1) := by decide +kernel
theorem dX5_readHall_14 : decode cX5_readHall 14 = .ok (.goto 4, 3) := by decide +kernel
theorem dX5_readHall_17 : decode cX5_readHall 17 = .ok (.iconst 1, 1) := by decide +kernel
theorem dX5_readHall_18 : decode cX5_readHall 18 = .ok (.invokevirtual 60, 3) := by decide +kernel
theorem dX5_readHall_21 : decode cX5_readHall 21 = .ok (.aload_n 0, 1) := by decide +kernel
theorem dX5_readHall_22 : decode cX5_readHall 22 = .ok (.iconst 0, 1) := by decide +kernel
theorem dX5_readHall_23 : decode cX5_readHall 23 = .ok (.ldc 64, 2) := by decide +kernel
theorem dX5_readHall_25 : decode cX5_readHall 25 = .ok (.invokevirtual 65, 3) := by decide +kernel
theorem dX5_readHall_28 : decode cX5_readHall 28 = .ok (.istore_n 1, 1) := by decide +kernel
theorem dX5_readHall_29 : decode cX5_readHall 29 = .ok (.aload_n 0, 1) := by decide +kernel
theorem dX5_readHall_30 : decode cX5_readHall 30 = .ok (.iconst 1, 1) := by decide +kernel
theorem dX5_readHall_31 : decode cX5_readHall 31 = .ok (.bipush 99, 2) := by decide +kernel
theorem dX5_readHall_33 : decode cX5_readHall 33 = .ok (.invokevirtual 65, 3) := by decide +kernel
theorem dX5_readHall_36 : decode cX5_readHall 36 = .ok (.istore_n 2, 1) := by decide +kernel
theorem dX5_readHall_37 : decode cX5_readHall 37 = .ok (.aload_n 0, 1) := by decide +kernel
theorem dX5_readHall_38 : decode cX5_readHall 38 = .ok (.iconst 0, 1) := by decide +kernel
theorem dX5_readHall_39 : decode cX5_readHall 39 = .ok (.sipush 999, 3) := by decide +kernel
theorem dX5_readHall_42 : decode cX5_readHall 42 = .ok (.invokevirtual 65, 3) := by decide +kernel
theorem dX5_readHall_45 : decode cX5_readHall 45 = .ok (.istore_n 3, 1) := by decide +kernel
theorem dX5_readHall_46 : decode cX5_readHall 46 = .ok (.aload_n 0, 1) := by decide +kernel
theorem dX5_readHall_47 : decode cX5_readHall 47 = .ok (.iconst 0, 1) := by decide +kernel
theorem dX5_readHall_48 : decode cX5_readHall 48 = .ok (.invokevirtual 69, 3) := by decide +kernel
theorem dX5_readHall_51 : decode cX5_readHall 51 = .ok (.aload_n 0, 1) := by decide +kernel
theorem dX5_readHall_52 : decode cX5_readHall 52 = .ok (.getfield 18, 3) := by decide +kernel
theorem dX5_readHall_55 : decode cX5_readHall 55 = .ok (.ifCond .ne 13, 3) := by decide +kernel
theorem dX5_readHall_58 : decode cX5_readHall 58 = .ok (.aload_n 0, 1) := by decide +kernel
theorem dX5_readHall_59 : decode cX5_readHall 59 = .ok (.getfield 12, 3) := by decide +kernel
theorem dX5_readHall_62 : decode cX5_readHall 62 = .ok (.iload_n 1, 1) := by decide +kernel
theorem dX5_readHall_63 : decode cX5_readHall 63 = .ok (.iload_n 2, 1) := by decide +kernel
theorem dX5_readHall_64 : decode cX5_readHall 64 = .ok (.iload_n 3, 1) := by decide +kernel
theorem dX5_readHall_65 : decode cX5_readHall 65 = .ok (.invokevirtual 72, 3) := by decide +kernel
theorem dX5_readHall_68 : decode cX5_readHall 68 = .ok (.return_, 1) := by decide +kernel
theorem dX5_readStatement_0 : decode cX5_readStatement 0 = .ok (.aload_n 0, 1) := by decide +kernel
theorem dX5_readStatement_1 : decode cX5_readStatement 1 = .ok (.getfield 34, 3) := by decide +kernel
theorem dX5_readStatement_4 : decode cX5_readStatement 4 = .ok (.ldc 76, 2) := by decide +kernel
theorem dX5_readStatement_6 : decode cX5_readStatement 6 = .ok (.invokevirtual 56, 3) := by decide +kernel
theorem dX5_readStatement_9 : decode cX5_readStatement 9 = .ok (.ifCond .eq 10, 3) := by decide +kernel
theorem dX5_readStatement_12 : decode cX5_readStatement 12 = .ok (.aload_n 0, 1) := by decide +kernel
theorem dX5_readStatement_13 : decode cX5_readStatement 13 = .ok (.invokevirtual 78, 3) := by decide +kernel
theorem dX5_readStatement_16 : decode cX5_readStatement 16 = .ok (.goto 103, 3) := by decide +kernel
theorem dX5_readStatement_19 : decode cX5_readStatement 19 = .ok (.aload_n 0, 1) := by decide +kernel
theorem dX5_readStatement_20 : decode cX5_readStatement 20 = .ok (.getfield 34, 3) := by decide +kernel
theorem dX5_readStatement_23 : decode cX5_readStatement 23 = .ok (.ldc 81, 2) := by decide +kernel
theorem dX5_readStatement_25 : decode cX5_readStatement 25 = .ok (.invokevirtual 56, 3) := by decide +kernel
theorem dX5_readStatement_28 : decode cX5_readStatement 28 = .ok (.ifCond .eq 10, 3) := by decide +kernel
theorem dX5_readStatement_31 : decode cX5_readStatement 31 = .ok (.aload_n 0, 1) := by decide +kernel
theorem dX5_readStatement_32 : decode cX5_readStatement 32 = .ok (.invokevirtual 83, 3) := by decide +kernel
theorem dX5_readStatement_35 : decode cX5_readStatement 35 = .ok (.goto 84, 3) := by decide +kernel
theorem dX5_readStatement_38 : decode cX5_readStatement 38 = .ok (.aload_n 0, 1) := by decide +kernel
theorem dX5_readStatement_39 : decode cX5_readStatement 39 = .ok (.getfield 34, 3) := by decide +kernel
theorem dX5_readStatement_42 : decode cX5_readStatement 42 = .ok (.ldc 86, 2) := by decide +kernel
theorem dX5_readStatement_44 : decode cX5_readStatement 44 = .ok (.invokevirtual 56, 3) := by decide +kernel
theorem dX5_readStatement_47 : decode cX5_readStatement 47 = .ok (.ifCond .eq 10, 3) := by decide +kernel
theorem dX5_readStatement_50 : decode cX5_readStatement 50 = .ok (.aload_n 0, 1) := by decide +kernel
theorem dX5_readStatement_51 : decode cX5_readStatement 51 = .ok (.invokevirtual 88, 3) := by decide +kernel
theorem dX5_readStatement_54 : decode cX5_readStatement 54 = .ok (.goto 65, 3) := by decide +kernel
theorem dX5_readStatement_57 : decode cX5_readStatement 57 = .ok (.aload_n 0, 1) := by decide +kernel
theorem dX5_readStatement_58 : decode cX5_readStatement 58 = .ok (.getfield 34, 3) := by decide +kernel
theorem dX5_readStatement_61 : decode cX5_readStatement 61 = .ok (.ldc 91, 2) := by decide +kernel
theorem dX5_readStatement_63 : decode cX5_readStatement 63 = .ok (.invokevirtual 56, 3) := by decide +kernel
theorem dX5_readStatement_66 : decode cX5_readStatement 66 = .ok (.ifCond .eq 10, 3) := by decide +kernel
theorem dX5_readStatement_69 : decode cX5_readStatement 69 = .ok (.aload_n 0, 1) := by decide +kernel
theorem dX5_readStatement_70 : decode cX5_readStatement 70 = .ok (.invokevirtual 93, 3) := by decide +kernel
theorem dX5_readStatement_73 : decode cX5_readStatement 73 = .ok (.goto 46, 3) := by decide +kernel
theorem dX5_readStatement_76 : decode cX5_readStatement 76 = .ok (.aload_n 0, 1) := by decide +kernel
theorem dX5_readStatement_77 : decode cX5_readStatement 77 = .ok (.getfield 34, 3) := by decide +kernel
theorem dX5_readStatement_80 : decode cX5_readStatement 80 = .ok (.ldc 96, 2) := by decide +kernel
theorem dX5_readStatement_82 : decode cX5_readStatement 82 = .ok (.invokevirtual 56, 3) := by decide +kernel
theorem dX5_readStatement_85 : decode cX5_readStatement 85 = .ok (.ifCond .eq 10, 3) := by decide +kernel
theorem dX5_readStatement_88 : decode cX5_readStatement 88 = .ok (.aload_n 0, 1) := by decide +kernel
theorem dX5_readStatement_89 : decode cX5_readStatement 89 = .ok (.invokevirtual 98, 3) := by decide +kernel
theorem dX5_readStatement_92 : decode cX5_readStatement 92 = .ok (.goto 27, 3) := by decide +kernel
theorem dX5_readStatement_95 : decode cX5_readStatement 95 = .ok (.aload_n 0, 1) := by decide +kernel
theorem dX5_readStatement_96 : decode cX5_readStatement 96 = .ok (.getfield 34, 3) := by decide +kernel
theorem dX5_readStatement_99 : decode cX5_readStatement 99 = .ok (.ldc 101, 2) := by decide +kernel
theorem dX5_readStatement_101 : decode cX5_readStatement 101 = .ok (.invokevirtual 56, 3) := by decide +kernel
theorem dX5_readStatement_104 : decode cX5_readStatement 104 = .ok (.ifCond .eq 10, 3) := by decide +kernel
theorem dX5_readStatement_107 : decode cX5_readStatement 107 = .ok (.aload_n 0, 1) := by decide +kernel
theorem dX5_readStatement_108 : decode cX5_readStatement 108 = .ok (.invokevirtual 103, 3) := by decide +kernel
theorem dX5_readStatement_111 : decode cX5_readStatement 111 = .ok (.goto 8, 3) := by decide +kernel
theorem dX5_readStatement_114 : decode cX5_readStatement 114 = .ok (.aload_n 0, 1) := by decide +kernel
theorem dX5_readStatement_115 : decode cX5_readStatement 115 = .ok (.iconst 1, 1) := by decide +kernel
theorem dX5_readStatement_116 : decode cX5_readStatement 116 = .ok (.invokevirtual 106, 3) := by decide +kernel
theorem dX5_readStatement_119 : decode cX5_readStatement 119 = .ok (.return_, 1) := by decide +kernel
theorem dX5_readDie_0 : decode cX5_readDie 0 = .ok (.aload_n 0, 1) := by decide +kernel
theorem dX5_readDie_1 : decode cX5_readDie 1 = .ok (.getfield 12, 3) := by decide +kernel
theorem dX5_readDie_4 : decode cX5_readDie 4 = .ok (.getfield 109, 3) := by decide +kernel
theorem dX5_readDie_7 : decode cX5_readDie 7 = .ok (.getfield 113, 3) := by decide +kernel
theorem dX5_readDie_10 : decode cX5_readDie 10 = .ok (.istore_n 1, 1) := by decide +kernel
theorem dX5_readDie_11 : decode cX5_readDie 11 = .ok (.aload_n 0, 1) := by decide +kernel
theorem dX5_readDie_12 : decode cX5_readDie 12 = .ok (.iload_n 1, 1) := by decide +kernel
theorem dX5_readDie_13 : decode cX5_readDie 13 = .ok (.bipush 6, 2) := by decide +kernel
theorem dX5_readDie_15 : decode cX5_readDie 15 = .ok (.if_icmp .lt 7, 3) := by decide +kernel
theorem dX5_readDie_18 : decode cX5_readDie 18 = .ok (.iconst 5, 1) := by decide +kernel
theorem dX5_readDie_19 : decode cX5_readDie 19 = .ok (.goto 4, 3) := by decide +kernel
theorem dX5_readDie_22 : decode cX5_readDie 22 = .ok (.iconst 0, 1) := by decide +kernel
theorem dX5_readDie_23 : decode cX5_readDie 23 = .ok (.invokevirtual 60, 3) := by decide +kernel
theorem dX5_readDie_26 : decode cX5_readDie 26 = .ok (.iconst 0, 1) := by decide +kernel
theorem dX5_readDie_27 : decode cX5_readDie 27 = .ok (.istore_n 2, 1) := by decide +kernel
theorem dX5_readDie_28 : decode cX5_readDie 28 = .ok (.iconst 0, 1) := by decide +kernel
theorem dX5_readDie_29 : decode cX5_readDie 29 = .ok (.istore_n 3, 1) := by decide +kernel
theorem dX5_readDie_30 : decode cX5_readDie 30 = .ok (.iload_n 2, 1) := by decide +kernel
theorem dX5_readDie_31 : decode cX5_readDie 31 = .ok (.bipush 12, 2) := by decide +kernel
theorem dX5_readDie_33 : decode cX5_readDie 33 = .ok (.if_icmp .gt 87, 3) := by decide +kernel
theorem dX5_readDie_36 : decode cX5_readDie 36 = .ok (.aload_n 0, 1) := by decide +kernel
theorem dX5_readDie_37 : decode cX5_readDie 37 = .ok (.getfield 18, 3) := by decide +kernel
theorem dX5_readDie_40 : decode cX5_readDie 40 = .ok (.ifCond .ne 80, 3) := by decide +kernel
theorem dX5_readDie_43 : decode cX5_readDie 43 = .ok (.iload_n 2, 1) := by decide +kernel
theorem dX5_readDie_44 : decode cX5_readDie 44 = .ok (.iconst 2, 1) := by decide +kernel
theorem dX5_readDie_45 : decode cX5_readDie 45 = .ok (.if_icmp .lt 13, 3) := by decide +kernel
theorem dX5_readDie_48 : decode cX5_readDie 48 = .ok (.aload_n 0, 1) := by decide +kernel
theorem dX5_readDie_49 : decode cX5_readDie 49 = .ok (.getfield 34, 3) := by decide +kernel
theorem dX5_readDie_52 : decode cX5_readDie 52 = .ok (.invokevirtual 118, 3) := by decide +kernel
theorem dX5_readDie_55 : decode cX5_readDie 55 = .ok (.ifCond .ne 65, 3) := by decide +kernel
theorem dX5_readDie_58 : decode cX5_readDie 58 = .ok (.iload_n 2, 1) := by decide +kernel
theorem dX5_readDie_59 : decode cX5_readDie 59 = .ok (.bipush 12, 2) := by decide +kernel
theorem dX5_readDie_61 : decode cX5_readDie 61 = .ok (.if_icmp .lt 18, 3) := by decide +kernel
theorem dX5_readDie_64 : decode cX5_readDie 64 = .ok (.aload_n 0, 1) := by decide +kernel
theorem dX5_readDie_65 : decode cX5_readDie 65 = .ok (.iconst 0, 1) := by decide +kernel
theorem dX5_readDie_66 : decode cX5_readDie 66 = .ok (.bipush 9, 2) := by decide +kernel
theorem dX5_readDie_68 : decode cX5_readDie 68 = .ok (.invokevirtual 121, 3) := by decide +kernel
theorem dX5_readDie_71 : decode cX5_readDie 71 = .ok (.ifCond .eq 8, 3) := by decide +kernel
theorem dX5_readDie_74 : decode cX5_readDie 74 = .ok (.aload_n 0, 1) := by decide +kernel
theorem dX5_readDie_75 : decode cX5_readDie 75 = .ok (.iconst 5, 1) := by decide +kernel
theorem dX5_readDie_76 : decode cX5_readDie 76 = .ok (.invokevirtual 106, 3) := by decide +kernel
theorem dX5_readDie_79 : decode cX5_readDie 79 = .ok (.aload_n 0, 1) := by decide +kernel
theorem dX5_readDie_80 : decode cX5_readDie 80 = .ok (.iconst 0, 1) := by decide +kernel
theorem dX5_readDie_81 : decode cX5_readDie 81 = .ok (.bipush 9, 2) := by decide +kernel
theorem dX5_readDie_83 : decode cX5_readDie 83 = .ok (.invokevirtual 65, 3) := by decide +kernel
theorem dX5_readDie_86 : decode cX5_readDie 86 = .ok (.istore 4, 2) := by decide +kernel
theorem dX5_readDie_88 : decode cX5_readDie 88 = .ok (.iinc 2 1, 3) := by decide +kernel
theorem dX5_readDie_91 : decode cX5_readDie 91 = .ok (.iload_n 3, 1) := by decide +kernel
theorem dX5_readDie_92 : decode cX5_readDie 92 = .ok (.iload 4, 2) := by decide +kernel
theorem dX5_readDie_94 : decode cX5_readDie 94 = .ok (.iadd, 1) := by decide +kernel
theorem dX5_readDie_95 : decode cX5_readDie 95 = .ok (.istore_n 3, 1) := by decide +kernel
theorem dX5_readDie_96 : decode cX5_readDie 96 = .ok (.aload_n 0, 1) := by decide +kernel
theorem dX5_readDie_97 : decode cX5_readDie 97 = .ok (.getfield 18, 3) := by decide +kernel
theorem dX5_readDie_100 : decode cX5_readDie 100 = .ok (.ifCond .ne 17, 3) := by decide +kernel
theorem dX5_readDie_103 : decode cX5_readDie 103 = .ok (.aload_n 0, 1) := by decide +kernel
theorem dX5_readDie_104 : decode cX5_readDie 104 = .ok (.getfield 12, 3) := by decide +kernel
theorem dX5_readDie_107 : decode cX5_readDie 107 = .ok (.getfield 109, 3) := by decide +kernel
theorem dX5_readDie_110 : decode cX5_readDie 110 = .ok (.iload_n 1, 1) := by decide +kernel
theorem dX5_readDie_111 : decode cX5_readDie 111 = .ok (.iload_n 2, 1) := by decide +kernel
theorem dX5_readDie_112 : decode cX5_readDie 112 = .ok (.iload 4, 2) := by decide +kernel
theorem dX5_readDie_114 : decode cX5_readDie 114 = .ok (.invokevirtual 125, 3) := by decide +kernel
theorem dX5_readDie_117 : decode cX5_readDie 117 = .ok (.goto (-87), 3) := by decide +kernel
theorem dX5_readDie_120 : decode cX5_readDie 120 = .ok (.aload_n 0, 1) := by decide +kernel
theorem dX5_readDie_121 : decode cX5_readDie 121 = .ok (.iload_n 3, 1) := by decide +kernel
theorem dX5_readDie_122 : decode cX5_readDie 122 = .ok (.ifCond .ne 8, 3) := by decide +kernel
theorem dX5_readDie_125 : decode cX5_readDie 125 = .ok (.bipush 6, 2) := by decide +kernel
theorem dX5_readDie_127 : decode cX5_readDie 127 = .ok (.goto 4, 3) := by decide +kernel
theorem dX5_readDie_130 : decode cX5_readDie 130 = .ok (.iconst 0, 1) := by decide +kernel
theorem dX5_readDie_131 : decode cX5_readDie 131 = .ok (.invokevirtual 69, 3) := by decide +kernel
theorem dX5_readDie_134 : decode cX5_readDie 134 = .ok (.aload_n 0, 1) := by decide +kernel
theorem dX5_readDie_135 : decode cX5_readDie 135 = .ok (.getfield 18, 3) := by decide +kernel
theorem dX5_readDie_138 : decode cX5_readDie 138 = .ok (.ifCond .ne 14, 3) := by decide +kernel
theorem dX5_readDie_141 : decode cX5_readDie 141 = .ok (.aload_n 0, 1) := by decide +kernel
theorem dX5_readDie_142 : decode cX5_readDie 142 = .ok (.getfield 12, 3) := by decide +kernel
theorem dX5_readDie_145 : decode cX5_readDie 145 = .ok (.getfield 109, 3) := by decide +kernel
theorem dX5_readDie_148 : decode cX5_readDie 148 = .ok (.iload_n 2, 1) := by decide +kernel
theorem dX5_readDie_149 : decode cX5_readDie 149 = .ok (.invokevirtual 128, 3) := by decide +kernel
theorem dX5_readDie_152 : decode cX5_readDie 152 = .ok (.return_, 1) := by decide +kernel
theorem dX5_readPlayer_0 : decode cX5_readPlayer 0 = .ok (.aload_n 0, 1) := by decide +kernel
theorem dX5_readPlayer_1 : decode cX5_readPlayer 1 = .ok (.aload_n 0, 1) := by decide +kernel
theorem dX5_readPlayer_2 : decode cX5_readPlayer 2 = .ok (.getfield 12, 3) := by decide +kernel
theorem dX5_readPlayer_5 : decode cX5_readPlayer 5 = .ok (.getfield 131, 3) := by decide +kernel
theorem dX5_readPlayer_8 : decode cX5_readPlayer 8 = .ok (.getfield 135, 3) := by decide +kernel
theorem dX5_readPlayer_11 : decode cX5_readPlayer 11 = .ok (.bipush 6, 2) := by decide +kernel
theorem dX5_readPlayer_13 : decode cX5_readPlayer 13 = .ok (.if_icmp .lt 7, 3) := by decide +kernel
theorem dX5_readPlayer_16 : decode cX5_readPlayer 16 = .ok (.iconst 5, 1) := by decide +kernel
theorem dX5_readPlayer_17 : decode cX5_readPlayer 17 = .ok (.goto 4, 3) := by decide +kernel
theorem dX5_readPlayer_20 : decode cX5_readPlayer 20 = .ok (.iconst 0, 1) := by decide +kernel
theorem dX5_readPlayer_21 : decode cX5_readPlayer 21 = .ok (.invokevirtual 60, 3) := by decide +kernel
theorem dX5_readPlayer_24 : decode cX5_readPlayer 24 = .ok (.aload_n 0, 1) := by decide +kernel
theorem dX5_readPlayer_25 : decode cX5_readPlayer 25 = .ok (.getfield 34, 3) := by decide +kernel
theorem dX5_readPlayer_28 : decode cX5_readPlayer 28 = .ok (.getfield 138, 3) := by decide +kernel
theorem dX5_readPlayer_31 : decode cX5_readPlayer 31 = .ok (.istore_n 1, 1) := by decide +kernel
theorem dX5_readPlayer_32 : decode cX5_readPlayer 32 = .ok (.aload_n 0, 1) := by decide +kernel
theorem dX5_readPlayer_33 : decode cX5_readPlayer 33 = .ok (.getfield 34, 3) := by decide +kernel
theorem dX5_readPlayer_36 : decode cX5_readPlayer 36 = .ok (.getfield 141, 3) := by decide +kernel
theorem dX5_readPlayer_39 : decode cX5_readPlayer 39 = .ok (.istore_n 2, 1) := by decide +kernel
theorem dX5_readPlayer_40 : decode cX5_readPlayer 40 = .ok (.aload_n 0, 1) := by decide +kernel
theorem dX5_readPlayer_41 : decode cX5_readPlayer 41 = .ok (.invokevirtual 144, 3) := by decide +kernel
theorem dX5_readPlayer_44 : decode cX5_readPlayer 44 = .ok (.aload_n 0, 1) := by decide +kernel
theorem dX5_readPlayer_45 : decode cX5_readPlayer 45 = .ok (.iconst 0, 1) := by decide +kernel
theorem dX5_readPlayer_46 : decode cX5_readPlayer 46 = .ok (.invokevirtual 69, 3) := by decide +kernel
theorem dX5_readPlayer_49 : decode cX5_readPlayer 49 = .ok (.aload_n 0, 1) := by decide +kernel
theorem dX5_readPlayer_50 : decode cX5_readPlayer 50 = .ok (.getfield 18, 3) := by decide +kernel
theorem dX5_readPlayer_53 : decode cX5_readPlayer 53 = .ok (.ifCond .ne 19, 3) := by decide +kernel
theorem dX5_readPlayer_56 : decode cX5_readPlayer 56 = .ok (.aload_n 0, 1) := by decide +kernel
theorem dX5_readPlayer_57 : decode cX5_readPlayer 57 = .ok (.getfield 12, 3) := by decide +kernel
theorem dX5_readPlayer_60 : decode cX5_readPlayer 60 = .ok (.getfield 131, 3) := by decide +kernel
theorem dX5_readPlayer_63 : decode cX5_readPlayer 63 = .ok (.aload_n 0, 1) := by decide +kernel
theorem dX5_readPlayer_64 : decode cX5_readPlayer 64 = .ok (.getfield 25, 3) := by decide +kernel
theorem dX5_readPlayer_67 : decode cX5_readPlayer 67 = .ok (.iload_n 1, 1) := by decide +kernel
theorem dX5_readPlayer_68 : decode cX5_readPlayer 68 = .ok (.iload_n 2, 1) := by decide +kernel
theorem dX5_readPlayer_69 : decode cX5_readPlayer 69 = .ok (.invokevirtual 147, 3) := by decide +kernel
theorem dX5_readPlayer_72 : decode cX5_readPlayer 72 = .ok (.return_, 1) := by decide +kernel
theorem dX5_takeNewName_0 : decode cX5_takeNewName 0 = .ok (.aload_n 0, 1) := by decide +kernel
theorem dX5_takeNewName_1 : decode cX5_takeNewName 1 = .ok (.getfield 34, 3) := by decide +kernel
theorem dX5_takeNewName_4 : decode cX5_takeNewName 4 = .ok (.getfield 51, 3) := by decide +kernel
theorem dX5_takeNewName_7 : decode cX5_takeNewName 7 = .ok (.iconst 1, 1) := by decide +kernel
theorem dX5_takeNewName_8 : decode cX5_takeNewName 8 = .ok (.if_icmp .eq 11, 3) := by decide +kernel
theorem dX5_takeNewName_11 : decode cX5_takeNewName 11 = .ok (.aload_n 0, 1) := by decide +kernel
theorem dX5_takeNewName_12 : decode cX5_takeNewName 12 = .ok (.iconst 1, 1) := by decide +kernel
theorem dX5_takeNewName_13 : decode cX5_takeNewName 13 = .ok (.invokevirtual 106, 3) := by decide +kernel
theorem dX5_takeNewName_16 : decode cX5_takeNewName 16 = .ok (.goto 77, 3) := by decide +kernel
theorem dX5_takeNewName_19 : decode cX5_takeNewName 19 = .ok (.aload_n 0, 1) := by decide +kernel
theorem dX5_takeNewName_20 : decode cX5_takeNewName 20 = .ok (.getfield 34, 3) := by decide +kernel
theorem dX5_takeNewName_23 : decode cX5_takeNewName 23 = .ok (.getfield 141, 3) := by decide +kernel
theorem dX5_takeNewName_26 : decode cX5_takeNewName 26 = .ok (.aload_n 0, 1) := by decide +kernel
theorem dX5_takeNewName_27 : decode cX5_takeNewName 27 = .ok (.getfield 34, 3) := by decide +kernel
theorem dX5_takeNewName_30 : decode cX5_takeNewName 30 = .ok (.getfield 138, 3) := by decide +kernel
theorem dX5_takeNewName_33 : decode cX5_takeNewName 33 = .ok (.isub, 1) := by decide +kernel
theorem dX5_takeNewName_34 : decode cX5_takeNewName 34 = .ok (.iconst 4, 1) := by decide +kernel
theorem dX5_takeNewName_35 : decode cX5_takeNewName 35 = .ok (.if_icmp .le 11, 3) := by decide +kernel
theorem dX5_takeNewName_38 : decode cX5_takeNewName 38 = .ok (.aload_n 0, 1) := by decide +kernel
theorem dX5_takeNewName_39 : decode cX5_takeNewName 39 = .ok (.iconst 2, 1) := by decide +kernel
theorem dX5_takeNewName_40 : decode cX5_takeNewName 40 = .ok (.invokevirtual 106, 3) := by decide +kernel
theorem dX5_takeNewName_43 : decode cX5_takeNewName 43 = .ok (.goto 50, 3) := by decide +kernel
theorem dX5_takeNewName_46 : decode cX5_takeNewName 46 = .ok (.aload_n 0, 1) := by decide +kernel
theorem dX5_takeNewName_47 : decode cX5_takeNewName 47 = .ok (.getfield 12, 3) := by decide +kernel
theorem dX5_takeNewName_50 : decode cX5_takeNewName 50 = .ok (.getfield 131, 3) := by decide +kernel
theorem dX5_takeNewName_53 : decode cX5_takeNewName 53 = .ok (.aload_n 0, 1) := by decide +kernel
theorem dX5_takeNewName_54 : decode cX5_takeNewName 54 = .ok (.getfield 25, 3) := by decide +kernel
theorem dX5_takeNewName_57 : decode cX5_takeNewName 57 = .ok (.aload_n 0, 1) := by decide +kernel
theorem dX5_takeNewName_58 : decode cX5_takeNewName 58 = .ok (.getfield 34, 3) := by decide +kernel
theorem dX5_takeNewName_61 : decode cX5_takeNewName 61 = .ok (.getfield 138, 3) := by decide +kernel
theorem dX5_takeNewName_64 : decode cX5_takeNewName 64 = .ok (.aload_n 0, 1) := by decide +kernel
theorem dX5_takeNewName_65 : decode cX5_takeNewName 65 = .ok (.getfield 34, 3) := by decide +kernel
theorem dX5_takeNewName_68 : decode cX5_takeNewName 68 = .ok (.getfield 141, 3) := by decide +kernel
theorem dX5_takeNewName_71 : decode cX5_takeNewName 71 = .ok (.invokevirtual 150, 3) := by decide +kernel
theorem dX5_takeNewName_74 : decode cX5_takeNewName 74 = .ok (.iconst (-1), 1) := by decide +kernel
theorem dX5_takeNewName_75 : decode cX5_takeNewName 75 = .ok (.if_icmp .eq 11, 3) := by decide +kernel
theorem dX5_takeNewName_78 : decode cX5_takeNewName 78 = .ok (.aload_n 0, 1) := by decide +kernel
theorem dX5_takeNewName_79 : decode cX5_takeNewName 79 = .ok (.iconst 3, 1) := by decide +kernel
theorem dX5_takeNewName_80 : decode cX5_takeNewName 80 = .ok (.invokevirtual 106, 3) := by decide +kernel
theorem dX5_takeNewName_83 : decode cX5_takeNewName 83 = .ok (.goto 10, 3) := by decide +kernel
theorem dX5_takeNewName_86 : decode cX5_takeNewName 86 = .ok (.aload_n 0, 1) := by decide +kernel
theorem dX5_takeNewName_87 : decode cX5_takeNewName 87 = .ok (.getfield 34, 3) := by decide +kernel
theorem dX5_takeNewName_90 : decode cX5_takeNewName 90 = .ok (.invokevirtual 154, 3) := by decide +kernel
theorem dX5_takeNewName_93 : decode cX5_takeNewName 93 = .ok (.return_, 1) := by decide +kernel
theorem dX5_readThrow_0 : decode cX5_readThrow 0 = .ok (.aload_n 0, 1) := by decide +kernel
theorem dX5_readThrow_1 : decode cX5_readThrow 1 = .ok (.getfield 34, 3) := by decide +kernel
theorem dX5_readThrow_4 : decode cX5_readThrow 4 = .ok (.invokevirtual 154, 3) := by decide +kernel
theorem dX5_readThrow_7 : decode cX5_readThrow 7 = .ok (.aload_n 0, 1) := by decide +kernel
theorem dX5_readThrow_8 : decode cX5_readThrow 8 = .ok (.invokevirtual 157, 3) := by decide +kernel
theorem dX5_readThrow_11 : decode cX5_readThrow 11 = .ok (.istore_n 1, 1) := by decide +kernel
theorem dX5_readThrow_12 : decode cX5_readThrow 12 = .ok (.aload_n 0, 1) := by decide +kernel
theorem dX5_readThrow_13 : decode cX5_readThrow 13 = .ok (.iconst 0, 1) := by decide +kernel
theorem dX5_readThrow_14 : decode cX5_readThrow 14 = .ok (.aload_n 0, 1) := by decide +kernel
theorem dX5_readThrow_15 : decode cX5_readThrow 15 = .ok (.getfield 12, 3) := by decide +kernel
theorem dX5_readThrow_18 : decode cX5_readThrow 18 = .ok (.getfield 109, 3) := by decide +kernel
theorem dX5_readThrow_21 : decode cX5_readThrow 21 = .ok (.getfield 113, 3) := by decide +kernel
theorem dX5_readThrow_24 : decode cX5_readThrow 24 = .ok (.iconst 1, 1) := by decide +kernel
theorem dX5_readThrow_25 : decode cX5_readThrow 25 = .ok (.isub, 1) := by decide +kernel
theorem dX5_readThrow_26 : decode cX5_readThrow 26 = .ok (.invokevirtual 65, 3) := by decide +kernel
theorem dX5_readThrow_29 : decode cX5_readThrow 29 = .ok (.istore_n 2, 1) := by decide +kernel
theorem dX5_readThrow_30 : decode cX5_readThrow 30 = .ok (.aload_n 0, 1) := by decide +kernel
theorem dX5_readThrow_31 : decode cX5_readThrow 31 = .ok (.iconst 1, 1) := by decide +kernel
theorem dX5_readThrow_32 : decode cX5_readThrow 32 = .ok (.bipush 50, 2) := by decide +kernel
theorem dX5_readThrow_34 : decode cX5_readThrow 34 = .ok (.invokevirtual 65, 3) := by decide +kernel
theorem dX5_readThrow_37 : decode cX5_readThrow 37 = .ok (.istore_n 3, 1) := by decide +kernel
theorem dX5_readThrow_38 : decode cX5_readThrow 38 = .ok (.aload_n 0, 1) := by decide +kernel
theorem dX5_readThrow_39 : decode cX5_readThrow 39 = .ok (.aload_n 0, 1) := by decide +kernel
theorem dX5_readThrow_40 : decode cX5_readThrow 40 = .ok (.getfield 12, 3) := by decide +kernel
theorem dX5_readThrow_43 : decode cX5_readThrow 43 = .ok (.getfield 161, 3) := by decide +kernel
theorem dX5_readThrow_46 : decode cX5_readThrow 46 = .ok (.getfield 165, 3) := by decide +kernel
theorem dX5_readThrow_49 : decode cX5_readThrow 49 = .ok (.iload_n 3, 1) := by decide +kernel
theorem dX5_readThrow_50 : decode cX5_readThrow 50 = .ok (.iadd, 1) := by decide +kernel
theorem dX5_readThrow_51 : decode cX5_readThrow 51 = .ok (.sipush 300, 3) := by decide +kernel
theorem dX5_readThrow_54 : decode cX5_readThrow 54 = .ok (.if_icmp .le 8, 3) := by decide +kernel
theorem dX5_readThrow_57 : decode cX5_readThrow 57 = .ok (.bipush 6, 2) := by decide +kernel
theorem dX5_readThrow_59 : decode cX5_readThrow 59 = .ok (.goto 4, 3) := by decide +kernel
theorem dX5_readThrow_62 : decode cX5_readThrow 62 = .ok (.iconst 0, 1) := by decide +kernel
theorem dX5_readThrow_63 : decode cX5_readThrow 63 = .ok (.invokevirtual 69, 3) := by decide +kernel
theorem dX5_readThrow_66 : decode cX5_readThrow 66 = .ok (.aload_n 0, 1) := by decide +kernel
theorem dX5_readThrow_67 : decode cX5_readThrow 67 = .ok (.getfield 18, 3) := by decide +kernel
theorem dX5_readThrow_70 : decode cX5_readThrow 70 = .ok (.ifCond .ne 18, 3) := by decide +kernel
theorem dX5_readThrow_73 : decode cX5_readThrow 73 = .ok (.aload_n 0, 1) := by decide +kernel
theorem dX5_readThrow_74 : decode cX5_readThrow 74 = .ok (.getfield 12, 3) := by decide +kernel
theorem dX5_readThrow_77 : decode cX5_readThrow 77 = .ok (.iload_n 1, 1) := by decide +kernel
theorem dX5_readThrow_78 : decode cX5_readThrow 78 = .ok (.iload_n 2, 1) := by decide +kernel
theorem dX5_readThrow_79 : decode cX5_readThrow 79 = .ok (.invokestatic 168, 3) := by decide +kernel
theorem dX5_readThrow_82 : decode cX5_readThrow 82 = .ok (.iload_n 3, 1) := by decide +kernel
theorem dX5_readThrow_83 : decode cX5_readThrow 83 = .ok (.iconst 0, 1) := by decide +kernel
theorem dX5_readThrow_84 : decode cX5_readThrow 84 = .ok (.invokevirtual 171, 3) := by decide +kernel
theorem dX5_readThrow_87 : decode cX5_readThrow 87 = .ok (.pop, 1) := by decide +kernel
theorem dX5_readThrow_88 : decode cX5_readThrow 88 = .ok (.return_, 1) := by decide +kernel
theorem dX5_readAudit_0 : decode cX5_readAudit 0 = .ok (.aload_n 0, 1) := by decide +kernel
theorem dX5_readAudit_1 : decode cX5_readAudit 1 = .ok (.getfield 34, 3) := by decide +kernel
theorem dX5_readAudit_4 : decode cX5_readAudit 4 = .ok (.invokevirtual 154, 3) := by decide +kernel
theorem dX5_readAudit_7 : decode cX5_readAudit 7 = .ok (.aload_n 0, 1) := by decide +kernel
theorem dX5_readAudit_8 : decode cX5_readAudit 8 = .ok (.iconst 0, 1) := by decide +kernel
theorem dX5_readAudit_9 : decode cX5_readAudit 9 = .ok (.invokevirtual 69, 3) := by decide +kernel
theorem dX5_readAudit_12 : decode cX5_readAudit 12 = .ok (.aload_n 0, 1) := by decide +kernel
theorem dX5_readAudit_13 : decode cX5_readAudit 13 = .ok (.getfield 18, 3) := by decide +kernel
theorem dX5_readAudit_16 : decode cX5_readAudit 16 = .ok (.ifCond .ne 11, 3) := by decide +kernel
theorem dX5_readAudit_19 : decode cX5_readAudit 19 = .ok (.aload_n 0, 1) := by decide +kernel
theorem dX5_readAudit_20 : decode cX5_readAudit 20 = .ok (.getfield 12, 3) := by decide +kernel
theorem dX5_readAudit_23 : decode cX5_readAudit 23 = .ok (.invokevirtual 175, 3) := by decide +kernel
theorem dX5_readAudit_26 : decode cX5_readAudit 26 = .ok (.pop, 1) := by decide +kernel
theorem dX5_readAudit_27 : decode cX5_readAudit 27 = .ok (.return_, 1) := by decide +kernel
theorem dX5_readAbsolve_0 : decode cX5_readAbsolve 0 = .ok (.aload_n 0, 1) := by decide +kernel
theorem dX5_readAbsolve_1 : decode cX5_readAbsolve 1 = .ok (.getfield 34, 3) := by decide +kernel
theorem dX5_readAbsolve_4 : decode cX5_readAbsolve 4 = .ok (.invokevirtual 154, 3) := by decide +kernel
theorem dX5_readAbsolve_7 : decode cX5_readAbsolve 7 = .ok (.aload_n 0, 1) := by decide +kernel
theorem dX5_readAbsolve_8 : decode cX5_readAbsolve 8 = .ok (.aload_n 0, 1) := by decide +kernel
theorem dX5_readAbsolve_9 : decode cX5_readAbsolve 9 = .ok (.getfield 12, 3) := by decide +kernel
theorem dX5_readAbsolve_12 : decode cX5_readAbsolve 12 = .ok (.getfield 178, 3) := by decide +kernel
theorem dX5_readAbsolve_15 : decode cX5_readAbsolve 15 = .ok (.getfield 182, 3) := by decide +kernel
theorem dX5_readAbsolve_18 : decode cX5_readAbsolve 18 = .ok (.ifCond .ne 8, 3) := by decide +kernel
theorem dX5_readAbsolve_21 : decode cX5_readAbsolve 21 = .ok (.bipush 6, 2) := by decide +kernel
theorem dX5_readAbsolve_23 : decode cX5_readAbsolve 23 = .ok (.goto 4, 3) := by decide +kernel
theorem dX5_readAbsolve_26 : decode cX5_readAbsolve 26 = .ok (.iconst 0, 1) := by decide +kernel
theorem dX5_readAbsolve_27 : decode cX5_readAbsolve 27 = .ok (.invokevirtual 69, 3) := by decide +kernel
theorem dX5_readAbsolve_30 : decode cX5_readAbsolve 30 = .ok (.aload_n 0, 1) := by decide +kernel
theorem dX5_readAbsolve_31 : decode cX5_readAbsolve 31 = .ok (.getfield 18, 3) := by decide +kernel
theorem dX5_readAbsolve_34 : decode cX5_readAbsolve 34 = .ok (.ifCond .ne 11, 3) := by decide +kernel
theorem dX5_readAbsolve_37 : decode cX5_readAbsolve 37 = .ok (.aload_n 0, 1) := by decide +kernel
theorem dX5_readAbsolve_38 : decode cX5_readAbsolve 38 = .ok (.getfield 12, 3) := by decide +kernel
theorem dX5_readAbsolve_41 : decode cX5_readAbsolve 41 = .ok (.invokevirtual 185, 3) := by decide +kernel
theorem dX5_readAbsolve_44 : decode cX5_readAbsolve 44 = .ok (.pop, 1) := by decide +kernel
theorem dX5_readAbsolve_45 : decode cX5_readAbsolve 45 = .ok (.return_, 1) := by decide +kernel
theorem dX5_readForgive_0 : decode cX5_readForgive 0 = .ok (.aload_n 0, 1) := by decide +kernel
theorem dX5_readForgive_1 : decode cX5_readForgive 1 = .ok (.getfield 34, 3) := by decide +kernel
theorem dX5_readForgive_4 : decode cX5_readForgive 4 = .ok (.invokevirtual 154, 3) := by decide +kernel
theorem dX5_readForgive_7 : decode cX5_readForgive 7 = .ok (.aload_n 0, 1) := by decide +kernel
theorem dX5_readForgive_8 : decode cX5_readForgive 8 = .ok (.invokevirtual 157, 3) := by decide +kernel
theorem dX5_readForgive_11 : decode cX5_readForgive 11 = .ok (.istore_n 1, 1) := by decide +kernel
theorem dX5_readForgive_12 : decode cX5_readForgive 12 = .ok (.aload_n 0, 1) := by decide +kernel
theorem dX5_readForgive_13 : decode cX5_readForgive 13 = .ok (.iconst 0, 1) := by decide +kernel
theorem dX5_readForgive_14 : decode cX5_readForgive 14 = .ok (.invokevirtual 69, 3) := by decide +kernel
theorem dX5_readForgive_17 : decode cX5_readForgive 17 = .ok (.aload_n 0, 1) := by decide +kernel
theorem dX5_readForgive_18 : decode cX5_readForgive 18 = .ok (.getfield 18, 3) := by decide +kernel
theorem dX5_readForgive_21 : decode cX5_readForgive 21 = .ok (.ifCond .ne 15, 3) := by decide +kernel
theorem dX5_readForgive_24 : decode cX5_readForgive 24 = .ok (.aload_n 0, 1) := by decide +kernel
theorem dX5_readForgive_25 : decode cX5_readForgive 25 = .ok (.getfield 12, 3) := by decide +kernel
theorem dX5_readForgive_28 : decode cX5_readForgive 28 = .ok (.getfield 178, 3) := by decide +kernel
theorem dX5_readForgive_31 : decode cX5_readForgive 31 = .ok (.iload_n 1, 1) := by decide +kernel
theorem dX5_readForgive_32 : decode cX5_readForgive 32 = .ok (.invokevirtual 188, 3) := by decide +kernel
theorem dX5_readForgive_35 : decode cX5_readForgive 35 = .ok (.pop, 1) := by decide +kernel
theorem dX5_readForgive_36 : decode cX5_readForgive 36 = .ok (.return_, 1) := by decide +kernel
theorem dX5_takeKnownName_0 : decode cX5_takeKnownName 0 = .ok (.aload_n 0, 1) := by decide +kernel
theorem dX5_takeKnownName_1 : decode cX5_takeKnownName 1 = .ok (.getfield 34, 3) := by decide +kernel
theorem dX5_takeKnownName_4 : decode cX5_takeKnownName 4 = .ok (.getfield 51, 3) := by decide +kernel
theorem dX5_takeKnownName_7 : decode cX5_takeKnownName 7 = .ok (.iconst 1, 1) := by decide +kernel
theorem dX5_takeKnownName_8 : decode cX5_takeKnownName 8 = .ok (.if_icmp .eq 10, 3) := by decide +kernel
theorem dX5_takeKnownName_11 : decode cX5_takeKnownName 11 = .ok (.aload_n 0, 1) := by decide +kernel
theorem dX5_takeKnownName_12 : decode cX5_takeKnownName 12 = .ok (.iconst 1, 1) := by decide +kernel
theorem dX5_takeKnownName_13 : decode cX5_takeKnownName 13 = .ok (.invokevirtual 106, 3) := by decide +kernel
theorem dX5_takeKnownName_16 : decode cX5_takeKnownName 16 = .ok (.iconst (-1), 1) := by decide +kernel
theorem dX5_takeKnownName_17 : decode cX5_takeKnownName 17 = .ok (.ireturn, 1) := by decide +kernel
theorem dX5_takeKnownName_18 : decode cX5_takeKnownName 18 = .ok (.aload_n 0, 1) := by decide +kernel
theorem dX5_takeKnownName_19 : decode cX5_takeKnownName 19 = .ok (.getfield 12, 3) := by decide +kernel
theorem dX5_takeKnownName_22 : decode cX5_takeKnownName 22 = .ok (.getfield 131, 3) := by decide +kernel
theorem dX5_takeKnownName_25 : decode cX5_takeKnownName 25 = .ok (.aload_n 0, 1) := by decide +kernel
theorem dX5_takeKnownName_26 : decode cX5_takeKnownName 26 = .ok (.getfield 25, 3) := by decide +kernel
theorem dX5_takeKnownName_29 : decode cX5_takeKnownName 29 = .ok (.aload_n 0, 1) := by decide +kernel
theorem dX5_takeKnownName_30 : decode cX5_takeKnownName 30 = .ok (.getfield 34, 3) := by decide +kernel
theorem dX5_takeKnownName_33 : decode cX5_takeKnownName 33 = .ok (.getfield 138, 3) := by decide +kernel
theorem dX5_takeKnownName_36 : decode cX5_takeKnownName 36 = .ok (.aload_n 0, 1) := by decide +kernel
theorem dX5_takeKnownName_37 : decode cX5_takeKnownName 37 = .ok (.getfield 34, 3) := by decide +kernel
theorem dX5_takeKnownName_40 : decode cX5_takeKnownName 40 = .ok (.getfield 141, 3) := by decide +kernel
theorem dX5_takeKnownName_43 : decode cX5_takeKnownName 43 = .ok (.invokevirtual 150, 3) := by decide +kernel
theorem dX5_takeKnownName_46 : decode cX5_takeKnownName 46 = .ok (.istore_n 1, 1) := by decide +kernel
theorem dX5_takeKnownName_47 : decode cX5_takeKnownName 47 = .ok (.iload_n 1, 1) := by decide +kernel
theorem dX5_takeKnownName_48 : decode cX5_takeKnownName 48 = .ok (.iconst (-1), 1) := by decide +kernel
theorem dX5_takeKnownName_49 : decode cX5_takeKnownName 49 = .ok (.if_icmp .ne 10, 3) := by decide +kernel
theorem dX5_takeKnownName_52 : decode cX5_takeKnownName 52 = .ok (.aload_n 0, 1) := by decide +kernel
theorem dX5_takeKnownName_53 : decode cX5_takeKnownName 53 = .ok (.iconst 4, 1) := by decide +kernel
theorem dX5_takeKnownName_54 : decode cX5_takeKnownName 54 = .ok (.invokevirtual 106, 3) := by decide +kernel
theorem dX5_takeKnownName_57 : decode cX5_takeKnownName 57 = .ok (.iconst (-1), 1) := by decide +kernel
theorem dX5_takeKnownName_58 : decode cX5_takeKnownName 58 = .ok (.ireturn, 1) := by decide +kernel
theorem dX5_takeKnownName_59 : decode cX5_takeKnownName 59 = .ok (.aload_n 0, 1) := by decide +kernel
theorem dX5_takeKnownName_60 : decode cX5_takeKnownName 60 = .ok (.getfield 34, 3) := by decide +kernel
theorem dX5_takeKnownName_63 : decode cX5_takeKnownName 63 = .ok (.invokevirtual 154, 3) := by decide +kernel
theorem dX5_takeKnownName_66 : decode cX5_takeKnownName 66 = .ok (.iload_n 1, 1) := by decide +kernel
theorem dX5_takeKnownName_67 : decode cX5_takeKnownName 67 = .ok (.ireturn, 1) := by decide +kernel
theorem dX5_takeKeyword_0 : decode cX5_takeKeyword 0 = .ok (.iload_n 1, 1) := by decide +kernel
theorem dX5_takeKeyword_1 : decode cX5_takeKeyword 1 = .ok (.ifCond .eq 11, 3) := by decide +kernel
theorem dX5_takeKeyword_4 : decode cX5_takeKeyword 4 = .ok (.aload_n 0, 1) := by decide +kernel
theorem dX5_takeKeyword_5 : decode cX5_takeKeyword 5 = .ok (.iload_n 1, 1) := by decide +kernel
theorem dX5_takeKeyword_6 : decode cX5_takeKeyword 6 = .ok (.invokevirtual 106, 3) := by decide +kernel
theorem dX5_takeKeyword_9 : decode cX5_takeKeyword 9 = .ok (.goto 10, 3) := by decide +kernel
theorem dX5_takeKeyword_12 : decode cX5_takeKeyword 12 = .ok (.aload_n 0, 1) := by decide +kernel
theorem dX5_takeKeyword_13 : decode cX5_takeKeyword 13 = .ok (.getfield 34, 3) := by decide +kernel
theorem dX5_takeKeyword_16 : decode cX5_takeKeyword 16 = .ok (.invokevirtual 154, 3) := by decide +kernel
theorem dX5_takeKeyword_19 : decode cX5_takeKeyword 19 = .ok (.return_, 1) := by decide +kernel
theorem dX5_isNumberIn_0 : decode cX5_isNumberIn 0 = .ok (.aload_n 0, 1) := by decide +kernel
theorem dX5_isNumberIn_1 : decode cX5_isNumberIn 1 = .ok (.getfield 34, 3) := by decide +kernel
theorem dX5_isNumberIn_4 : decode cX5_isNumberIn 4 = .ok (.getfield 51, 3) := by decide +kernel
theorem dX5_isNumberIn_7 : decode cX5_isNumberIn 7 = .ok (.iconst 2, 1) := by decide +kernel
theorem dX5_isNumberIn_8 : decode cX5_isNumberIn 8 = .ok (.if_icmp .ne 29, 3) := by decide +kernel
theorem dX5_isNumberIn_11 : decode cX5_isNumberIn 11 = .ok (.aload_n 0, 1) := by decide +kernel
theorem dX5_isNumberIn_12 : decode cX5_isNumberIn 12 = .ok (.getfield 34, 3) := by decide +kernel
theorem dX5_isNumberIn_15 : decode cX5_isNumberIn 15 = .ok (.getfield 192, 3) := by decide +kernel
theorem dX5_isNumberIn_18 : decode cX5_isNumberIn 18 = .ok (.iload_n 1, 1) := by decide +kernel
theorem dX5_isNumberIn_19 : decode cX5_isNumberIn 19 = .ok (.if_icmp .lt 18, 3) := by decide +kernel
theorem dX5_isNumberIn_22 : decode cX5_isNumberIn 22 = .ok (.aload_n 0, 1) := by decide +kernel
theorem dX5_isNumberIn_23 : decode cX5_isNumberIn 23 = .ok (.getfield 34, 3) := by decide +kernel
theorem dX5_isNumberIn_26 : decode cX5_isNumberIn 26 = .ok (.getfield 192, 3) := by decide +kernel
theorem dX5_isNumberIn_29 : decode cX5_isNumberIn 29 = .ok (.iload_n 2, 1) := by decide +kernel
theorem dX5_isNumberIn_30 : decode cX5_isNumberIn 30 = .ok (.if_icmp .gt 7, 3) := by decide +kernel
theorem dX5_isNumberIn_33 : decode cX5_isNumberIn 33 = .ok (.iconst 1, 1) := by decide +kernel
theorem dX5_isNumberIn_34 : decode cX5_isNumberIn 34 = .ok (.goto 4, 3) := by decide +kernel
theorem dX5_isNumberIn_37 : decode cX5_isNumberIn 37 = .ok (.iconst 0, 1) := by decide +kernel
theorem dX5_isNumberIn_38 : decode cX5_isNumberIn 38 = .ok (.ireturn, 1) := by decide +kernel
theorem dX5_takeNumber_0 : decode cX5_takeNumber 0 = .ok (.aload_n 0, 1) := by decide +kernel
theorem dX5_takeNumber_1 : decode cX5_takeNumber 1 = .ok (.getfield 18, 3) := by decide +kernel
theorem dX5_takeNumber_4 : decode cX5_takeNumber 4 = .ok (.ifCond .eq 5, 3) := by decide +kernel
theorem dX5_takeNumber_7 : decode cX5_takeNumber 7 = .ok (.iconst (-1), 1) := by decide +kernel
theorem dX5_takeNumber_8 : decode cX5_takeNumber 8 = .ok (.ireturn, 1) := by decide +kernel
theorem dX5_takeNumber_9 : decode cX5_takeNumber 9 = .ok (.aload_n 0, 1) := by decide +kernel
theorem dX5_takeNumber_10 : decode cX5_takeNumber 10 = .ok (.iload_n 1, 1) := by decide +kernel
theorem dX5_takeNumber_11 : decode cX5_takeNumber 11 = .ok (.iload_n 2, 1) := by decide +kernel
theorem dX5_takeNumber_12 : decode cX5_takeNumber 12 = .ok (.invokevirtual 121, 3) := by decide +kernel
theorem dX5_takeNumber_15 : decode cX5_takeNumber 15 = .ok (.ifCond .ne 25, 3) := by decide +kernel
theorem dX5_takeNumber_18 : decode cX5_takeNumber 18 = .ok (.aload_n 0, 1) := by decide +kernel
theorem dX5_takeNumber_19 : decode cX5_takeNumber 19 = .ok (.aload_n 0, 1) := by decide +kernel
theorem dX5_takeNumber_20 : decode cX5_takeNumber 20 = .ok (.getfield 34, 3) := by decide +kernel
theorem dX5_takeNumber_23 : decode cX5_takeNumber 23 = .ok (.getfield 51, 3) := by decide +kernel
theorem dX5_takeNumber_26 : decode cX5_takeNumber 26 = .ok (.iconst 2, 1) := by decide +kernel
theorem dX5_takeNumber_27 : decode cX5_takeNumber 27 = .ok (.if_icmp .ne 7, 3) := by decide +kernel
theorem dX5_takeNumber_30 : decode cX5_takeNumber 30 = .ok (.iconst 2, 1) := by decide +kernel
theorem dX5_takeNumber_31 : decode cX5_takeNumber 31 = .ok (.goto 4, 3) := by decide +kernel
theorem dX5_takeNumber_34 : decode cX5_takeNumber 34 = .ok (.iconst 1, 1) := by decide +kernel
theorem dX5_takeNumber_35 : decode cX5_takeNumber 35 = .ok (.invokevirtual 106, 3) := by decide +kernel
theorem dX5_takeNumber_38 : decode cX5_takeNumber 38 = .ok (.iconst (-1), 1) := by decide +kernel
theorem dX5_takeNumber_39 : decode cX5_takeNumber 39 = .ok (.ireturn, 1) := by decide +kernel
theorem dX5_takeNumber_40 : decode cX5_takeNumber 40 = .ok (.aload_n 0, 1) := by decide +kernel
theorem dX5_takeNumber_41 : decode cX5_takeNumber 41 = .ok (.getfield 34, 3) := by decide +kernel
theorem dX5_takeNumber_44 : decode cX5_takeNumber 44 = .ok (.getfield 192, 3) := by decide +kernel
theorem dX5_takeNumber_47 : decode cX5_takeNumber 47 = .ok (.istore_n 3, 1) := by decide +kernel
theorem dX5_takeNumber_48 : decode cX5_takeNumber 48 = .ok (.aload_n 0, 1) := by decide +kernel
theorem dX5_takeNumber_49 : decode cX5_takeNumber 49 = .ok (.getfield 34, 3) := by decide +kernel
theorem dX5_takeNumber_52 : decode cX5_takeNumber 52 = .ok (.invokevirtual 154, 3) := by decide +kernel
theorem dX5_takeNumber_55 : decode cX5_takeNumber 55 = .ok (.iload_n 3, 1) := by decide +kernel
theorem dX5_takeNumber_56 : decode cX5_takeNumber 56 = .ok (.ireturn, 1) := by decide +kernel
theorem dX5_takeSemicolon_0 : decode cX5_takeSemicolon 0 = .ok (.aload_n 0, 1) := by decide +kernel
theorem dX5_takeSemicolon_1 : decode cX5_takeSemicolon 1 = .ok (.getfield 18, 3) := by decide +kernel
theorem dX5_takeSemicolon_4 : decode cX5_takeSemicolon 4 = .ok (.ifCond .eq 4, 3) := by decide +kernel
theorem dX5_takeSemicolon_7 : decode cX5_takeSemicolon 7 = .ok (.return_, 1) := by decide +kernel
theorem dX5_takeSemicolon_8 : decode cX5_takeSemicolon 8 = .ok (.aload_n 0, 1) := by decide +kernel
theorem dX5_takeSemicolon_9 : decode cX5_takeSemicolon 9 = .ok (.getfield 34, 3) := by decide +kernel
theorem dX5_takeSemicolon_12 : decode cX5_takeSemicolon 12 = .ok (.invokevirtual 118, 3) := by decide +kernel
theorem dX5_takeSemicolon_15 : decode cX5_takeSemicolon 15 = .ok (.ifCond .ne 11, 3) := by decide +kernel
theorem dX5_takeSemicolon_18 : decode cX5_takeSemicolon 18 = .ok (.aload_n 0, 1) := by decide +kernel
theorem dX5_takeSemicolon_19 : decode cX5_takeSemicolon 19 = .ok (.iconst 1, 1) := by decide +kernel
theorem dX5_takeSemicolon_20 : decode cX5_takeSemicolon 20 = .ok (.invokevirtual 106, 3) := by decide +kernel
theorem dX5_takeSemicolon_23 : decode cX5_takeSemicolon 23 = .ok (.goto 22, 3) := by decide +kernel
theorem dX5_takeSemicolon_26 : decode cX5_takeSemicolon 26 = .ok (.iload_n 1, 1) := by decide +kernel
theorem dX5_takeSemicolon_27 : decode cX5_takeSemicolon 27 = .ok (.ifCond .eq 11, 3) := by decide +kernel
theorem dX5_takeSemicolon_30 : decode cX5_takeSemicolon 30 = .ok (.aload_n 0, 1) := by decide +kernel
theorem dX5_takeSemicolon_31 : decode cX5_takeSemicolon 31 = .ok (.iload_n 1, 1) := by decide +kernel
theorem dX5_takeSemicolon_32 : decode cX5_takeSemicolon 32 = .ok (.invokevirtual 106, 3) := by decide +kernel
theorem dX5_takeSemicolon_35 : decode cX5_takeSemicolon 35 = .ok (.goto 10, 3) := by decide +kernel
theorem dX5_takeSemicolon_38 : decode cX5_takeSemicolon 38 = .ok (.aload_n 0, 1) := by decide +kernel
theorem dX5_takeSemicolon_39 : decode cX5_takeSemicolon 39 = .ok (.getfield 34, 3) := by decide +kernel
theorem dX5_takeSemicolon_42 : decode cX5_takeSemicolon 42 = .ok (.invokevirtual 154, 3) := by decide +kernel
theorem dX5_takeSemicolon_45 : decode cX5_takeSemicolon 45 = .ok (.return_, 1) := by decide +kernel
theorem dX5_fail_0 : decode cX5_fail 0 = .ok (.aload_n 0, 1) := by decide +kernel
theorem dX5_fail_1 : decode cX5_fail 1 = .ok (.getfield 18, 3) := by decide +kernel
theorem dX5_fail_4 : decode cX5_fail 4 = .ok (.ifCond .ne 19, 3) := by decide +kernel
theorem dX5_fail_7 : decode cX5_fail 7 = .ok (.aload_n 0, 1) := by decide +kernel
theorem dX5_fail_8 : decode cX5_fail 8 = .ok (.iload_n 1, 1) := by decide +kernel
theorem dX5_fail_9 : decode cX5_fail 9 = .ok (.putfield 18, 3) := by decide +kernel
theorem dX5_fail_12 : decode cX5_fail 12 = .ok (.aload_n 0, 1) := by decide +kernel
theorem dX5_fail_13 : decode cX5_fail 13 = .ok (.aload_n 0, 1) := by decide +kernel
theorem dX5_fail_14 : decode cX5_fail 14 = .ok (.getfield 34, 3) := by decide +kernel
theorem dX5_fail_17 : decode cX5_fail 17 = .ok (.getfield 138, 3) := by decide +kernel
theorem dX5_fail_20 : decode cX5_fail 20 = .ok (.putfield 22, 3) := by decide +kernel
theorem dX5_fail_23 : decode cX5_fail 23 = .ok (.return_, 1) := by decide +kernel
theorem dX6_init_0 : decode cX6_init 0 = .ok (.aload_n 0, 1) := by decide +kernel
theorem dX6_init_1 : decode cX6_init 1 = .ok (.invokespecial 3, 3) := by decide +kernel
theorem dX6_init_4 : decode cX6_init 4 = .ok (.aload_n 0, 1) := by decide +kernel
theorem dX6_init_5 : decode cX6_init 5 = .ok (.bipush 36, 2) := by decide +kernel
theorem dX6_init_7 : decode cX6_init 7 = .ok (.newarray .int, 2) := by decide +kernel
theorem dX6_init_9 : decode cX6_init 9 = .ok (.putfield 9, 3) := by decide +kernel
theorem dX6_init_12 : decode cX6_init 12 = .ok (.aload_n 0, 1) := by decide +kernel
theorem dX6_init_13 : decode cX6_init 13 = .ok (.bipush 36, 2) := by decide +kernel
theorem dX6_init_15 : decode cX6_init 15 = .ok (.newarray .int, 2) := by decide +kernel
theorem dX6_init_17 : decode cX6_init 17 = .ok (.putfield 15, 3) := by decide +kernel
theorem dX6_init_20 : decode cX6_init 20 = .ok (.aload_n 0, 1) := by decide +kernel
theorem dX6_init_21 : decode cX6_init 21 = .ok (.iconst 0, 1) := by decide +kernel
theorem dX6_init_22 : decode cX6_init 22 = .ok (.putfield 18, 3) := by decide +kernel
theorem dX6_init_25 : decode cX6_init 25 = .ok (.return_, 1) := by decide +kernel
theorem dX6_clear_0 : decode cX6_clear 0 = .ok (.aload_n 0, 1) := by decide +kernel
theorem dX6_clear_1 : decode cX6_clear 1 = .ok (.iconst 0, 1) := by decide +kernel
theorem dX6_clear_2 : decode cX6_clear 2 = .ok (.putfield 18, 3) := by decide +kernel
theorem dX6_clear_5 : decode cX6_clear 5 = .ok (.return_, 1) := by decide +kernel
theorem dX6_copyFrom_0 : decode cX6_copyFrom 0 = .ok (.aload_n 0, 1) := by decide +kernel
theorem dX6_copyFrom_1 : decode cX6_copyFrom 1 = .ok (.aload_n 1, 1) := by decide +kernel
theorem dX6_copyFrom_2 : decode cX6_copyFrom 2 = .ok (.getfield 18, 3) := by decide +kernel
theorem dX6_copyFrom_5 : decode cX6_copyFrom 5 = .ok (.putfield 18, 3) := by decide +kernel
theorem dX6_copyFrom_8 : decode cX6_copyFrom 8 = .ok (.aload_n 1, 1) := by decide +kernel
theorem dX6_copyFrom_9 : decode cX6_copyFrom 9 = .ok (.getfield 9, 3) := by decide +kernel
theorem dX6_copyFrom_12 : decode cX6_copyFrom 12 = .ok (.aload_n 0, 1) := by decide +kernel
theorem dX6_copyFrom_13 : decode cX6_copyFrom 13 = .ok (.getfield 9, 3) := by decide +kernel
theorem dX6_copyFrom_16 : decode cX6_copyFrom 16 = .ok (.invokestatic 22, 3) := by decide +kernel
theorem dX6_copyFrom_19 : decode cX6_copyFrom 19 = .ok (.aload_n 1, 1) := by decide +kernel
theorem dX6_copyFrom_20 : decode cX6_copyFrom 20 = .ok (.getfield 15, 3) := by decide +kernel
theorem dX6_copyFrom_23 : decode cX6_copyFrom 23 = .ok (.aload_n 0, 1) := by decide +kernel
theorem dX6_copyFrom_24 : decode cX6_copyFrom 24 = .ok (.getfield 15, 3) := by decide +kernel
theorem dX6_copyFrom_27 : decode cX6_copyFrom 27 = .ok (.invokestatic 22, 3) := by decide +kernel
theorem dX6_copyFrom_30 : decode cX6_copyFrom 30 = .ok (.return_, 1) := by decide +kernel
theorem dX6_has_0 : decode cX6_has 0 = .ok (.iconst 0, 1) := by decide +kernel
theorem dX6_has_1 : decode cX6_has 1 = .ok (.istore_n 2, 1) := by decide +kernel
theorem dX6_has_2 : decode cX6_has 2 = .ok (.iload_n 2, 1) := by decide +kernel
theorem dX6_has_3 : decode cX6_has 3 = .ok (.aload_n 0, 1) := by decide +kernel
theorem dX6_has_4 : decode cX6_has 4 = .ok (.getfield 18, 3) := by decide +kernel
theorem dX6_has_7 : decode cX6_has 7 = .ok (.if_icmp .ge 23, 3) := by decide +kernel
theorem dX6_has_10 : decode cX6_has 10 = .ok (.aload_n 0, 1) := by decide +kernel
theorem dX6_has_11 : decode cX6_has 11 = .ok (.getfield 9, 3) := by decide +kernel
theorem dX6_has_14 : decode cX6_has 14 = .ok (.iload_n 2, 1) := by decide +kernel
theorem dX6_has_15 : decode cX6_has 15 = .ok (.invokestatic 26, 3) := by decide +kernel
theorem dX6_has_18 : decode cX6_has 18 = .ok (.iload_n 1, 1) := by decide +kernel
theorem dX6_has_19 : decode cX6_has 19 = .ok (.if_icmp .ne 5, 3) := by decide +kernel
theorem dX6_has_22 : decode cX6_has 22 = .ok (.iconst 1, 1) := by decide +kernel
theorem dX6_has_23 : decode cX6_has 23 = .ok (.ireturn, 1) := by decide +kernel
theorem dX6_has_24 : decode cX6_has 24 = .ok (.iinc 2 1, 3) := by decide +kernel
theorem dX6_has_27 : decode cX6_has 27 = .ok (.goto (-25), 3) := by decide +kernel
theorem dX6_has_30 : decode cX6_has 30 = .ok (.iconst 0, 1) := by decide +kernel
theorem dX6_has_31 : decode cX6_has 31 = .ok (.ireturn, 1) := by decide +kernel
theorem dX6_add_0 : decode cX6_add 0 = .ok (.aload_n 0, 1) := by decide +kernel
theorem dX6_add_1 : decode cX6_add 1 = .ok (.getfield 18, 3) := by decide +kernel
theorem dX6_add_4 : decode cX6_add 4 = .ok (.bipush 36, 2) := by decide +kernel
theorem dX6_add_6 : decode cX6_add 6 = .ok (.if_icmp .lt 4, 3) := by decide +kernel
theorem dX6_add_9 : decode cX6_add 9 = .ok (.return_, 1) := by decide +kernel
theorem dX6_add_10 : decode cX6_add 10 = .ok (.aload_n 0, 1) := by decide +kernel
theorem dX6_add_11 : decode cX6_add 11 = .ok (.getfield 18, 3) := by decide +kernel
theorem dX6_add_14 : decode cX6_add 14 = .ok (.istore_n 3, 1) := by decide +kernel
theorem dX6_add_15 : decode cX6_add 15 = .ok (.iload_n 3, 1) := by decide +kernel
theorem dX6_add_16 : decode cX6_add 16 = .ok (.ifCond .le 46, 3) := by decide +kernel
theorem dX6_add_19 : decode cX6_add 19 = .ok (.aload_n 0, 1) := by decide +kernel
theorem dX6_add_20 : decode cX6_add 20 = .ok (.iload_n 1, 1) := by decide +kernel
theorem dX6_add_21 : decode cX6_add 21 = .ok (.iload_n 2, 1) := by decide +kernel
theorem dX6_add_22 : decode cX6_add 22 = .ok (.iload_n 3, 1) := by decide +kernel
theorem dX6_add_23 : decode cX6_add 23 = .ok (.iconst 1, 1) := by decide +kernel
theorem dX6_add_24 : decode cX6_add 24 = .ok (.isub, 1) := by decide +kernel
theorem dX6_add_25 : decode cX6_add 25 = .ok (.invokevirtual 30, 3) := by decide +kernel
theorem dX6_add_28 : decode cX6_add 28 = .ok (.ifCond .eq 34, 3) := by decide +kernel
theorem dX6_add_31 : decode cX6_add 31 = .ok (.aload_n 0, 1) := by decide +kernel
theorem dX6_add_32 : decode cX6_add 32 = .ok (.iload_n 3, 1) := by decide +kernel
theorem dX6_add_33 : decode cX6_add 33 = .ok (.aload_n 0, 1) := by decide +kernel
theorem dX6_add_34 : decode cX6_add 34 = .ok (.getfield 9, 3) := by decide +kernel
theorem dX6_add_37 : decode cX6_add 37 = .ok (.iload_n 3, 1) := by decide +kernel
theorem dX6_add_38 : decode cX6_add 38 = .ok (.iconst 1, 1) := by decide +kernel
theorem dX6_add_39 : decode cX6_add 39 = .ok (.isub, 1) := by decide +kernel
theorem dX6_add_40 : decode cX6_add 40 = .ok (.invokestatic 26, 3) := by decide +kernel
theorem dX6_add_43 : decode cX6_add 43 = .ok (.aload_n 0, 1) := by decide +kernel
theorem dX6_add_44 : decode cX6_add 44 = .ok (.getfield 15, 3) := by decide +kernel
theorem dX6_add_47 : decode cX6_add 47 = .ok (.iload_n 3, 1) := by decide +kernel
theorem dX6_add_48 : decode cX6_add 48 = .ok (.iconst 1, 1) := by decide +kernel
theorem dX6_add_49 : decode cX6_add 49 = .ok (.isub, 1) := by decide +kernel
theorem dX6_add_50 : decode cX6_add 50 = .ok (.invokestatic 26, 3) := by decide +kernel
theorem dX6_add_53 : decode cX6_add 53 = .ok (.invokevirtual 34, 3) := by decide +kernel
theorem dX6_add_56 : decode cX6_add 56 = .ok (.iinc 3 (-1), 3) := by decide +kernel
theorem dX6_add_59 : decode cX6_add 59 = .ok (.goto (-44), 3) := by decide +kernel
theorem dX6_add_62 : decode cX6_add 62 = .ok (.aload_n 0, 1) := by decide +kernel
theorem dX6_add_63 : decode cX6_add 63 = .ok (.iload_n 3, 1) := by decide +kernel
theorem dX6_add_64 : decode cX6_add 64 = .ok (.iload_n 1, 1) := by decide +kernel
theorem dX6_add_65 : decode cX6_add 65 = .ok (.iload_n 2, 1) := by decide +kernel
theorem dX6_add_66 : decode cX6_add 66 = .ok (.invokevirtual 34, 3) := by decide +kernel
theorem dX6_add_69 : decode cX6_add 69 = .ok (.aload_n 0, 1) := by decide +kernel
theorem dX6_add_70 : decode cX6_add 70 = .ok (.dup, 1) := by decide +kernel
theorem dX6_add_71 : decode cX6_add 71 = .ok (.getfield 18, 3) := by decide +kernel
theorem dX6_add_74 : decode cX6_add 74 = .ok (.iconst 1, 1) := by decide +kernel
theorem dX6_add_75 : decode cX6_add 75 = .ok (.iadd, 1) := by decide +kernel
theorem dX6_add_76 : decode cX6_add 76 = .ok (.putfield 18, 3) := by decide +kernel
theorem dX6_add_79 : decode cX6_add 79 = .ok (.return_, 1) := by decide +kernel
theorem dX6_goesBefore_0 : decode cX6_goesBefore 0 = .ok (.aload_n 0, 1) := by decide +kernel
theorem dX6_goesBefore_1 : decode cX6_goesBefore 1 = .ok (.getfield 15, 3) := by decide +kernel
theorem dX6_goesBefore_4 : decode cX6_goesBefore 4 = .ok (.iload_n 3, 1) := by decide +kernel
theorem dX6_goesBefore_5 : decode cX6_goesBefore 5 = .ok (.invokestatic 26, 3) := by decide +kernel
theorem dX6_goesBefore_8 : decode cX6_goesBefore 8 = .ok (.istore 4, 2) := by decide +kernel
theorem dX6_goesBefore_10 : decode cX6_goesBefore 10 = .ok (.iload_n 2, 1) := by decide +kernel
theorem dX6_goesBefore_11 : decode cX6_goesBefore 11 = .ok (.iload 4, 2) := by decide +kernel
theorem dX6_goesBefore_13 : decode cX6_goesBefore 13 = .ok (.if_icmp .gt 21, 3) := by decide +kernel
theorem dX6_goesBefore_16 : decode cX6_goesBefore 16 = .ok (.iload_n 2, 1) := by decide +kernel
theorem dX6_goesBefore_17 : decode cX6_goesBefore 17 = .ok (.iload 4, 2) := by decide +kernel
theorem dX6_goesBefore_19 : decode cX6_goesBefore 19 = .ok (.if_icmp .ne 19, 3) := by decide +kernel
theorem dX6_goesBefore_22 : decode cX6_goesBefore 22 = .ok (.iload_n 1, 1) := by decide +kernel
theorem dX6_goesBefore_23 : decode cX6_goesBefore 23 = .ok (.aload_n 0, 1) := by decide +kernel
theorem dX6_goesBefore_24 : decode cX6_goesBefore 24 = .ok (.getfield 9, 3) := by decide +kernel
theorem dX6_goesBefore_27 : decode cX6_goesBefore 27 = .ok (.iload_n 3, 1) := by decide +kernel
theorem dX6_goesBefore_28 : decode cX6_goesBefore 28 = .ok (.invokestatic 26, 3) := by decide +kernel
theorem dX6_goesBefore_31 : decode cX6_goesBefore 31 = .ok (.if_icmp .ge 7, 3) := by decide +kernel
theorem dX6_goesBefore_34 : decode cX6_goesBefore 34 = .ok (.iconst 1, 1) := by decide +kernel
theorem dX6_goesBefore_35 : decode cX6_goesBefore 35 = .ok (.goto 4, 3) := by decide +kernel
theorem dX6_goesBefore_38 : decode cX6_goesBefore 38 = .ok (.iconst 0, 1) := by decide +kernel
theorem dX6_goesBefore_39 : decode cX6_goesBefore 39 = .ok (.ireturn, 1) := by decide +kernel
theorem dX6_set_0 : decode cX6_set 0 = .ok (.aload_n 0, 1) := by decide +kernel
theorem dX6_set_1 : decode cX6_set 1 = .ok (.getfield 9, 3) := by decide +kernel
theorem dX6_set_4 : decode cX6_set 4 = .ok (.iload_n 1, 1) := by decide +kernel
theorem dX6_set_5 : decode cX6_set 5 = .ok (.iload_n 2, 1) := by decide +kernel
theorem dX6_set_6 : decode cX6_set 6 = .ok (.invokestatic 38, 3) := by decide +kernel
theorem dX6_set_9 : decode cX6_set 9 = .ok (.aload_n 0, 1) := by decide +kernel
theorem dX6_set_10 : decode cX6_set 10 = .ok (.getfield 15, 3) := by decide +kernel
theorem dX6_set_13 : decode cX6_set 13 = .ok (.iload_n 1, 1) := by decide +kernel
theorem dX6_set_14 : decode cX6_set 14 = .ok (.iload_n 3, 1) := by decide +kernel
theorem dX6_set_15 : decode cX6_set 15 = .ok (.invokestatic 38, 3) := by decide +kernel
theorem dX6_set_18 : decode cX6_set 18 = .ok (.return_, 1) := by decide +kernel
theorem dX6_removeFirst_0 : decode cX6_removeFirst 0 = .ok (.iconst 1, 1) := by decide +kernel
theorem dX6_removeFirst_1 : decode cX6_removeFirst 1 = .ok (.istore_n 1, 1) := by decide +kernel
theorem dX6_removeFirst_2 : decode cX6_removeFirst 2 = .ok (.iload_n 1, 1) := by decide +kernel
theorem dX6_removeFirst_3 : decode cX6_removeFirst 3 = .ok (.aload_n 0, 1) := by decide +kernel
theorem dX6_removeFirst_4 : decode cX6_removeFirst 4 = .ok (.getfield 18, 3) := by decide +kernel
theorem dX6_removeFirst_7 : decode cX6_removeFirst 7 = .ok (.if_icmp .ge 32, 3) := by decide +kernel
theorem dX6_removeFirst_10 : decode cX6_removeFirst 10 = .ok (.aload_n 0, 1) := by decide +kernel
theorem dX6_removeFirst_11 : decode cX6_removeFirst 11 = .ok (.iload_n 1, 1) := by decide +kernel
theorem dX6_removeFirst_12 : decode cX6_removeFirst 12 = .ok (.iconst 1, 1) := by decide +kernel
theorem dX6_removeFirst_13 : decode cX6_removeFirst 13 = .ok (.isub, 1) := by decide +kernel
theorem dX6_removeFirst_14 : decode cX6_removeFirst 14 = .ok (.aload_n 0, 1) := by decide +kernel
theorem dX6_removeFirst_15 : decode cX6_removeFirst 15 = .ok (.getfield 9, 3) := by decide +kernel
theorem dX6_removeFirst_18 : decode cX6_removeFirst 18 = .ok (.iload_n 1, 1) := by decide +kernel
theorem dX6_removeFirst_19 : decode cX6_removeFirst 19 = .ok (.invokestatic 26, 3) := by decide +kernel
theorem dX6_removeFirst_22 : decode cX6_removeFirst 22 = .ok (.aload_n 0, 1) := by decide +kernel
theorem dX6_removeFirst_23 : decode cX6_removeFirst 23 = .ok (.getfield 15, 3) := by decide +kernel
theorem dX6_removeFirst_26 : decode cX6_removeFirst 26 = .ok (.iload_n 1, 1) := by decide +kernel
theorem dX6_removeFirst_27 : decode cX6_removeFirst 27 = .ok (.invokestatic 26, 3) := by decide +kernel
theorem dX6_removeFirst_30 : decode cX6_removeFirst 30 = .ok (.invokevirtual 34, 3) := by decide +kernel
theorem dX6_removeFirst_33 : decode cX6_removeFirst 33 = .ok (.iinc 1 1, 3) := by decide +kernel
theorem dX6_removeFirst_36 : decode cX6_removeFirst 36 = .ok (.goto (-34), 3) := by decide +kernel
theorem dX6_removeFirst_39 : decode cX6_removeFirst 39 = .ok (.aload_n 0, 1) := by decide +kernel
theorem dX6_removeFirst_40 : decode cX6_removeFirst 40 = .ok (.iconst 0, 1) := by decide +kernel
theorem dX6_removeFirst_41 : decode cX6_removeFirst 41 = .ok (.aload_n 0, 1) := by decide +kernel
theorem dX6_removeFirst_42 : decode cX6_removeFirst 42 = .ok (.getfield 18, 3) := by decide +kernel
theorem dX6_removeFirst_45 : decode cX6_removeFirst 45 = .ok (.iconst 1, 1) := by decide +kernel
theorem dX6_removeFirst_46 : decode cX6_removeFirst 46 = .ok (.isub, 1) := by decide +kernel
theorem dX6_removeFirst_47 : decode cX6_removeFirst 47 = .ok (.invokestatic 42, 3) := by decide +kernel
theorem dX6_removeFirst_50 : decode cX6_removeFirst 50 = .ok (.putfield 18, 3) := by decide +kernel
theorem dX6_removeFirst_53 : decode cX6_removeFirst 53 = .ok (.return_, 1) := by decide +kernel
theorem dX6_removeAllOf_0 : decode cX6_removeAllOf 0 = .ok (.iconst 0, 1) := by decide +kernel
theorem dX6_removeAllOf_1 : decode cX6_removeAllOf 1 = .ok (.istore_n 2, 1) := by decide +kernel
theorem dX6_removeAllOf_2 : decode cX6_removeAllOf 2 = .ok (.iconst 0, 1) := by decide +kernel
theorem dX6_removeAllOf_3 : decode cX6_removeAllOf 3 = .ok (.istore_n 3, 1) := by decide +kernel
theorem dX6_removeAllOf_4 : decode cX6_removeAllOf 4 = .ok (.iload_n 3, 1) := by decide +kernel
theorem dX6_removeAllOf_5 : decode cX6_removeAllOf 5 = .ok (.aload_n 0, 1) := by decide +kernel
theorem dX6_removeAllOf_6 : decode cX6_removeAllOf 6 = .ok (.getfield 18, 3) := by decide +kernel
theorem dX6_removeAllOf_9 : decode cX6_removeAllOf 9 = .ok (.if_icmp .ge 48, 3) := by decide +kernel
theorem dX6_removeAllOf_12 : decode cX6_removeAllOf 12 = .ok (.aload_n 0, 1) := by decide +kernel
theorem dX6_removeAllOf_13 : decode cX6_removeAllOf 13 = .ok (.getfield 9, 3) := by decide +kernel
theorem dX6_removeAllOf_16 : decode cX6_removeAllOf 16 = .ok (.iload_n 3, 1) := by decide +kernel
theorem dX6_removeAllOf_17 : decode cX6_removeAllOf 17 = .ok (.invokestatic 26, 3) := by decide +kernel
theorem dX6_removeAllOf_20 : decode cX6_removeAllOf 20 = .ok (.invokestatic 48, 3) := by decide +kernel
theorem dX6_removeAllOf_23 : decode cX6_removeAllOf 23 = .ok (.iload_n 1, 1) := by decide +kernel
theorem dX6_removeAllOf_24 : decode cX6_removeAllOf 24 = .ok (.if_icmp .eq 27, 3) := by decide +kernel
theorem dX6_removeAllOf_27 : decode cX6_removeAllOf 27 = .ok (.aload_n 0, 1) := by decide +kernel
theorem dX6_removeAllOf_28 : decode cX6_removeAllOf 28 = .ok (.iload_n 2, 1) := by decide +kernel
theorem dX6_removeAllOf_29 : decode cX6_removeAllOf 29 = .ok (.aload_n 0, 1) := by decide +kernel
theorem dX6_removeAllOf_30 : decode cX6_removeAllOf 30 = .ok (.getfield 9, 3) := by decide +kernel
theorem dX6_removeAllOf_33 : decode cX6_removeAllOf 33 = .ok (.iload_n 3, 1) := by decide +kernel
theorem dX6_removeAllOf_34 : decode cX6_removeAllOf 34 = .ok (.invokestatic 26, 3) := by decide +kernel
theorem dX6_removeAllOf_37 : decode cX6_removeAllOf 37 = .ok (.aload_n 0, 1) := by decide +kernel
theorem dX6_removeAllOf_38 : decode cX6_removeAllOf 38 = .ok (.getfield 15, 3) := by decide +kernel
theorem dX6_removeAllOf_41 : decode cX6_removeAllOf 41 = .ok (.iload_n 3, 1) := by decide +kernel
theorem dX6_removeAllOf_42 : decode cX6_removeAllOf 42 = .ok (.invokestatic 26, 3) := by decide +kernel
theorem dX6_removeAllOf_45 : decode cX6_removeAllOf 45 = .ok (.invokevirtual 34, 3) := by decide +kernel
theorem dX6_removeAllOf_48 : decode cX6_removeAllOf 48 = .ok (.iinc 2 1, 3) := by decide +kernel
theorem dX6_removeAllOf_51 : decode cX6_removeAllOf 51 = .ok (.iinc 3 1, 3) := by decide +kernel
theorem dX6_removeAllOf_54 : decode cX6_removeAllOf 54 = .ok (.goto (-50), 3) := by decide +kernel
theorem dX6_removeAllOf_57 : decode cX6_removeAllOf 57 = .ok (.aload_n 0, 1) := by decide +kernel
theorem dX6_removeAllOf_58 : decode cX6_removeAllOf 58 = .ok (.getfield 18, 3) := by decide +kernel
theorem dX6_removeAllOf_61 : decode cX6_removeAllOf 61 = .ok (.iload_n 2, 1) := by decide +kernel
theorem dX6_removeAllOf_62 : decode cX6_removeAllOf 62 = .ok (.isub, 1) := by decide +kernel
theorem dX6_removeAllOf_63 : decode cX6_removeAllOf 63 = .ok (.istore_n 3, 1) := by decide +kernel
theorem dX6_removeAllOf_64 : decode cX6_removeAllOf 64 = .ok (.aload_n 0, 1) := by decide +kernel
theorem dX6_removeAllOf_65 : decode cX6_removeAllOf 65 = .ok (.iload_n 2, 1) := by decide +kernel
theorem dX6_removeAllOf_66 : decode cX6_removeAllOf 66 = .ok (.putfield 18, 3) := by decide +kernel
theorem dX6_removeAllOf_69 : decode cX6_removeAllOf 69 = .ok (.iload_n 3, 1) := by decide +kernel
theorem dX6_removeAllOf_70 : decode cX6_removeAllOf 70 = .ok (.ireturn, 1) := by decide +kernel
theorem dX7_init_0 : decode cX7_init 0 = .ok (.aload_n 0, 1) := by decide +kernel
theorem dX7_init_1 : decode cX7_init 1 = .ok (.invokespecial 3, 3) := by decide +kernel
theorem dX7_init_4 : decode cX7_init 4 = .ok (.aload_n 0, 1) := by decide +kernel
theorem dX7_init_5 : decode cX7_init 5 = .ok (.bipush 6, 2) := by decide +kernel
theorem dX7_init_7 : decode cX7_init 7 = .ok (.newarray .int, 2) := by decide +kernel
theorem dX7_init_9 : decode cX7_init 9 = .ok (.putfield 9, 3) := by decide +kernel
theorem dX7_init_12 : decode cX7_init 12 = .ok (.aload_n 0, 1) := by decide +kernel
theorem dX7_init_13 : decode cX7_init 13 = .ok (.bipush 24, 2) := by decide +kernel
theorem dX7_init_15 : decode cX7_init 15 = .ok (.newarray .int, 2) := by decide +kernel
theorem dX7_init_17 : decode cX7_init 17 = .ok (.putfield 15, 3) := by decide +kernel
theorem dX7_init_20 : decode cX7_init 20 = .ok (.aload_n 0, 1) := by decide +kernel
theorem dX7_init_21 : decode cX7_init 21 = .ok (.iconst 0, 1) := by decide +kernel
theorem dX7_init_22 : decode cX7_init 22 = .ok (.putfield 18, 3) := by decide +kernel
theorem dX7_init_25 : decode cX7_init 25 = .ok (.return_, 1) := by decide +kernel
theorem dX7_clear_0 : decode cX7_clear 0 = .ok (.aload_n 0, 1) := by decide +kernel
theorem dX7_clear_1 : decode cX7_clear 1 = .ok (.iconst 0, 1) := by decide +kernel
theorem dX7_clear_2 : decode cX7_clear 2 = .ok (.putfield 18, 3) := by decide +kernel
theorem dX7_clear_5 : decode cX7_clear 5 = .ok (.return_, 1) := by decide +kernel
theorem dX7_copyFrom_0 : decode cX7_copyFrom 0 = .ok (.aload_n 0, 1) := by decide +kernel
theorem dX7_copyFrom_1 : decode cX7_copyFrom 1 = .ok (.aload_n 1, 1) := by decide +kernel
theorem dX7_copyFrom_2 : decode cX7_copyFrom 2 = .ok (.getfield 18, 3) := by decide +kernel
theorem dX7_copyFrom_5 : decode cX7_copyFrom 5 = .ok (.putfield 18, 3) := by decide +kernel
theorem dX7_copyFrom_8 : decode cX7_copyFrom 8 = .ok (.aload_n 1, 1) := by decide +kernel
theorem dX7_copyFrom_9 : decode cX7_copyFrom 9 = .ok (.getfield 9, 3) := by decide +kernel
theorem dX7_copyFrom_12 : decode cX7_copyFrom 12 = .ok (.aload_n 0, 1) := by decide +kernel
theorem dX7_copyFrom_13 : decode cX7_copyFrom 13 = .ok (.getfield 9, 3) := by decide +kernel
theorem dX7_copyFrom_16 : decode cX7_copyFrom 16 = .ok (.invokestatic 22, 3) := by decide +kernel
theorem dX7_copyFrom_19 : decode cX7_copyFrom 19 = .ok (.aload_n 1, 1) := by decide +kernel
theorem dX7_copyFrom_20 : decode cX7_copyFrom 20 = .ok (.getfield 15, 3) := by decide +kernel
theorem dX7_copyFrom_23 : decode cX7_copyFrom 23 = .ok (.aload_n 0, 1) := by decide +kernel
theorem dX7_copyFrom_24 : decode cX7_copyFrom 24 = .ok (.getfield 15, 3) := by decide +kernel
theorem dX7_copyFrom_27 : decode cX7_copyFrom 27 = .ok (.invokestatic 22, 3) := by decide +kernel
theorem dX7_copyFrom_30 : decode cX7_copyFrom 30 = .ok (.return_, 1) := by decide +kernel
theorem dX7_add_0 : decode cX7_add 0 = .ok (.aload_n 0, 1) := by decide +kernel
theorem dX7_add_1 : decode cX7_add 1 = .ok (.getfield 18, 3) := by decide +kernel
theorem dX7_add_4 : decode cX7_add 4 = .ok (.bipush 6, 2) := by decide +kernel
theorem dX7_add_6 : decode cX7_add 6 = .ok (.if_icmp .lt 4, 3) := by decide +kernel
theorem dX7_add_9 : decode cX7_add 9 = .ok (.return_, 1) := by decide +kernel
theorem dX7_add_10 : decode cX7_add 10 = .ok (.iconst 0, 1) := by decide +kernel
theorem dX7_add_11 : decode cX7_add 11 = .ok (.istore 4, 2) := by decide +kernel
theorem dX7_add_13 : decode cX7_add 13 = .ok (.iload 4, 2) := by decide +kernel
theorem dX7_add_15 : decode cX7_add 15 = .ok (.iconst 4, 1) := by decide +kernel
theorem dX7_add_16 : decode cX7_add 16 = .ok (.if_icmp .ge 45, 3) := by decide +kernel
theorem dX7_add_19 : decode cX7_add 19 = .ok (.aload_n 0, 1) := by decide +kernel
theorem dX7_add_20 : decode cX7_add 20 = .ok (.getfield 15, 3) := by decide +kernel
theorem dX7_add_23 : decode cX7_add 23 = .ok (.aload_n 0, 1) := by decide +kernel
theorem dX7_add_24 : decode cX7_add 24 = .ok (.getfield 18, 3) := by decide +kernel
theorem dX7_add_27 : decode cX7_add 27 = .ok (.iconst 4, 1) := by decide +kernel
theorem dX7_add_28 : decode cX7_add 28 = .ok (.imul, 1) := by decide +kernel
theorem dX7_add_29 : decode cX7_add 29 = .ok (.iload 4, 2) := by decide +kernel
theorem dX7_add_31 : decode cX7_add 31 = .ok (.iadd, 1) := by decide +kernel
theorem dX7_add_32 : decode cX7_add 32 = .ok (.iload_n 2, 1) := by decide +kernel
theorem dX7_add_33 : decode cX7_add 33 = .ok (.iload 4, 2) := by decide +kernel
theorem dX7_add_35 : decode cX7_add 35 = .ok (.iadd, 1) := by decide +kernel
theorem dX7_add_36 : decode cX7_add 36 = .ok (.iload_n 3, 1) := by decide +kernel
theorem dX7_add_37 : decode cX7_add 37 = .ok (.if_icmp .ge 14, 3) := by decide +kernel
theorem dX7_add_40 : decode cX7_add 40 = .ok (.aload_n 1, 1) := by decide +kernel
theorem dX7_add_41 : decode cX7_add 41 = .ok (.iload_n 2, 1) := by decide +kernel
theorem dX7_add_42 : decode cX7_add 42 = .ok (.iload 4, 2) := by decide +kernel
theorem dX7_add_44 : decode cX7_add 44 = .ok (.iadd, 1) := by decide +kernel
theorem dX7_add_45 : decode cX7_add 45 = .ok (.invokevirtual 26, 3) := by decide +kernel
theorem dX7_add_48 : decode cX7_add 48 = .ok (.goto 4, 3) := by decide +kernel
theorem dX7_add_51 : decode cX7_add 51 = .ok (.iconst 0, 1) := by decide +kernel
theorem dX7_add_52 : decode cX7_add 52 = .ok (.invokestatic 32, 3) := by decide +kernel
theorem dX7_add_55 : decode cX7_add 55 = .ok (.iinc 4 1, 3) := by decide +kernel
theorem dX7_add_58 : decode cX7_add 58 = .ok (.goto (-45), 3) := by decide +kernel
theorem dX7_add_61 : decode cX7_add 61 = .ok (.aload_n 0, 1) := by decide +kernel
theorem dX7_add_62 : decode cX7_add 62 = .ok (.getfield 9, 3) := by decide +kernel
theorem dX7_add_65 : decode cX7_add 65 = .ok (.aload_n 0, 1) := by decide +kernel
theorem dX7_add_66 : decode cX7_add 66 = .ok (.getfield 18, 3) := by decide +kernel
theorem dX7_add_69 : decode cX7_add 69 = .ok (.iload_n 3, 1) := by decide +kernel
theorem dX7_add_70 : decode cX7_add 70 = .ok (.iload_n 2, 1) := by decide +kernel
theorem dX7_add_71 : decode cX7_add 71 = .ok (.isub, 1) := by decide +kernel
theorem dX7_add_72 : decode cX7_add 72 = .ok (.invokestatic 32, 3) := by decide +kernel
theorem dX7_add_75 : decode cX7_add 75 = .ok (.aload_n 0, 1) := by decide +kernel
theorem dX7_add_76 : decode cX7_add 76 = .ok (.dup, 1) := by decide +kernel
theorem dX7_add_77 : decode cX7_add 77 = .ok (.getfield 18, 3) := by decide +kernel
theorem dX7_add_80 : decode cX7_add 80 = .ok (.iconst 1, 1) := by decide +kernel
theorem dX7_add_81 : decode cX7_add 81 = .ok (.iadd, 1) := by decide +kernel
theorem dX7_add_82 : decode cX7_add 82 = .ok (.putfield 18, 3) := by decide +kernel
theorem dX7_add_85 : decode cX7_add 85 = .ok (.return_, 1) := by decide +kernel
theorem dX7_find_0 : decode cX7_find 0 = .ok (.iconst 0, 1) := by decide +kernel
theorem dX7_find_1 : decode cX7_find 1 = .ok (.istore 4, 2) := by decide +kernel
theorem dX7_find_3 : decode cX7_find 3 = .ok (.iload 4, 2) := by decide +kernel
theorem dX7_find_5 : decode cX7_find 5 = .ok (.aload_n 0, 1) := by decide +kernel
theorem dX7_find_6 : decode cX7_find 6 = .ok (.getfield 18, 3) := by decide +kernel
theorem dX7_find_9 : decode cX7_find 9 = .ok (.if_icmp .ge 24, 3) := by decide +kernel
theorem dX7_find_12 : decode cX7_find 12 = .ok (.aload_n 0, 1) := by decide +kernel
theorem dX7_find_13 : decode cX7_find 13 = .ok (.iload 4, 2) := by decide +kernel
theorem dX7_find_15 : decode cX7_find 15 = .ok (.aload_n 1, 1) := by decide +kernel
theorem dX7_find_16 : decode cX7_find 16 = .ok (.iload_n 2, 1) := by decide +kernel
theorem dX7_find_17 : decode cX7_find 17 = .ok (.iload_n 3, 1) := by decide +kernel
theorem dX7_find_18 : decode cX7_find 18 = .ok (.invokevirtual 40, 3) := by decide +kernel
theorem dX7_find_21 : decode cX7_find 21 = .ok (.ifCond .eq 6, 3) := by decide +kernel
theorem dX7_find_24 : decode cX7_find 24 = .ok (.iload 4, 2) := by decide +kernel
theorem dX7_find_26 : decode cX7_find 26 = .ok (.ireturn, 1) := by decide +kernel
theorem dX7_find_27 : decode cX7_find 27 = .ok (.iinc 4 1, 3) := by decide +kernel
theorem dX7_find_30 : decode cX7_find 30 = .ok (.goto (-27), 3) := by decide +kernel
theorem dX7_find_33 : decode cX7_find 33 = .ok (.iconst (-1), 1) := by decide +kernel
theorem dX7_find_34 : decode cX7_find 34 = .ok (.ireturn, 1) := by decide +kernel
theorem dX7_isNamed_0 : decode cX7_isNamed 0 = .ok (.aload_n 0, 1) := by decide +kernel
theorem dX7_isNamed_1 : decode cX7_isNamed 1 = .ok (.getfield 9, 3) := by decide +kernel
theorem dX7_isNamed_4 : decode cX7_isNamed 4 = .ok (.iload_n 1, 1) := by decide +kernel
theorem dX7_isNamed_5 : decode cX7_isNamed 5 = .ok (.invokestatic 36, 3) := by decide +kernel
theorem dX7_isNamed_8 : decode cX7_isNamed 8 = .ok (.istore 5, 2) := by decide +kernel
theorem dX7_isNamed_10 : decode cX7_isNamed 10 = .ok (.iload 5, 2) := by decide +kernel
theorem dX7_isNamed_12 : decode cX7_isNamed 12 = .ok (.iload 4, 2) := by decide +kernel
theorem dX7_isNamed_14 : decode cX7_isNamed 14 = .ok (.iload_n 3, 1) := by decide +kernel
theorem dX7_isNamed_15 : decode cX7_isNamed 15 = .ok (.isub, 1) := by decide +kernel
theorem dX7_isNamed_16 : decode cX7_isNamed 16 = .ok (.if_icmp .eq 5, 3) := by decide +kernel
theorem dX7_isNamed_19 : decode cX7_isNamed 19 = .ok (.iconst 0, 1) := by decide +kernel
theorem dX7_isNamed_20 : decode cX7_isNamed 20 = .ok (.ireturn, 1) := by decide +kernel
theorem dX7_isNamed_21 : decode cX7_isNamed 21 = .ok (.iconst 0, 1) := by decide +kernel
theorem dX7_isNamed_22 : decode cX7_isNamed 22 = .ok (.istore 6, 2) := by decide +kernel
theorem dX7_isNamed_24 : decode cX7_isNamed 24 = .ok (.iload 6, 2) := by decide +kernel
theorem dX7_isNamed_26 : decode cX7_isNamed 26 = .ok (.iload 5, 2) := by decide +kernel
theorem dX7_isNamed_28 : decode cX7_isNamed 28 = .ok (.if_icmp .ge 35, 3) := by decide +kernel
theorem dX7_isNamed_31 : decode cX7_isNamed 31 = .ok (.aload_n 0, 1) := by decide +kernel
theorem dX7_isNamed_32 : decode cX7_isNamed 32 = .ok (.getfield 15, 3) := by decide +kernel
theorem dX7_isNamed_35 : decode cX7_isNamed 35 = .ok (.iload_n 1, 1) := by decide +kernel
theorem dX7_isNamed_36 : decode cX7_isNamed 36 = .ok (.iconst 4, 1) := by decide +kernel
theorem dX7_isNamed_37 : decode cX7_isNamed 37 = .ok (.imul, 1) := by decide +kernel
theorem dX7_isNamed_38 : decode cX7_isNamed 38 = .ok (.iload 6, 2) := by decide +kernel
theorem dX7_isNamed_40 : decode cX7_isNamed 40 = .ok (.iadd, 1) := by decide +kernel
theorem dX7_isNamed_41 : decode cX7_isNamed 41 = .ok (.invokestatic 36, 3) := by decide +kernel
theorem dX7_isNamed_44 : decode cX7_isNamed 44 = .ok (.aload_n 2, 1) := by decide +kernel
theorem dX7_isNamed_45 : decode cX7_isNamed 45 = .ok (.iload_n 3, 1) := by decide +kernel
theorem dX7_isNamed_46 : decode cX7_isNamed 46 = .ok (.iload 6, 2) := by decide +kernel
theorem dX7_isNamed_48 : decode cX7_isNamed 48 = .ok (.iadd, 1) := by decide +kernel
theorem dX7_isNamed_49 : decode cX7_isNamed 49 = .ok (.invokevirtual 26, 3) := by decide +kernel
theorem dX7_isNamed_52 : decode cX7_isNamed 52 = .ok (.if_icmp .eq 5, 3) := by decide +kernel
theorem dX7_isNamed_55 : decode cX7_isNamed 55 = .ok (.iconst 0, 1) := by decide +kernel
theorem dX7_isNamed_56 : decode cX7_isNamed 56 = .ok (.ireturn, 1) := by decide +kernel
theorem dX7_isNamed_57 : decode cX7_isNamed 57 = .ok (.iinc 6 1, 3) := by decide +kernel
theorem dX7_isNamed_60 : decode cX7_isNamed 60 = .ok (.goto (-36), 3) := by decide +kernel
theorem dX7_isNamed_63 : decode cX7_isNamed 63 = .ok (.iconst 1, 1) := by decide +kernel
theorem dX7_isNamed_64 : decode cX7_isNamed 64 = .ok (.ireturn, 1) := by decide +kernel
theorem dX8_init_0 : decode cX8_init 0 = .ok (.aload_n 0, 1) := by decide +kernel
theorem dX8_init_1 : decode cX8_init 1 = .ok (.invokespecial 3, 3) := by decide +kernel
theorem dX8_init_4 : decode cX8_init 4 = .ok (.aload_n 0, 1) := by decide +kernel
theorem dX8_init_5 : decode cX8_init 5 = .ok (.sipush 900, 3) := by decide +kernel
theorem dX8_init_8 : decode cX8_init 8 = .ok (.newarray .int, 2) := by decide +kernel
theorem dX8_init_10 : decode cX8_init 10 = .ok (.putfield 9, 3) := by decide +kernel
theorem dX8_init_13 : decode cX8_init 13 = .ok (.aload_n 0, 1) := by decide +kernel
theorem dX8_init_14 : decode cX8_init 14 = .ok (.iconst 0, 1) := by decide +kernel
theorem dX8_init_15 : decode cX8_init 15 = .ok (.putfield 15, 3) := by decide +kernel
theorem dX8_init_18 : decode cX8_init 18 = .ok (.return_, 1) := by decide +kernel
theorem dX8_byteIn_0 : decode cX8_byteIn 0 = .ok (.iload_n 1, 1) := by decide +kernel
theorem dX8_byteIn_1 : decode cX8_byteIn 1 = .ok (.ifCond .lt 27, 3) := by decide +kernel
theorem dX8_byteIn_4 : decode cX8_byteIn 4 = .ok (.iload_n 1, 1) := by decide +kernel
theorem dX8_byteIn_5 : decode cX8_byteIn 5 = .ok (.aload_n 0, 1) := by decide +kernel
theorem dX8_byteIn_6 : decode cX8_byteIn 6 = .ok (.getfield 15, 3) := by decide +kernel
theorem dX8_byteIn_9 : decode cX8_byteIn 9 = .ok (.if_icmp .ge 19, 3) := by decide +kernel
theorem dX8_byteIn_12 : decode cX8_byteIn 12 = .ok (.iload_n 1, 1) := by decide +kernel
theorem dX8_byteIn_13 : decode cX8_byteIn 13 = .ok (.sipush 900, 3) := by decide +kernel
theorem dX8_byteIn_16 : decode cX8_byteIn 16 = .ok (.if_icmp .ge 12, 3) := by decide +kernel
theorem dX8_byteIn_19 : decode cX8_byteIn 19 = .ok (.aload_n 0, 1) := by decide +kernel
theorem dX8_byteIn_20 : decode cX8_byteIn 20 = .ok (.getfield 9, 3) := by decide +kernel
theorem dX8_byteIn_23 : decode cX8_byteIn 23 = .ok (.iload_n 1, 1) := by decide +kernel
theorem dX8_byteIn_24 : decode cX8_byteIn 24 = .ok (.iaload, 1) := by decide +kernel
theorem dX8_byteIn_25 : decode cX8_byteIn 25 = .ok (.goto 4, 3) := by decide +kernel
theorem dX8_byteIn_28 : decode cX8_byteIn 28 = .ok (.iconst (-1), 1) := by decide +kernel
theorem dX8_byteIn_29 : decode cX8_byteIn 29 = .ok (.ireturn, 1) := by decide +kernel
theorem dX8_append_0 : decode cX8_append 0 = .ok (.aload_n 0, 1) := by decide +kernel
theorem dX8_append_1 : decode cX8_append 1 = .ok (.getfield 15, 3) := by decide +kernel
theorem dX8_append_4 : decode cX8_append 4 = .ok (.sipush 900, 3) := by decide +kernel
theorem dX8_append_7 : decode cX8_append 7 = .ok (.if_icmp .ge 25, 3) := by decide +kernel
theorem dX8_append_10 : decode cX8_append 10 = .ok (.aload_n 0, 1) := by decide +kernel
theorem dX8_append_11 : decode cX8_append 11 = .ok (.getfield 9, 3) := by decide +kernel
theorem dX8_append_14 : decode cX8_append 14 = .ok (.aload_n 0, 1) := by decide +kernel
theorem dX8_append_15 : decode cX8_append 15 = .ok (.getfield 15, 3) := by decide +kernel
theorem dX8_append_18 : decode cX8_append 18 = .ok (.iload_n 1, 1) := by decide +kernel
theorem dX8_append_19 : decode cX8_append 19 = .ok (.invokestatic 19, 3) := by decide +kernel
theorem dX8_append_22 : decode cX8_append 22 = .ok (.aload_n 0, 1) := by decide +kernel
theorem dX8_append_23 : decode cX8_append 23 = .ok (.dup, 1) := by decide +kernel
theorem dX8_append_24 : decode cX8_append 24 = .ok (.getfield 15, 3) := by decide +kernel
theorem dX8_append_27 : decode cX8_append 27 = .ok (.iconst 1, 1) := by decide +kernel
theorem dX8_append_28 : decode cX8_append 28 = .ok (.iadd, 1) := by decide +kernel
theorem dX8_append_29 : decode cX8_append 29 = .ok (.putfield 15, 3) := by decide +kernel
theorem dX8_append_32 : decode cX8_append 32 = .ok (.return_, 1) := by decide +kernel
theorem dX8_appendWord_0 : decode cX8_appendWord 0 = .ok (.bipush 24, 2) := by decide +kernel
theorem dX8_appendWord_2 : decode cX8_appendWord 2 = .ok (.istore_n 2, 1) := by decide +kernel
theorem dX8_appendWord_3 : decode cX8_appendWord 3 = .ok (.iload_n 2, 1) := by decide +kernel
theorem dX8_appendWord_4 : decode cX8_appendWord 4 = .ok (.ifCond .lt 20, 3) := by decide +kernel
theorem dX8_appendWord_7 : decode cX8_appendWord 7 = .ok (.aload_n 0, 1) := by decide +kernel
theorem dX8_appendWord_8 : decode cX8_appendWord 8 = .ok (.iload_n 1, 1) := by decide +kernel
theorem dX8_appendWord_9 : decode cX8_appendWord 9 = .ok (.iload_n 2, 1) := by decide +kernel
theorem dX8_appendWord_10 : decode cX8_appendWord 10 = .ok (.ishr, 1) := by decide +kernel
theorem dX8_appendWord_11 : decode cX8_appendWord 11 = .ok (.sipush 255, 3) := by decide +kernel
theorem dX8_appendWord_14 : decode cX8_appendWord 14 = .ok (.iand, 1) := by decide +kernel
theorem dX8_appendWord_15 : decode cX8_appendWord 15 = .ok (.invokevirtual 23, 3) := by decide +kernel
theorem dX8_appendWord_18 : decode cX8_appendWord 18 = .ok (.iinc 2 (-8), 3) := by decide +kernel
theorem dX8_appendWord_21 : decode cX8_appendWord 21 = .ok (.goto (-18), 3) := by decide +kernel
theorem dX8_appendWord_24 : decode cX8_appendWord 24 = .ok (.return_, 1) := by decide +kernel
theorem dX8_appendString_0 : decode cX8_appendString 0 = .ok (.iconst 0, 1) := by decide +kernel
theorem dX8_appendString_1 : decode cX8_appendString 1 = .ok (.istore_n 2, 1) := by decide +kernel
theorem dX8_appendString_2 : decode cX8_appendString 2 = .ok (.iload_n 2, 1) := by decide +kernel
theorem dX8_appendString_3 : decode cX8_appendString 3 = .ok (.aload_n 1, 1) := by decide +kernel
theorem dX8_appendString_4 : decode cX8_appendString 4 = .ok (.invokevirtual 27, 3) := by decide +kernel
theorem dX8_appendString_7 : decode cX8_appendString 7 = .ok (.if_icmp .ge 18, 3) := by decide +kernel
theorem dX8_appendString_10 : decode cX8_appendString 10 = .ok (.aload_n 0, 1) := by decide +kernel
theorem dX8_appendString_11 : decode cX8_appendString 11 = .ok (.aload_n 1, 1) := by decide +kernel
theorem dX8_appendString_12 : decode cX8_appendString 12 = .ok (.iload_n 2, 1) := by decide +kernel
theorem dX8_appendString_13 : decode cX8_appendString 13 = .ok (.invokevirtual 32, 3) := by decide +kernel
theorem dX8_appendString_16 : decode cX8_appendString 16 = .ok (.invokevirtual 23, 3) := by decide +kernel
theorem dX8_appendString_19 : decode cX8_appendString 19 = .ok (.iinc 2 1, 3) := by decide +kernel
theorem dX8_appendString_22 : decode cX8_appendString 22 = .ok (.goto (-20), 3) := by decide +kernel
theorem dX8_appendString_25 : decode cX8_appendString 25 = .ok (.return_, 1) := by decide +kernel
theorem dX8_cutTo_0 : decode cX8_cutTo 0 = .ok (.aload_n 0, 1) := by decide +kernel
theorem dX8_cutTo_1 : decode cX8_cutTo 1 = .ok (.iload_n 1, 1) := by decide +kernel
theorem dX8_cutTo_2 : decode cX8_cutTo 2 = .ok (.putfield 15, 3) := by decide +kernel
theorem dX8_cutTo_5 : decode cX8_cutTo 5 = .ok (.return_, 1) := by decide +kernel
theorem dX9_init_0 : decode cX9_init 0 = .ok (.aload_n 0, 1) := by decide +kernel
theorem dX9_init_1 : decode cX9_init 1 = .ok (.invokespecial 1, 3) := by decide +kernel
theorem dX9_init_4 : decode cX9_init 4 = .ok (.aload_n 0, 1) := by decide +kernel
theorem dX9_init_5 : decode cX9_init 5 = .ok (.iconst 0, 1) := by decide +kernel
theorem dX9_init_6 : decode cX9_init 6 = .ok (.putfield 9, 3) := by decide +kernel
theorem dX9_init_9 : decode cX9_init 9 = .ok (.aload_n 0, 1) := by decide +kernel
theorem dX9_init_10 : decode cX9_init 10 = .ok (.iconst 0, 1) := by decide +kernel
theorem dX9_init_11 : decode cX9_init 11 = .ok (.putfield 13, 3) := by decide +kernel
theorem dX9_init_14 : decode cX9_init 14 = .ok (.aload_n 0, 1) := by decide +kernel
theorem dX9_init_15 : decode cX9_init 15 = .ok (.iconst 0, 1) := by decide +kernel
theorem dX9_init_16 : decode cX9_init 16 = .ok (.putfield 16, 3) := by decide +kernel
theorem dX9_init_19 : decode cX9_init 19 = .ok (.aload_n 0, 1) := by decide +kernel
theorem dX9_init_20 : decode cX9_init 20 = .ok (.iconst 0, 1) := by decide +kernel
theorem dX9_init_21 : decode cX9_init 21 = .ok (.putfield 19, 3) := by decide +kernel
theorem dX9_init_24 : decode cX9_init 24 = .ok (.aload_n 0, 1) := by decide +kernel
theorem dX9_init_25 : decode cX9_init 25 = .ok (.aload_n 1, 1) := by decide +kernel
theorem dX9_init_26 : decode cX9_init 26 = .ok (.putfield 22, 3) := by decide +kernel
theorem dX9_init_29 : decode cX9_init 29 = .ok (.return_, 1) := by decide +kernel
theorem dX9_rewind_0 : decode cX9_rewind 0 = .ok (.aload_n 0, 1) := by decide +kernel
theorem dX9_rewind_1 : decode cX9_rewind 1 = .ok (.iconst 0, 1) := by decide +kernel
theorem dX9_rewind_2 : decode cX9_rewind 2 = .ok (.putfield 16, 3) := by decide +kernel
theorem dX9_rewind_5 : decode cX9_rewind 5 = .ok (.aload_n 0, 1) := by decide +kernel
theorem dX9_rewind_6 : decode cX9_rewind 6 = .ok (.invokevirtual 26, 3) := by decide +kernel
theorem dX9_rewind_9 : decode cX9_rewind 9 = .ok (.return_, 1) := by decide +kernel
theorem dX9_advance_0 : decode cX9_advance 0 = .ok (.aload_n 0, 1) := by decide +kernel
theorem dX9_advance_1 : decode cX9_advance 1 = .ok (.aload_n 0, 1) := by decide +kernel
theorem dX9_advance_2 : decode cX9_advance 2 = .ok (.getfield 16, 3) := by decide +kernel
theorem dX9_advance_5 : decode cX9_advance 5 = .ok (.putfield 13, 3) := by decide +kernel
theorem dX9_advance_8 : decode cX9_advance 8 = .ok (.aload_n 0, 1) := by decide +kernel
theorem dX9_advance_9 : decode cX9_advance 9 = .ok (.getfield 13, 3) := by decide +kernel
theorem dX9_advance_12 : decode cX9_advance 12 = .ok (.aload_n 0, 1) := by decide +kernel
theorem dX9_advance_13 : decode cX9_advance 13 = .ok (.getfield 22, 3) := by decide +kernel
theorem dX9_advance_16 : decode cX9_advance 16 = .ok (.getfield 29, 3) := by decide +kernel
theorem dX9_advance_19 : decode cX9_advance 19 = .ok (.if_icmp .ge 33, 3) := by decide +kernel
theorem dX9_advance_22 : decode cX9_advance 22 = .ok (.aload_n 0, 1) := by decide +kernel
theorem dX9_advance_23 : decode cX9_advance 23 = .ok (.getfield 22, 3) := by decide +kernel
theorem dX9_advance_26 : decode cX9_advance 26 = .ok (.aload_n 0, 1) := by decide +kernel
theorem dX9_advance_27 : decode cX9_advance 27 = .ok (.getfield 13, 3) := by decide +kernel
theorem dX9_advance_30 : decode cX9_advance 30 = .ok (.invokevirtual 34, 3) := by decide +kernel
theorem dX9_advance_33 : decode cX9_advance 33 = .ok (.invokestatic 38, 3) := by decide +kernel
theorem dX9_advance_36 : decode cX9_advance 36 = .ok (.ifCond .eq 16, 3) := by decide +kernel
theorem dX9_advance_39 : decode cX9_advance 39 = .ok (.aload_n 0, 1) := by decide +kernel
theorem dX9_advance_40 : decode cX9_advance 40 = .ok (.dup, 1) := by decide +kernel
theorem dX9_advance_41 : decode cX9_advance 41 = .ok (.getfield 13, 3) := by decide +kernel
theorem dX9_advance_44 : decode cX9_advance 44 = .ok (.iconst 1, 1) := by decide +kernel
theorem dX9_advance_45 : decode cX9_advance 45 = .ok (.iadd, 1) := by decide +kernel
theorem dX9_advance_46 : decode cX9_advance 46 = .ok (.putfield 13, 3) := by decide +kernel
theorem dX9_advance_49 : decode cX9_advance 49 = .ok (.goto (-41), 3) := by decide +kernel
theorem dX9_advance_52 : decode cX9_advance 52 = .ok (.aload_n 0, 1) := by decide +kernel
theorem dX9_advance_53 : decode cX9_advance 53 = .ok (.aload_n 0, 1) := by decide +kernel
theorem dX9_advance_54 : decode cX9_advance 54 = .ok (.getfield 13, 3) := by decide +kernel
theorem dX9_advance_57 : decode cX9_advance 57 = .ok (.putfield 16, 3) := by decide +kernel
theorem dX9_advance_60 : decode cX9_advance 60 = .ok (.aload_n 0, 1) := by decide +kernel
theorem dX9_advance_61 : decode cX9_advance 61 = .ok (.getfield 22, 3) := by decide +kernel
theorem dX9_advance_64 : decode cX9_advance 64 = .ok (.aload_n 0, 1) := by decide +kernel
theorem dX9_advance_65 : decode cX9_advance 65 = .ok (.getfield 13, 3) := by decide +kernel
theorem dX9_advance_68 : decode cX9_advance 68 = .ok (.invokevirtual 34, 3) := by decide +kernel
theorem dX9_advance_71 : decode cX9_advance 71 = .ok (.istore_n 1, 1) := by decide +kernel
theorem dX9_advance_72 : decode cX9_advance 72 = .ok (.aload_n 0, 1) := by decide +kernel
theorem dX9_advance_73 : decode cX9_advance 73 = .ok (.getfield 13, 3) := by decide +kernel
theorem dX9_advance_76 : decode cX9_advance 76 = .ok (.aload_n 0, 1) := by decide +kernel
theorem dX9_advance_77 : decode cX9_advance 77 = .ok (.getfield 22, 3) := by decide +kernel
theorem dX9_advance_80 : decode cX9_advance 80 = .ok (.getfield 29, 3) := by decide +kernel
theorem dX9_advance_83 : decode cX9_advance 83 = .ok (.if_icmp .lt 11, 3) := by decide +kernel
theorem dX9_advance_86 : decode cX9_advance 86 = .ok (.aload_n 0, 1) := by decide +kernel
theorem dX9_advance_87 : decode cX9_advance 87 = .ok (.iconst 0, 1) := by decide +kernel
theorem dX9_advance_88 : decode cX9_advance 88 = .ok (.putfield 9, 3) := by decide +kernel
theorem dX9_advance_91 : decode cX9_advance 91 = .ok (.goto 56, 3) := by decide +kernel
theorem dX9_advance_94 : decode cX9_advance 94 = .ok (.iload_n 1, 1) := by decide +kernel
theorem dX9_advance_95 : decode cX9_advance 95 = .ok (.invokestatic 42, 3) := by decide +kernel
theorem dX9_advance_98 : decode cX9_advance 98 = .ok (.ifCond .eq 15, 3) := by decide +kernel
theorem dX9_advance_101 : decode cX9_advance 101 = .ok (.aload_n 0, 1) := by decide +kernel
theorem dX9_advance_102 : decode cX9_advance 102 = .ok (.iconst 1, 1) := by decide +kernel
theorem dX9_advance_103 : decode cX9_advance 103 = .ok (.putfield 9, 3) := by decide +kernel
theorem dX9_advance_106 : decode cX9_advance 106 = .ok (.aload_n 0, 1) := by decide +kernel
theorem dX9_advance_107 : decode cX9_advance 107 = .ok (.invokevirtual 45, 3) := by decide +kernel
theorem dX9_advance_110 : decode cX9_advance 110 = .ok (.goto 37, 3) := by decide +kernel
theorem dX9_advance_113 : decode cX9_advance 113 = .ok (.iload_n 1, 1) := by decide +kernel
theorem dX9_advance_114 : decode cX9_advance 114 = .ok (.invokestatic 48, 3) := by decide +kernel
theorem dX9_advance_117 : decode cX9_advance 117 = .ok (.ifCond .eq 15, 3) := by decide +kernel
theorem dX9_advance_120 : decode cX9_advance 120 = .ok (.aload_n 0, 1) := by decide +kernel
theorem dX9_advance_121 : decode cX9_advance 121 = .ok (.iconst 2, 1) := by decide +kernel
theorem dX9_advance_122 : decode cX9_advance 122 = .ok (.putfield 9, 3) := by decide +kernel
theorem dX9_advance_125 : decode cX9_advance 125 = .ok (.aload_n 0, 1) := by decide +kernel
theorem dX9_advance_126 : decode cX9_advance 126 = .ok (.invokevirtual 51, 3) := by decide +kernel
theorem dX9_advance_129 : decode cX9_advance 129 = .ok (.goto 18, 3) := by decide +kernel
theorem dX9_advance_132 : decode cX9_advance 132 = .ok (.aload_n 0, 1) := by decide +kernel
theorem dX9_advance_133 : decode cX9_advance 133 = .ok (.iconst 3, 1) := by decide +kernel
theorem dX9_advance_134 : decode cX9_advance 134 = .ok (.putfield 9, 3) := by decide +kernel
theorem dX9_advance_137 : decode cX9_advance 137 = .ok (.aload_n 0, 1) := by decide +kernel
theorem dX9_advance_138 : decode cX9_advance 138 = .ok (.aload_n 0, 1) := by decide +kernel
theorem dX9_advance_139 : decode cX9_advance 139 = .ok (.getfield 13, 3) := by decide +kernel
theorem dX9_advance_142 : decode cX9_advance 142 = .ok (.iconst 1, 1) := by decide +kernel
theorem dX9_advance_143 : decode cX9_advance 143 = .ok (.iadd, 1) := by decide +kernel
theorem dX9_advance_144 : decode cX9_advance 144 = .ok (.putfield 16, 3) := by decide +kernel
theorem dX9_advance_147 : decode cX9_advance 147 = .ok (.return_, 1) := by decide +kernel
theorem dX9_passLetters_0 : decode cX9_passLetters 0 = .ok (.aload_n 0, 1) := by decide +kernel
theorem dX9_passLetters_1 : decode cX9_passLetters 1 = .ok (.getfield 16, 3) := by decide +kernel
theorem dX9_passLetters_4 : decode cX9_passLetters 4 = .ok (.aload_n 0, 1) := by decide +kernel
theorem dX9_passLetters_5 : decode cX9_passLetters 5 = .ok (.getfield 22, 3) := by decide +kernel
theorem dX9_passLetters_8 : decode cX9_passLetters 8 = .ok (.getfield 29, 3) := by decide +kernel
theorem dX9_passLetters_11 : decode cX9_passLetters 11 = .ok (.if_icmp .ge 33, 3) := by decide +kernel
theorem dX9_passLetters_14 : decode cX9_passLetters 14 = .ok (.aload_n 0, 1) := by decide +kernel
theorem dX9_passLetters_15 : decode cX9_passLetters 15 = .ok (.getfield 22, 3) := by decide +kernel
theorem dX9_passLetters_18 : decode cX9_passLetters 18 = .ok (.aload_n 0, 1) := by decide +kernel
theorem dX9_passLetters_19 : decode cX9_passLetters 19 = .ok (.getfield 16, 3) := by decide +kernel
theorem dX9_passLetters_22 : decode cX9_passLetters 22 = .ok (.invokevirtual 34, 3) := by decide +kernel
theorem dX9_passLetters_25 : decode cX9_passLetters 25 = .ok (.invokestatic 42, 3) := by decide +kernel
theorem dX9_passLetters_28 : decode cX9_passLetters 28 = .ok (.ifCond .eq 16, 3) := by decide +kernel
theorem dX9_passLetters_31 : decode cX9_passLetters 31 = .ok (.aload_n 0, 1) := by decide +kernel
theorem dX9_passLetters_32 : decode cX9_passLetters 32 = .ok (.dup, 1) := by decide +kernel
theorem dX9_passLetters_33 : decode cX9_passLetters 33 = .ok (.getfield 16, 3) := by decide +kernel
theorem dX9_passLetters_36 : decode cX9_passLetters 36 = .ok (.iconst 1, 1) := by decide +kernel
theorem dX9_passLetters_37 : decode cX9_passLetters 37 = .ok (.iadd, 1) := by decide +kernel
theorem dX9_passLetters_38 : decode cX9_passLetters 38 = .ok (.putfield 16, 3) := by decide +kernel
theorem dX9_passLetters_41 : decode cX9_passLetters 41 = .ok (.goto (-41), 3) := by decide +kernel
theorem dX9_passLetters_44 : decode cX9_passLetters 44 = .ok (.return_, 1) := by decide +kernel
theorem dX9_passDigits_0 : decode cX9_passDigits 0 = .ok (.aload_n 0, 1) := by decide +kernel
theorem dX9_passDigits_1 : decode cX9_passDigits 1 = .ok (.iconst 0, 1) := by decide +kernel
theorem dX9_passDigits_2 : decode cX9_passDigits 2 = .ok (.putfield 19, 3) := by decide +kernel
theorem dX9_passDigits_5 : decode cX9_passDigits 5 = .ok (.aload_n 0, 1) := by decide +kernel
theorem dX9_passDigits_6 : decode cX9_passDigits 6 = .ok (.getfield 16, 3) := by decide +kernel
theorem dX9_passDigits_9 : decode cX9_passDigits 9 = .ok (.aload_n 0, 1) := by decide +kernel
theorem dX9_passDigits_10 : decode cX9_passDigits 10 = .ok (.getfield 22, 3) := by decide +kernel
theorem dX9_passDigits_13 : decode cX9_passDigits 13 = .ok (.getfield 29, 3) := by decide +kernel
theorem dX9_passDigits_16 : decode cX9_passDigits 16 = .ok (.if_icmp .ge 64, 3) := by decide +kernel
theorem dX9_passDigits_19 : decode cX9_passDigits 19 = .ok (.aload_n 0, 1) := by decide +kernel
theorem dX9_passDigits_20 : decode cX9_passDigits 20 = .ok (.getfield 22, 3) := by decide +kernel
theorem dX9_passDigits_23 : decode cX9_passDigits 23 = .ok (.aload_n 0, 1) := by decide +kernel
theorem dX9_passDigits_24 : decode cX9_passDigits 24 = .ok (.getfield 16, 3) := by decide +kernel
theorem dX9_passDigits_27 : decode cX9_passDigits 27 = .ok (.invokevirtual 34, 3) := by decide +kernel
theorem dX9_passDigits_30 : decode cX9_passDigits 30 = .ok (.invokestatic 48, 3) := by decide +kernel
theorem dX9_passDigits_33 : decode cX9_passDigits 33 = .ok (.ifCond .eq 47, 3) := by decide +kernel
theorem dX9_passDigits_36 : decode cX9_passDigits 36 = .ok (.aload_n 0, 1) := by decide +kernel
theorem dX9_passDigits_37 : decode cX9_passDigits 37 = .ok (.aload_n 0, 1) := by decide +kernel
theorem dX9_passDigits_38 : decode cX9_passDigits 38 = .ok (.getfield 19, 3) := by decide +kernel
theorem dX9_passDigits_41 : decode cX9_passDigits 41 = .ok (.bipush 10, 2) := by decide +kernel
theorem dX9_passDigits_43 : decode cX9_passDigits 43 = .ok (.imul, 1) := by decide +kernel
theorem dX9_passDigits_44 : decode cX9_passDigits 44 = .ok (.aload_n 0, 1) := by decide +kernel
theorem dX9_passDigits_45 : decode cX9_passDigits 45 = .ok (.getfield 22, 3) := by decide +kernel
theorem dX9_passDigits_48 : decode cX9_passDigits 48 = .ok (.aload_n 0, 1) := by decide +kernel
theorem dX9_passDigits_49 : decode cX9_passDigits 49 = .ok (.getfield 16, 3) := by decide +kernel
theorem dX9_passDigits_52 : decode cX9_passDigits 52 = .ok (.invokevirtual 34, 3) := by decide +kernel
theorem dX9_passDigits_55 : decode cX9_passDigits 55 = .ok (.iadd, 1) := by decide +kernel
theorem dX9_passDigits_56 : decode cX9_passDigits 56 = .ok (.bipush 48, 2) := by decide +kernel
theorem dX9_passDigits_58 : decode cX9_passDigits 58 = .ok (.isub, 1) := by decide +kernel
theorem dX9_passDigits_59 : decode cX9_passDigits 59 = .ok (.ldc 54, 2) := by decide +kernel
theorem dX9_passDigits_61 : decode cX9_passDigits 61 = .ok (.invokestatic 55, 3) := by decide +kernel
theorem dX9_passDigits_64 : decode cX9_passDigits 64 = .ok (.putfield 19, 3) := by decide +kernel
theorem dX9_passDigits_67 : decode cX9_passDigits 67 = .ok (.aload_n 0, 1) := by decide +kernel
theorem dX9_passDigits_68 : decode cX9_passDigits 68 = .ok (.dup, 1) := by decide +kernel
theorem dX9_passDigits_69 : decode cX9_passDigits 69 = .ok (.getfield 16, 3) := by decide +kernel
theorem dX9_passDigits_72 : decode cX9_passDigits 72 = .ok (.iconst 1, 1) := by decide +kernel
theorem dX9_passDigits_73 : decode cX9_passDigits 73 = .ok (.iadd, 1) := by decide +kernel
theorem dX9_passDigits_74 : decode cX9_passDigits 74 = .ok (.putfield 16, 3) := by decide +kernel
theorem dX9_passDigits_77 : decode cX9_passDigits 77 = .ok (.goto (-72), 3) := by decide +kernel
theorem dX9_passDigits_80 : decode cX9_passDigits 80 = .ok (.return_, 1) := by decide +kernel
theorem dX9_isWord_0 : decode cX9_isWord 0 = .ok (.aload_n 0, 1) := by decide +kernel
theorem dX9_isWord_1 : decode cX9_isWord 1 = .ok (.getfield 9, 3) := by decide +kernel
theorem dX9_isWord_4 : decode cX9_isWord 4 = .ok (.iconst 1, 1) := by decide +kernel
theorem dX9_isWord_5 : decode cX9_isWord 5 = .ok (.if_icmp .ne 19, 3) := by decide +kernel
theorem dX9_isWord_8 : decode cX9_isWord 8 = .ok (.aload_n 0, 1) := by decide +kernel
theorem dX9_isWord_9 : decode cX9_isWord 9 = .ok (.getfield 16, 3) := by decide +kernel
theorem dX9_isWord_12 : decode cX9_isWord 12 = .ok (.aload_n 0, 1) := by decide +kernel
theorem dX9_isWord_13 : decode cX9_isWord 13 = .ok (.getfield 13, 3) := by decide +kernel
theorem dX9_isWord_16 : decode cX9_isWord 16 = .ok (.isub, 1) := by decide +kernel
theorem dX9_isWord_17 : decode cX9_isWord 17 = .ok (.aload_n 1, 1) := by decide +kernel
theorem dX9_isWord_18 : decode cX9_isWord 18 = .ok (.invokevirtual 61, 3) := by decide +kernel
theorem dX9_isWord_21 : decode cX9_isWord 21 = .ok (.if_icmp .eq 5, 3) := by decide +kernel
theorem dX9_isWord_24 : decode cX9_isWord 24 = .ok (.iconst 0, 1) := by decide +kernel
theorem dX9_isWord_25 : decode cX9_isWord 25 = .ok (.ireturn, 1) := by decide +kernel
theorem dX9_isWord_26 : decode cX9_isWord 26 = .ok (.iconst 0, 1) := by decide +kernel
theorem dX9_isWord_27 : decode cX9_isWord 27 = .ok (.istore_n 2, 1) := by decide +kernel
theorem dX9_isWord_28 : decode cX9_isWord 28 = .ok (.iload_n 2, 1) := by decide +kernel
theorem dX9_isWord_29 : decode cX9_isWord 29 = .ok (.aload_n 1, 1) := by decide +kernel
theorem dX9_isWord_30 : decode cX9_isWord 30 = .ok (.invokevirtual 61, 3) := by decide +kernel
theorem dX9_isWord_33 : decode cX9_isWord 33 = .ok (.if_icmp .ge 32, 3) := by decide +kernel
theorem dX9_isWord_36 : decode cX9_isWord 36 = .ok (.aload_n 1, 1) := by decide +kernel
theorem dX9_isWord_37 : decode cX9_isWord 37 = .ok (.iload_n 2, 1) := by decide +kernel
theorem dX9_isWord_38 : decode cX9_isWord 38 = .ok (.invokevirtual 66, 3) := by decide +kernel
theorem dX9_isWord_41 : decode cX9_isWord 41 = .ok (.aload_n 0, 1) := by decide +kernel
theorem dX9_isWord_42 : decode cX9_isWord 42 = .ok (.getfield 22, 3) := by decide +kernel
theorem dX9_isWord_45 : decode cX9_isWord 45 = .ok (.aload_n 0, 1) := by decide +kernel
theorem dX9_isWord_46 : decode cX9_isWord 46 = .ok (.getfield 13, 3) := by decide +kernel
theorem dX9_isWord_49 : decode cX9_isWord 49 = .ok (.iload_n 2, 1) := by decide +kernel
theorem dX9_isWord_50 : decode cX9_isWord 50 = .ok (.iadd, 1) := by decide +kernel
theorem dX9_isWord_51 : decode cX9_isWord 51 = .ok (.invokevirtual 34, 3) := by decide +kernel
theorem dX9_isWord_54 : decode cX9_isWord 54 = .ok (.if_icmp .eq 5, 3) := by decide +kernel
theorem dX9_isWord_57 : decode cX9_isWord 57 = .ok (.iconst 0, 1) := by decide +kernel
theorem dX9_isWord_58 : decode cX9_isWord 58 = .ok (.ireturn, 1) := by decide +kernel
theorem dX9_isWord_59 : decode cX9_isWord 59 = .ok (.iinc 2 1, 3) := by decide +kernel
theorem dX9_isWord_62 : decode cX9_isWord 62 = .ok (.goto (-34), 3) := by decide +kernel
theorem dX9_isWord_65 : decode cX9_isWord 65 = .ok (.iconst 1, 1) := by decide +kernel
theorem dX9_isWord_66 : decode cX9_isWord 66 = .ok (.ireturn, 1) := by decide +kernel
theorem dX9_isSemicolon_0 : decode cX9_isSemicolon 0 = .ok (.aload_n 0, 1) := by decide +kernel
theorem dX9_isSemicolon_1 : decode cX9_isSemicolon 1 = .ok (.getfield 9, 3) := by decide +kernel
theorem dX9_isSemicolon_4 : decode cX9_isSemicolon 4 = .ok (.iconst 3, 1) := by decide +kernel
theorem dX9_isSemicolon_5 : decode cX9_isSemicolon 5 = .ok (.if_icmp .ne 23, 3) := by decide +kernel
theorem dX9_isSemicolon_8 : decode cX9_isSemicolon 8 = .ok (.aload_n 0, 1) := by decide +kernel
theorem dX9_isSemicolon_9 : decode cX9_isSemicolon 9 = .ok (.getfield 22, 3) := by decide +kernel
theorem dX9_isSemicolon_12 : decode cX9_isSemicolon 12 = .ok (.aload_n 0, 1) := by decide +kernel
theorem dX9_isSemicolon_13 : decode cX9_isSemicolon 13 = .ok (.getfield 13, 3) := by decide +kernel
theorem dX9_isSemicolon_16 : decode cX9_isSemicolon 16 = .ok (.invokevirtual 34, 3) := by decide +kernel
theorem dX9_isSemicolon_19 : decode cX9_isSemicolon 19 = .ok (.bipush 59, 2) := by decide +kernel
theorem dX9_isSemicolon_21 : decode cX9_isSemicolon 21 = .ok (.if_icmp .ne 7, 3) := by decide +kernel
theorem dX9_isSemicolon_24 : decode cX9_isSemicolon 24 = .ok (.iconst 1, 1) := by decide +kernel
theorem dX9_isSemicolon_25 : decode cX9_isSemicolon 25 = .ok (.goto 4, 3) := by decide +kernel
theorem dX9_isSemicolon_28 : decode cX9_isSemicolon 28 = .ok (.iconst 0, 1) := by decide +kernel
theorem dX9_isSemicolon_29 : decode cX9_isSemicolon 29 = .ok (.ireturn, 1) := by decide +kernel
theorem dX9_isBlank_0 : decode cX9_isBlank 0 = .ok (.iload_n 0, 1) := by decide +kernel
theorem dX9_isBlank_1 : decode cX9_isBlank 1 = .ok (.bipush 32, 2) := by decide +kernel
theorem dX9_isBlank_3 : decode cX9_isBlank 3 = .ok (.if_icmp .eq 9, 3) := by decide +kernel
theorem dX9_isBlank_6 : decode cX9_isBlank 6 = .ok (.iload_n 0, 1) := by decide +kernel
theorem dX9_isBlank_7 : decode cX9_isBlank 7 = .ok (.bipush 10, 2) := by decide +kernel
theorem dX9_isBlank_9 : decode cX9_isBlank 9 = .ok (.if_icmp .ne 7, 3) := by decide +kernel
theorem dX9_isBlank_12 : decode cX9_isBlank 12 = .ok (.iconst 1, 1) := by decide +kernel
theorem dX9_isBlank_13 : decode cX9_isBlank 13 = .ok (.goto 4, 3) := by decide +kernel
theorem dX9_isBlank_16 : decode cX9_isBlank 16 = .ok (.iconst 0, 1) := by decide +kernel
theorem dX9_isBlank_17 : decode cX9_isBlank 17 = .ok (.ireturn, 1) := by decide +kernel
theorem dX9_isLetter_0 : decode cX9_isLetter 0 = .ok (.iload_n 0, 1) := by decide +kernel
theorem dX9_isLetter_1 : decode cX9_isLetter 1 = .ok (.bipush 97, 2) := by decide +kernel
theorem dX9_isLetter_3 : decode cX9_isLetter 3 = .ok (.if_icmp .lt 13, 3) := by decide +kernel
theorem dX9_isLetter_6 : decode cX9_isLetter 6 = .ok (.iload_n 0, 1) := by decide +kernel
theorem dX9_isLetter_7 : decode cX9_isLetter 7 = .ok (.bipush 122, 2) := by decide +kernel
theorem dX9_isLetter_9 : decode cX9_isLetter 9 = .ok (.if_icmp .gt 7, 3) := by decide +kernel
theorem dX9_isLetter_12 : decode cX9_isLetter 12 = .ok (.iconst 1, 1) := by decide +kernel
theorem dX9_isLetter_13 : decode cX9_isLetter 13 = .ok (.goto 4, 3) := by decide +kernel
theorem dX9_isLetter_16 : decode cX9_isLetter 16 = .ok (.iconst 0, 1) := by decide +kernel
theorem dX9_isLetter_17 : decode cX9_isLetter 17 = .ok (.ireturn, 1) := by decide +kernel
theorem dX9_isDigit_0 : decode cX9_isDigit 0 = .ok (.iload_n 0, 1) := by decide +kernel
theorem dX9_isDigit_1 : decode cX9_isDigit 1 = .ok (.bipush 48, 2) := by decide +kernel
theorem dX9_isDigit_3 : decode cX9_isDigit 3 = .ok (.if_icmp .lt 13, 3) := by decide +kernel
theorem dX9_isDigit_6 : decode cX9_isDigit 6 = .ok (.iload_n 0, 1) := by decide +kernel
theorem dX9_isDigit_7 : decode cX9_isDigit 7 = .ok (.bipush 57, 2) := by decide +kernel
theorem dX9_isDigit_9 : decode cX9_isDigit 9 = .ok (.if_icmp .gt 7, 3) := by decide +kernel
theorem dX9_isDigit_12 : decode cX9_isDigit 12 = .ok (.iconst 1, 1) := by decide +kernel
theorem dX9_isDigit_13 : decode cX9_isDigit 13 = .ok (.goto 4, 3) := by decide +kernel
theorem dX9_isDigit_16 : decode cX9_isDigit 16 = .ok (.iconst 0, 1) := by decide +kernel
theorem dX9_isDigit_17 : decode cX9_isDigit 17 = .ok (.ireturn, 1) := by decide +kernel
theorem dX10_init_0 : decode cX10_init 0 = .ok (.aload_n 0, 1) := by decide +kernel
theorem dX10_init_1 : decode cX10_init 1 = .ok (.invokespecial 3, 3) := by decide +kernel
theorem dX10_init_4 : decode cX10_init 4 = .ok (.aload_n 0, 1) := by decide +kernel
theorem dX10_init_5 : decode cX10_init 5 = .ok (.new 9, 3) := by decide +kernel
theorem dX10_init_8 : decode cX10_init 8 = .ok (.dup, 1) := by decide +kernel
theorem dX10_init_9 : decode cX10_init 9 = .ok (.invokespecial 11, 3) := by decide +kernel
theorem dX10_init_12 : decode cX10_init 12 = .ok (.putfield 12, 3) := by decide +kernel
theorem dX10_init_15 : decode cX10_init 15 = .ok (.aload_n 0, 1) := by decide +kernel
theorem dX10_init_16 : decode cX10_init 16 = .ok (.new 16, 3) := by decide +kernel
theorem dX10_init_19 : decode cX10_init 19 = .ok (.dup, 1) := by decide +kernel
theorem dX10_init_20 : decode cX10_init 20 = .ok (.invokespecial 18, 3) := by decide +kernel
theorem dX10_init_23 : decode cX10_init 23 = .ok (.putfield 19, 3) := by decide +kernel
theorem dX10_init_26 : decode cX10_init 26 = .ok (.aload_n 0, 1) := by decide +kernel
theorem dX10_init_27 : decode cX10_init 27 = .ok (.new 23, 3) := by decide +kernel
theorem dX10_init_30 : decode cX10_init 30 = .ok (.dup, 1) := by decide +kernel
theorem dX10_init_31 : decode cX10_init 31 = .ok (.invokespecial 25, 3) := by decide +kernel
theorem dX10_init_34 : decode cX10_init 34 = .ok (.putfield 26, 3) := by decide +kernel
theorem dX10_init_37 : decode cX10_init 37 = .ok (.aload_n 0, 1) := by decide +kernel
theorem dX10_init_38 : decode cX10_init 38 = .ok (.new 30, 3) := by decide +kernel
theorem dX10_init_41 : decode cX10_init 41 = .ok (.dup, 1) := by decide +kernel
theorem dX10_init_42 : decode cX10_init 42 = .ok (.invokespecial 32, 3) := by decide +kernel
theorem dX10_init_45 : decode cX10_init 45 = .ok (.putfield 33, 3) := by decide +kernel
theorem dX10_init_48 : decode cX10_init 48 = .ok (.aload_n 0, 1) := by decide +kernel
theorem dX10_init_49 : decode cX10_init 49 = .ok (.iconst 2, 1) := by decide +kernel
theorem dX10_init_50 : decode cX10_init 50 = .ok (.anewarray 16, 3) := by decide +kernel
theorem dX10_init_53 : decode cX10_init 53 = .ok (.putfield 37, 3) := by decide +kernel
theorem dX10_init_56 : decode cX10_init 56 = .ok (.aload_n 0, 1) := by decide +kernel
theorem dX10_init_57 : decode cX10_init 57 = .ok (.iconst 2, 1) := by decide +kernel
theorem dX10_init_58 : decode cX10_init 58 = .ok (.newarray .int, 2) := by decide +kernel
theorem dX10_init_60 : decode cX10_init 60 = .ok (.putfield 41, 3) := by decide +kernel
theorem dX10_init_63 : decode cX10_init 63 = .ok (.new 9, 3) := by decide +kernel
theorem dX10_init_66 : decode cX10_init 66 = .ok (.dup, 1) := by decide +kernel
theorem dX10_init_67 : decode cX10_init 67 = .ok (.invokespecial 11, 3) := by decide +kernel
theorem dX10_init_70 : decode cX10_init 70 = .ok (.astore_n 1, 1) := by decide +kernel
theorem dX10_init_71 : decode cX10_init 71 = .ok (.new 45, 3) := by decide +kernel
theorem dX10_init_74 : decode cX10_init 74 = .ok (.dup, 1) := by decide +kernel
theorem dX10_init_75 : decode cX10_init 75 = .ok (.aload_n 1, 1) := by decide +kernel
theorem dX10_init_76 : decode cX10_init 76 = .ok (.invokespecial 47, 3) := by decide +kernel
theorem dX10_init_79 : decode cX10_init 79 = .ok (.astore_n 2, 1) := by decide +kernel
theorem dX10_init_80 : decode cX10_init 80 = .ok (.aload_n 1, 1) := by decide +kernel
theorem dX10_init_81 : decode cX10_init 81 = .ok (.ldc 50, 2) := by decide +kernel
theorem dX10_init_83 : decode cX10_init 83 = .ok (.invokevirtual 52, 3) := by decide +kernel
theorem dX10_init_86 : decode cX10_init 86 = .ok (.aload_n 2, 1) := by decide +kernel
theorem dX10_init_87 : decode cX10_init 87 = .ok (.invokevirtual 56, 3) := by decide +kernel
theorem dX10_init_90 : decode cX10_init 90 = .ok (.pop, 1) := by decide +kernel
theorem dX10_init_91 : decode cX10_init 91 = .ok (.aload_n 1, 1) := by decide +kernel
theorem dX10_init_92 : decode cX10_init 92 = .ok (.iconst 0, 1) := by decide +kernel
theorem dX10_init_93 : decode cX10_init 93 = .ok (.invokevirtual 60, 3) := by decide +kernel
theorem dX10_init_96 : decode cX10_init 96 = .ok (.aload_n 0, 1) := by decide +kernel
theorem dX10_init_97 : decode cX10_init 97 = .ok (.aload_n 1, 1) := by decide +kernel
theorem dX10_init_98 : decode cX10_init 98 = .ok (.putfield 64, 3) := by decide +kernel
theorem dX10_init_101 : decode cX10_init 101 = .ok (.aload_n 0, 1) := by decide +kernel
theorem dX10_init_102 : decode cX10_init 102 = .ok (.aload_n 2, 1) := by decide +kernel
theorem dX10_init_103 : decode cX10_init 103 = .ok (.putfield 67, 3) := by decide +kernel
theorem dX10_init_106 : decode cX10_init 106 = .ok (.aload_n 0, 1) := by decide +kernel
theorem dX10_init_107 : decode cX10_init 107 = .ok (.getfield 19, 3) := by decide +kernel
theorem dX10_init_110 : decode cX10_init 110 = .ok (.aload_n 2, 1) := by decide +kernel
theorem dX10_init_111 : decode cX10_init 111 = .ok (.getfield 71, 3) := by decide +kernel
theorem dX10_init_114 : decode cX10_init 114 = .ok (.invokevirtual 74, 3) := by decide +kernel
theorem dX10_init_117 : decode cX10_init 117 = .ok (.iconst 0, 1) := by decide +kernel
theorem dX10_init_118 : decode cX10_init 118 = .ok (.istore_n 3, 1) := by decide +kernel
theorem dX10_init_119 : decode cX10_init 119 = .ok (.iload_n 3, 1) := by decide +kernel
theorem dX10_init_120 : decode cX10_init 120 = .ok (.aload_n 0, 1) := by decide +kernel
theorem dX10_init_121 : decode cX10_init 121 = .ok (.getfield 37, 3) := by decide +kernel
theorem dX10_init_124 : decode cX10_init 124 = .ok (.arraylength, 1) := by decide +kernel
theorem dX10_init_125 : decode cX10_init 125 = .ok (.if_icmp .ge 22, 3) := by decide +kernel
theorem dX10_init_128 : decode cX10_init 128 = .ok (.aload_n 0, 1) := by decide +kernel
theorem dX10_init_129 : decode cX10_init 129 = .ok (.getfield 37, 3) := by decide +kernel
theorem dX10_init_132 : decode cX10_init 132 = .ok (.iload_n 3, 1) := by decide +kernel
theorem dX10_init_133 : decode cX10_init 133 = .ok (.new 16, 3) := by decide +kernel
theorem dX10_init_136 : decode cX10_init 136 = .ok (.dup, 1) := by decide +kernel
theorem dX10_init_137 : decode cX10_init 137 = .ok (.invokespecial 18, 3) := by decide +kernel
theorem dX10_init_140 : decode cX10_init 140 = .ok (.aastore, 1) := by decide +kernel
theorem dX10_init_141 : decode cX10_init 141 = .ok (.iinc 3 1, 3) := by decide +kernel
theorem dX10_init_144 : decode cX10_init 144 = .ok (.goto (-25), 3) := by decide +kernel
theorem dX10_init_147 : decode cX10_init 147 = .ok (.return_, 1) := by decide +kernel
theorem dX10_appendInput_0 : decode cX10_appendInput 0 = .ok (.aload_n 0, 1) := by decide +kernel
theorem dX10_appendInput_1 : decode cX10_appendInput 1 = .ok (.getfield 64, 3) := by decide +kernel
theorem dX10_appendInput_4 : decode cX10_appendInput 4 = .ok (.getfield 78, 3) := by decide +kernel
theorem dX10_appendInput_7 : decode cX10_appendInput 7 = .ok (.bipush 20, 2) := by decide +kernel
theorem dX10_appendInput_9 : decode cX10_appendInput 9 = .ok (.iadd, 1) := by decide +kernel
theorem dX10_appendInput_10 : decode cX10_appendInput 10 = .ok (.sipush 600, 3) := by decide +kernel
theorem dX10_appendInput_13 : decode cX10_appendInput 13 = .ok (.if_icmp .le 13, 3) := by decide +kernel
theorem dX10_appendInput_16 : decode cX10_appendInput 16 = .ok (.new 82, 3) := by decide +kernel
theorem dX10_appendInput_19 : decode cX10_appendInput 19 = .ok (.dup, 1) := by decide +kernel
theorem dX10_appendInput_20 : decode cX10_appendInput 20 = .ok (.ldc 84, 2) := by decide +kernel
theorem dX10_appendInput_22 : decode cX10_appendInput 22 = .ok (.invokespecial 86, 3) := by decide +kernel
theorem dX10_appendInput_25 : decode cX10_appendInput 25 = .ok (.athrow, 1) := by decide +kernel
theorem dX10_appendInput_26 : decode cX10_appendInput 26 = .ok (.aload_n 0, 1) := by decide +kernel
theorem dX10_appendInput_27 : decode cX10_appendInput 27 = .ok (.getfield 64, 3) := by decide +kernel
theorem dX10_appendInput_30 : decode cX10_appendInput 30 = .ok (.iload_n 1, 1) := by decide +kernel
theorem dX10_appendInput_31 : decode cX10_appendInput 31 = .ok (.invokevirtual 88, 3) := by decide +kernel
theorem dX10_appendInput_34 : decode cX10_appendInput 34 = .ok (.aload_n 0, 1) := by decide +kernel
theorem dX10_appendInput_35 : decode cX10_appendInput 35 = .ok (.getfield 64, 3) := by decide +kernel
theorem dX10_appendInput_38 : decode cX10_appendInput 38 = .ok (.iload_n 2, 1) := by decide +kernel
theorem dX10_appendInput_39 : decode cX10_appendInput 39 = .ok (.invokevirtual 88, 3) := by decide +kernel
theorem dX10_appendInput_42 : decode cX10_appendInput 42 = .ok (.aload_n 0, 1) := by decide +kernel
theorem dX10_appendInput_43 : decode cX10_appendInput 43 = .ok (.getfield 64, 3) := by decide +kernel
theorem dX10_appendInput_46 : decode cX10_appendInput 46 = .ok (.iload_n 3, 1) := by decide +kernel
theorem dX10_appendInput_47 : decode cX10_appendInput 47 = .ok (.invokevirtual 88, 3) := by decide +kernel
theorem dX10_appendInput_50 : decode cX10_appendInput 50 = .ok (.aload_n 0, 1) := by decide +kernel
theorem dX10_appendInput_51 : decode cX10_appendInput 51 = .ok (.getfield 64, 3) := by decide +kernel
theorem dX10_appendInput_54 : decode cX10_appendInput 54 = .ok (.iload 4, 2) := by decide +kernel
theorem dX10_appendInput_56 : decode cX10_appendInput 56 = .ok (.invokevirtual 88, 3) := by decide +kernel
theorem dX10_appendInput_59 : decode cX10_appendInput 59 = .ok (.aload_n 0, 1) := by decide +kernel
theorem dX10_appendInput_60 : decode cX10_appendInput 60 = .ok (.getfield 64, 3) := by decide +kernel
theorem dX10_appendInput_63 : decode cX10_appendInput 63 = .ok (.iload 5, 2) := by decide +kernel
theorem dX10_appendInput_65 : decode cX10_appendInput 65 = .ok (.invokevirtual 88, 3) := by decide +kernel
theorem dX10_appendInput_68 : decode cX10_appendInput 68 = .ok (.aload_n 0, 1) := by decide +kernel
theorem dX10_appendInput_69 : decode cX10_appendInput 69 = .ok (.getfield 64, 3) := by decide +kernel
theorem dX10_appendInput_72 : decode cX10_appendInput 72 = .ok (.getfield 78, 3) := by decide +kernel
theorem dX10_appendInput_75 : decode cX10_appendInput 75 = .ok (.ireturn, 1) := by decide +kernel
theorem dX10_truncateInput_0 : decode cX10_truncateInput 0 = .ok (.iload_n 1, 1) := by decide +kernel
theorem dX10_truncateInput_1 : decode cX10_truncateInput 1 = .ok (.iconst 0, 1) := by decide +kernel
theorem dX10_truncateInput_2 : decode cX10_truncateInput 2 = .ok (.aload_n 0, 1) := by decide +kernel
theorem dX10_truncateInput_3 : decode cX10_truncateInput 3 = .ok (.getfield 64, 3) := by decide +kernel
theorem dX10_truncateInput_6 : decode cX10_truncateInput 6 = .ok (.getfield 78, 3) := by decide +kernel
theorem dX10_truncateInput_9 : decode cX10_truncateInput 9 = .ok (.invokestatic 91, 3) := by decide +kernel
theorem dX10_truncateInput_12 : decode cX10_truncateInput 12 = .ok (.aload_n 0, 1) := by decide +kernel
theorem dX10_truncateInput_13 : decode cX10_truncateInput 13 = .ok (.getfield 64, 3) := by decide +kernel
theorem dX10_truncateInput_16 : decode cX10_truncateInput 16 = .ok (.iload_n 1, 1) := by decide +kernel
theorem dX10_truncateInput_17 : decode cX10_truncateInput 17 = .ok (.invokevirtual 60, 3) := by decide +kernel
theorem dX10_truncateInput_20 : decode cX10_truncateInput 20 = .ok (.aload_n 0, 1) := by decide +kernel
theorem dX10_truncateInput_21 : decode cX10_truncateInput 21 = .ok (.getfield 64, 3) := by decide +kernel
theorem dX10_truncateInput_24 : decode cX10_truncateInput 24 = .ok (.getfield 78, 3) := by decide +kernel
theorem dX10_truncateInput_27 : decode cX10_truncateInput 27 = .ok (.ireturn, 1) := by decide +kernel
theorem dX10_load_0 : decode cX10_load 0 = .ok (.aload_n 0, 1) := by decide +kernel
theorem dX10_load_1 : decode cX10_load 1 = .ok (.getfield 67, 3) := by decide +kernel
theorem dX10_load_4 : decode cX10_load 4 = .ok (.invokevirtual 56, 3) := by decide +kernel
theorem dX10_load_7 : decode cX10_load 7 = .ok (.istore_n 1, 1) := by decide +kernel
theorem dX10_load_8 : decode cX10_load 8 = .ok (.aload_n 0, 1) := by decide +kernel
theorem dX10_load_9 : decode cX10_load 9 = .ok (.getfield 64, 3) := by decide +kernel
theorem dX10_load_12 : decode cX10_load 12 = .ok (.iconst 0, 1) := by decide +kernel
theorem dX10_load_13 : decode cX10_load 13 = .ok (.invokevirtual 60, 3) := by decide +kernel
theorem dX10_load_16 : decode cX10_load 16 = .ok (.iload_n 1, 1) := by decide +kernel
theorem dX10_load_17 : decode cX10_load 17 = .ok (.ifCond .ne 13, 3) := by decide +kernel
theorem dX10_load_20 : decode cX10_load 20 = .ok (.new 95, 3) := by decide +kernel
theorem dX10_load_23 : decode cX10_load 23 = .ok (.dup, 1) := by decide +kernel
theorem dX10_load_24 : decode cX10_load 24 = .ok (.ldc 97, 2) := by decide +kernel
theorem dX10_load_26 : decode cX10_load 26 = .ok (.invokespecial 99, 3) := by decide +kernel
theorem dX10_load_29 : decode cX10_load 29 = .ok (.athrow, 1) := by decide +kernel
theorem dX10_load_30 : decode cX10_load 30 = .ok (.aload_n 0, 1) := by decide +kernel
theorem dX10_load_31 : decode cX10_load 31 = .ok (.getfield 33, 3) := by decide +kernel
theorem dX10_load_34 : decode cX10_load 34 = .ok (.aload_n 0, 1) := by decide +kernel
theorem dX10_load_35 : decode cX10_load 35 = .ok (.getfield 19, 3) := by decide +kernel
theorem dX10_load_38 : decode cX10_load 38 = .ok (.invokevirtual 100, 3) := by decide +kernel
theorem dX10_load_41 : decode cX10_load 41 = .ok (.aload_n 0, 1) := by decide +kernel
theorem dX10_load_42 : decode cX10_load 42 = .ok (.getfield 19, 3) := by decide +kernel
theorem dX10_load_45 : decode cX10_load 45 = .ok (.aload_n 0, 1) := by decide +kernel
theorem dX10_load_46 : decode cX10_load 46 = .ok (.getfield 67, 3) := by decide +kernel
theorem dX10_load_49 : decode cX10_load 49 = .ok (.getfield 71, 3) := by decide +kernel
theorem dX10_load_52 : decode cX10_load 52 = .ok (.invokevirtual 74, 3) := by decide +kernel
theorem dX10_load_55 : decode cX10_load 55 = .ok (.aload_n 0, 1) := by decide +kernel
theorem dX10_load_56 : decode cX10_load 56 = .ok (.getfield 19, 3) := by decide +kernel
theorem dX10_load_59 : decode cX10_load 59 = .ok (.getfield 103, 3) := by decide +kernel
theorem dX10_load_62 : decode cX10_load 62 = .ok (.getfield 107, 3) := by decide +kernel
theorem dX10_load_65 : decode cX10_load 65 = .ok (.ireturn, 1) := by decide +kernel
theorem dX10_errorCode_0 : decode cX10_errorCode 0 = .ok (.aload_n 0, 1) := by decide +kernel
theorem dX10_errorCode_1 : decode cX10_errorCode 1 = .ok (.getfield 67, 3) := by decide +kernel
theorem dX10_errorCode_4 : decode cX10_errorCode 4 = .ok (.getfield 112, 3) := by decide +kernel
theorem dX10_errorCode_7 : decode cX10_errorCode 7 = .ok (.ireturn, 1) := by decide +kernel
theorem dX10_seed_0 : decode cX10_seed 0 = .ok (.aload_n 0, 1) := by decide +kernel
theorem dX10_seed_1 : decode cX10_seed 1 = .ok (.getfield 19, 3) := by decide +kernel
theorem dX10_seed_4 : decode cX10_seed 4 = .ok (.getfield 118, 3) := by decide +kernel
theorem dX10_seed_7 : decode cX10_seed 7 = .ok (.ireturn, 1) := by decide +kernel
theorem dX10_minimum_0 : decode cX10_minimum 0 = .ok (.aload_n 0, 1) := by decide +kernel
theorem dX10_minimum_1 : decode cX10_minimum 1 = .ok (.getfield 19, 3) := by decide +kernel
theorem dX10_minimum_4 : decode cX10_minimum 4 = .ok (.getfield 121, 3) := by decide +kernel
theorem dX10_minimum_7 : decode cX10_minimum 7 = .ok (.ireturn, 1) := by decide +kernel
theorem dX10_threshold_0 : decode cX10_threshold 0 = .ok (.aload_n 0, 1) := by decide +kernel
theorem dX10_threshold_1 : decode cX10_threshold 1 = .ok (.getfield 19, 3) := by decide +kernel
theorem dX10_threshold_4 : decode cX10_threshold 4 = .ok (.getfield 124, 3) := by decide +kernel
theorem dX10_threshold_7 : decode cX10_threshold 7 = .ok (.ireturn, 1) := by decide +kernel
theorem dX10_dieCount_0 : decode cX10_dieCount 0 = .ok (.aload_n 0, 1) := by decide +kernel
theorem dX10_dieCount_1 : decode cX10_dieCount 1 = .ok (.getfield 19, 3) := by decide +kernel
theorem dX10_dieCount_4 : decode cX10_dieCount 4 = .ok (.getfield 127, 3) := by decide +kernel
theorem dX10_dieCount_7 : decode cX10_dieCount 7 = .ok (.getfield 131, 3) := by decide +kernel
theorem dX10_dieCount_10 : decode cX10_dieCount 10 = .ok (.ireturn, 1) := by decide +kernel
theorem dX10_throwCount_0 : decode cX10_throwCount 0 = .ok (.aload_n 0, 1) := by decide +kernel
theorem dX10_throwCount_1 : decode cX10_throwCount 1 = .ok (.getfield 19, 3) := by decide +kernel
theorem dX10_throwCount_4 : decode cX10_throwCount 4 = .ok (.getfield 103, 3) := by decide +kernel
theorem dX10_throwCount_7 : decode cX10_throwCount 7 = .ok (.getfield 107, 3) := by decide +kernel
theorem dX10_throwCount_10 : decode cX10_throwCount 10 = .ok (.ireturn, 1) := by decide +kernel
theorem dX10_faces_0 : decode cX10_faces 0 = .ok (.aload_n 0, 1) := by decide +kernel
theorem dX10_faces_1 : decode cX10_faces 1 = .ok (.iload_n 1, 1) := by decide +kernel
theorem dX10_faces_2 : decode cX10_faces 2 = .ok (.invokevirtual 141, 3) := by decide +kernel
theorem dX10_faces_5 : decode cX10_faces 5 = .ok (.aload_n 0, 1) := by decide +kernel
theorem dX10_faces_6 : decode cX10_faces 6 = .ok (.getfield 19, 3) := by decide +kernel
theorem dX10_faces_9 : decode cX10_faces 9 = .ok (.getfield 127, 3) := by decide +kernel
theorem dX10_faces_12 : decode cX10_faces 12 = .ok (.iload_n 1, 1) := by decide +kernel
theorem dX10_faces_13 : decode cX10_faces 13 = .ok (.invokevirtual 144, 3) := by decide +kernel
theorem dX10_faces_16 : decode cX10_faces 16 = .ok (.ireturn, 1) := by decide +kernel
theorem dX10_weightOf_0 : decode cX10_weightOf 0 = .ok (.aload_n 0, 1) := by decide +kernel
theorem dX10_weightOf_1 : decode cX10_weightOf 1 = .ok (.iload_n 1, 1) := by decide +kernel
theorem dX10_weightOf_2 : decode cX10_weightOf 2 = .ok (.invokevirtual 141, 3) := by decide +kernel
theorem dX10_weightOf_5 : decode cX10_weightOf 5 = .ok (.aload_n 0, 1) := by decide +kernel
theorem dX10_weightOf_6 : decode cX10_weightOf 6 = .ok (.iload_n 1, 1) := by decide +kernel
theorem dX10_weightOf_7 : decode cX10_weightOf 7 = .ok (.iload_n 2, 1) := by decide +kernel
theorem dX10_weightOf_8 : decode cX10_weightOf 8 = .ok (.invokevirtual 148, 3) := by decide +kernel
theorem dX10_weightOf_11 : decode cX10_weightOf 11 = .ok (.aload_n 0, 1) := by decide +kernel
theorem dX10_weightOf_12 : decode cX10_weightOf 12 = .ok (.getfield 19, 3) := by decide +kernel
theorem dX10_weightOf_15 : decode cX10_weightOf 15 = .ok (.getfield 127, 3) := by decide +kernel
theorem dX10_weightOf_18 : decode cX10_weightOf 18 = .ok (.iload_n 1, 1) := by decide +kernel
theorem dX10_weightOf_19 : decode cX10_weightOf 19 = .ok (.iload_n 2, 1) := by decide +kernel
theorem dX10_weightOf_20 : decode cX10_weightOf 20 = .ok (.invokevirtual 152, 3) := by decide +kernel
theorem dX10_weightOf_23 : decode cX10_weightOf 23 = .ok (.ireturn, 1) := by decide +kernel
theorem dX10_playerAt_0 : decode cX10_playerAt 0 = .ok (.aload_n 0, 1) := by decide +kernel
theorem dX10_playerAt_1 : decode cX10_playerAt 1 = .ok (.iload_n 1, 1) := by decide +kernel
theorem dX10_playerAt_2 : decode cX10_playerAt 2 = .ok (.invokevirtual 184, 3) := by decide +kernel
theorem dX10_playerAt_5 : decode cX10_playerAt 5 = .ok (.aload_n 0, 1) := by decide +kernel
theorem dX10_playerAt_6 : decode cX10_playerAt 6 = .ok (.getfield 19, 3) := by decide +kernel
theorem dX10_playerAt_9 : decode cX10_playerAt 9 = .ok (.getfield 103, 3) := by decide +kernel
theorem dX10_playerAt_12 : decode cX10_playerAt 12 = .ok (.iload_n 1, 1) := by decide +kernel
theorem dX10_playerAt_13 : decode cX10_playerAt 13 = .ok (.invokevirtual 187, 3) := by decide +kernel
theorem dX10_playerAt_16 : decode cX10_playerAt 16 = .ok (.invokestatic 190, 3) := by decide +kernel
theorem dX10_playerAt_19 : decode cX10_playerAt 19 = .ok (.ireturn, 1) := by decide +kernel
theorem dX10_dieAt_0 : decode cX10_dieAt 0 = .ok (.aload_n 0, 1) := by decide +kernel
theorem dX10_dieAt_1 : decode cX10_dieAt 1 = .ok (.iload_n 1, 1) := by decide +kernel
theorem dX10_dieAt_2 : decode cX10_dieAt 2 = .ok (.invokevirtual 184, 3) := by decide +kernel
theorem dX10_dieAt_5 : decode cX10_dieAt 5 = .ok (.aload_n 0, 1) := by decide +kernel
theorem dX10_dieAt_6 : decode cX10_dieAt 6 = .ok (.getfield 19, 3) := by decide +kernel
theorem dX10_dieAt_9 : decode cX10_dieAt 9 = .ok (.getfield 103, 3) := by decide +kernel
theorem dX10_dieAt_12 : decode cX10_dieAt 12 = .ok (.iload_n 1, 1) := by decide +kernel
theorem dX10_dieAt_13 : decode cX10_dieAt 13 = .ok (.invokevirtual 187, 3) := by decide +kernel
theorem dX10_dieAt_16 : decode cX10_dieAt 16 = .ok (.invokestatic 193, 3) := by decide +kernel
theorem dX10_dieAt_19 : decode cX10_dieAt 19 = .ok (.ireturn, 1) := by decide +kernel
theorem dX10_faceAt_0 : decode cX10_faceAt 0 = .ok (.aload_n 0, 1) := by decide +kernel
theorem dX10_faceAt_1 : decode cX10_faceAt 1 = .ok (.iload_n 1, 1) := by decide +kernel
theorem dX10_faceAt_2 : decode cX10_faceAt 2 = .ok (.invokevirtual 184, 3) := by decide +kernel
theorem dX10_faceAt_5 : decode cX10_faceAt 5 = .ok (.aload_n 0, 1) := by decide +kernel
theorem dX10_faceAt_6 : decode cX10_faceAt 6 = .ok (.getfield 19, 3) := by decide +kernel
theorem dX10_faceAt_9 : decode cX10_faceAt 9 = .ok (.getfield 103, 3) := by decide +kernel
theorem dX10_faceAt_12 : decode cX10_faceAt 12 = .ok (.iload_n 1, 1) := by decide +kernel
theorem dX10_faceAt_13 : decode cX10_faceAt 13 = .ok (.invokevirtual 196, 3) := by decide +kernel
theorem dX10_faceAt_16 : decode cX10_faceAt 16 = .ok (.ireturn, 1) := by decide +kernel
theorem dX10_isFairAt_0 : decode cX10_isFairAt 0 = .ok (.aload_n 0, 1) := by decide +kernel
theorem dX10_isFairAt_1 : decode cX10_isFairAt 1 = .ok (.iload_n 1, 1) := by decide +kernel
theorem dX10_isFairAt_2 : decode cX10_isFairAt 2 = .ok (.invokevirtual 184, 3) := by decide +kernel
theorem dX10_isFairAt_5 : decode cX10_isFairAt 5 = .ok (.aload_n 0, 1) := by decide +kernel
theorem dX10_isFairAt_6 : decode cX10_isFairAt 6 = .ok (.getfield 19, 3) := by decide +kernel
theorem dX10_isFairAt_9 : decode cX10_isFairAt 9 = .ok (.getfield 103, 3) := by decide +kernel
theorem dX10_isFairAt_12 : decode cX10_isFairAt 12 = .ok (.iload_n 1, 1) := by decide +kernel
theorem dX10_isFairAt_13 : decode cX10_isFairAt 13 = .ok (.invokevirtual 199, 3) := by decide +kernel
theorem dX10_isFairAt_16 : decode cX10_isFairAt 16 = .ok (.ireturn, 1) := by decide +kernel
theorem dX10_throwsOfPair_0 : decode cX10_throwsOfPair 0 = .ok (.aload_n 0, 1) := by decide +kernel
theorem dX10_throwsOfPair_1 : decode cX10_throwsOfPair 1 = .ok (.iload_n 1, 1) := by decide +kernel
theorem dX10_throwsOfPair_2 : decode cX10_throwsOfPair 2 = .ok (.iload_n 2, 1) := by decide +kernel
theorem dX10_throwsOfPair_3 : decode cX10_throwsOfPair 3 = .ok (.invokevirtual 220, 3) := by decide +kernel
theorem dX10_throwsOfPair_6 : decode cX10_throwsOfPair 6 = .ok (.aload_n 0, 1) := by decide +kernel
theorem dX10_throwsOfPair_7 : decode cX10_throwsOfPair 7 = .ok (.getfield 19, 3) := by decide +kernel
theorem dX10_throwsOfPair_10 : decode cX10_throwsOfPair 10 = .ok (.getfield 103, 3) := by decide +kernel
theorem dX10_throwsOfPair_13 : decode cX10_throwsOfPair 13 = .ok (.iload_n 1, 1) := by decide +kernel
theorem dX10_throwsOfPair_14 : decode cX10_throwsOfPair 14 = .ok (.iload_n 2, 1) := by decide +kernel
theorem dX10_throwsOfPair_15 : decode cX10_throwsOfPair 15 = .ok (.invokestatic 223, 3) := by decide +kernel
theorem dX10_throwsOfPair_18 : decode cX10_throwsOfPair 18 = .ok (.invokevirtual 226, 3) := by decide +kernel
theorem dX10_throwsOfPair_21 : decode cX10_throwsOfPair 21 = .ok (.ireturn, 1) := by decide +kernel
theorem dX10_score_0 : decode cX10_score 0 = .ok (.aload_n 0, 1) := by decide +kernel
theorem dX10_score_1 : decode cX10_score 1 = .ok (.iload_n 1, 1) := by decide +kernel
theorem dX10_score_2 : decode cX10_score 2 = .ok (.iload_n 2, 1) := by decide +kernel
theorem dX10_score_3 : decode cX10_score 3 = .ok (.invokevirtual 220, 3) := by decide +kernel
theorem dX10_score_6 : decode cX10_score 6 = .ok (.aload_n 0, 1) := by decide +kernel
theorem dX10_score_7 : decode cX10_score 7 = .ok (.getfield 19, 3) := by decide +kernel
theorem dX10_score_10 : decode cX10_score 10 = .ok (.iload_n 1, 1) := by decide +kernel
theorem dX10_score_11 : decode cX10_score 11 = .ok (.iload_n 2, 1) := by decide +kernel
theorem dX10_score_12 : decode cX10_score 12 = .ok (.invokestatic 223, 3) := by decide +kernel
theorem dX10_score_15 : decode cX10_score 15 = .ok (.invokevirtual 242, 3) := by decide +kernel
theorem dX10_score_18 : decode cX10_score 18 = .ok (.ireturn, 1) := by decide +kernel
theorem dX10_isSuspicious_0 : decode cX10_isSuspicious 0 = .ok (.aload_n 0, 1) := by decide +kernel
theorem dX10_isSuspicious_1 : decode cX10_isSuspicious 1 = .ok (.iload_n 1, 1) := by decide +kernel
theorem dX10_isSuspicious_2 : decode cX10_isSuspicious 2 = .ok (.iload_n 2, 1) := by decide +kernel
theorem dX10_isSuspicious_3 : decode cX10_isSuspicious 3 = .ok (.invokevirtual 220, 3) := by decide +kernel
theorem dX10_isSuspicious_6 : decode cX10_isSuspicious 6 = .ok (.aload_n 0, 1) := by decide +kernel
theorem dX10_isSuspicious_7 : decode cX10_isSuspicious 7 = .ok (.getfield 19, 3) := by decide +kernel
theorem dX10_isSuspicious_10 : decode cX10_isSuspicious 10 = .ok (.iload_n 1, 1) := by decide +kernel
theorem dX10_isSuspicious_11 : decode cX10_isSuspicious 11 = .ok (.iload_n 2, 1) := by decide +kernel
theorem dX10_isSuspicious_12 : decode cX10_isSuspicious 12 = .ok (.invokestatic 223, 3) := by decide +kernel
theorem dX10_isSuspicious_15 : decode cX10_isSuspicious 15 = .ok (.invokevirtual 245, 3) := by decide +kernel
theorem dX10_isSuspicious_18 : decode cX10_isSuspicious 18 = .ok (.ireturn, 1) := by decide +kernel
theorem dX10_offenceCount_0 : decode cX10_offenceCount 0 = .ok (.aload_n 0, 1) := by decide +kernel
theorem dX10_offenceCount_1 : decode cX10_offenceCount 1 = .ok (.getfield 19, 3) := by decide +kernel
theorem dX10_offenceCount_4 : decode cX10_offenceCount 4 = .ok (.getfield 255, 3) := by decide +kernel
theorem dX10_offenceCount_7 : decode cX10_offenceCount 7 = .ok (.getfield 259, 3) := by decide +kernel
theorem dX10_offenceCount_10 : decode cX10_offenceCount 10 = .ok (.ireturn, 1) := by decide +kernel
theorem dX10_offencePlayer_0 : decode cX10_offencePlayer 0 = .ok (.aload_n 0, 1) := by decide +kernel
theorem dX10_offencePlayer_1 : decode cX10_offencePlayer 1 = .ok (.iload_n 1, 1) := by decide +kernel
theorem dX10_offencePlayer_2 : decode cX10_offencePlayer 2 = .ok (.invokevirtual 262, 3) := by decide +kernel
theorem dX10_offencePlayer_5 : decode cX10_offencePlayer 5 = .ok (.aload_n 0, 1) := by decide +kernel
theorem dX10_offencePlayer_6 : decode cX10_offencePlayer 6 = .ok (.getfield 19, 3) := by decide +kernel
theorem dX10_offencePlayer_9 : decode cX10_offencePlayer 9 = .ok (.getfield 255, 3) := by decide +kernel
theorem dX10_offencePlayer_12 : decode cX10_offencePlayer 12 = .ok (.getfield 265, 3) := by decide +kernel
theorem dX10_offencePlayer_15 : decode cX10_offencePlayer 15 = .ok (.iload_n 1, 1) := by decide +kernel
theorem dX10_offencePlayer_16 : decode cX10_offencePlayer 16 = .ok (.invokestatic 232, 3) := by decide +kernel
theorem dX10_offencePlayer_19 : decode cX10_offencePlayer 19 = .ok (.invokestatic 190, 3) := by decide +kernel
theorem dX10_offencePlayer_22 : decode cX10_offencePlayer 22 = .ok (.ireturn, 1) := by decide +kernel
theorem dX10_offenceDie_0 : decode cX10_offenceDie 0 = .ok (.aload_n 0, 1) := by decide +kernel
theorem dX10_offenceDie_1 : decode cX10_offenceDie 1 = .ok (.iload_n 1, 1) := by decide +kernel
theorem dX10_offenceDie_2 : decode cX10_offenceDie 2 = .ok (.invokevirtual 262, 3) := by decide +kernel
theorem dX10_offenceDie_5 : decode cX10_offenceDie 5 = .ok (.aload_n 0, 1) := by decide +kernel
theorem dX10_offenceDie_6 : decode cX10_offenceDie 6 = .ok (.getfield 19, 3) := by decide +kernel
theorem dX10_offenceDie_9 : decode cX10_offenceDie 9 = .ok (.getfield 255, 3) := by decide +kernel
theorem dX10_offenceDie_12 : decode cX10_offenceDie 12 = .ok (.getfield 265, 3) := by decide +kernel
theorem dX10_offenceDie_15 : decode cX10_offenceDie 15 = .ok (.iload_n 1, 1) := by decide +kernel
theorem dX10_offenceDie_16 : decode cX10_offenceDie 16 = .ok (.invokestatic 232, 3) := by decide +kernel
theorem dX10_offenceDie_19 : decode cX10_offenceDie 19 = .ok (.invokestatic 193, 3) := by decide +kernel
theorem dX10_offenceDie_22 : decode cX10_offenceDie 22 = .ok (.ireturn, 1) := by decide +kernel
theorem dX10_offenceScore_0 : decode cX10_offenceScore 0 = .ok (.aload_n 0, 1) := by decide +kernel
theorem dX10_offenceScore_1 : decode cX10_offenceScore 1 = .ok (.iload_n 1, 1) := by decide +kernel
theorem dX10_offenceScore_2 : decode cX10_offenceScore 2 = .ok (.invokevirtual 262, 3) := by decide +kernel
theorem dX10_offenceScore_5 : decode cX10_offenceScore 5 = .ok (.aload_n 0, 1) := by decide +kernel
theorem dX10_offenceScore_6 : decode cX10_offenceScore 6 = .ok (.getfield 19, 3) := by decide +kernel
theorem dX10_offenceScore_9 : decode cX10_offenceScore 9 = .ok (.getfield 255, 3) := by decide +kernel
theorem dX10_offenceScore_12 : decode cX10_offenceScore 12 = .ok (.getfield 268, 3) := by decide +kernel
theorem dX10_offenceScore_15 : decode cX10_offenceScore 15 = .ok (.iload_n 1, 1) := by decide +kernel
theorem dX10_offenceScore_16 : decode cX10_offenceScore 16 = .ok (.invokestatic 232, 3) := by decide +kernel
theorem dX10_offenceScore_19 : decode cX10_offenceScore 19 = .ok (.ireturn, 1) := by decide +kernel
theorem dX10_frequencyDifference_0 : decode cX10_frequencyDifference 0 = .ok (.aload_n 0, 1) := by decide +kernel
theorem dX10_frequencyDifference_1 : decode cX10_frequencyDifference 1 = .ok (.getfield 19, 3) := by decide +kernel
theorem dX10_frequencyDifference_4 : decode cX10_frequencyDifference 4 = .ok (.getfield 103, 3) := by decide +kernel
theorem dX10_frequencyDifference_7 : decode cX10_frequencyDifference 7 = .ok (.invokevirtual 301, 3) := by decide +kernel
theorem dX10_frequencyDifference_10 : decode cX10_frequencyDifference 10 = .ok (.aload_n 0, 1) := by decide +kernel
theorem dX10_frequencyDifference_11 : decode cX10_frequencyDifference 11 = .ok (.getfield 19, 3) := by decide +kernel
theorem dX10_frequencyDifference_14 : decode cX10_frequencyDifference 14 = .ok (.getfield 103, 3) := by decide +kernel
theorem dX10_frequencyDifference_17 : decode cX10_frequencyDifference 17 = .ok (.getfield 107, 3) := by decide +kernel
theorem dX10_frequencyDifference_20 : decode cX10_frequencyDifference 20 = .ok (.isub, 1) := by decide +kernel
theorem dX10_frequencyDifference_21 : decode cX10_frequencyDifference 21 = .ok (.ireturn, 1) := by decide +kernel
theorem dX10_totalDifference_0 : decode cX10_totalDifference 0 = .ok (.iconst 0, 1) := by decide +kernel
theorem dX10_totalDifference_1 : decode cX10_totalDifference 1 = .ok (.istore_n 1, 1) := by decide +kernel
theorem dX10_totalDifference_2 : decode cX10_totalDifference 2 = .ok (.iconst 0, 1) := by decide +kernel
theorem dX10_totalDifference_3 : decode cX10_totalDifference 3 = .ok (.istore_n 2, 1) := by decide +kernel
theorem dX10_totalDifference_4 : decode cX10_totalDifference 4 = .ok (.iload_n 2, 1) := by decide +kernel
theorem dX10_totalDifference_5 : decode cX10_totalDifference 5 = .ok (.aload_n 0, 1) := by decide +kernel
theorem dX10_totalDifference_6 : decode cX10_totalDifference 6 = .ok (.getfield 19, 3) := by decide +kernel
theorem dX10_totalDifference_9 : decode cX10_totalDifference 9 = .ok (.getfield 134, 3) := by decide +kernel
theorem dX10_totalDifference_12 : decode cX10_totalDifference 12 = .ok (.getfield 138, 3) := by decide +kernel
theorem dX10_totalDifference_15 : decode cX10_totalDifference 15 = .ok (.if_icmp .ge 23, 3) := by decide +kernel
theorem dX10_totalDifference_18 : decode cX10_totalDifference 18 = .ok (.iload_n 1, 1) := by decide +kernel
theorem dX10_totalDifference_19 : decode cX10_totalDifference 19 = .ok (.aload_n 0, 1) := by decide +kernel
theorem dX10_totalDifference_20 : decode cX10_totalDifference 20 = .ok (.getfield 19, 3) := by decide +kernel
theorem dX10_totalDifference_23 : decode cX10_totalDifference 23 = .ok (.getfield 103, 3) := by decide +kernel
theorem dX10_totalDifference_26 : decode cX10_totalDifference 26 = .ok (.iload_n 2, 1) := by decide +kernel
theorem dX10_totalDifference_27 : decode cX10_totalDifference 27 = .ok (.invokevirtual 205, 3) := by decide +kernel
theorem dX10_totalDifference_30 : decode cX10_totalDifference 30 = .ok (.iadd, 1) := by decide +kernel
theorem dX10_totalDifference_31 : decode cX10_totalDifference 31 = .ok (.istore_n 1, 1) := by decide +kernel
theorem dX10_totalDifference_32 : decode cX10_totalDifference 32 = .ok (.iinc 2 1, 3) := by decide +kernel
theorem dX10_totalDifference_35 : decode cX10_totalDifference 35 = .ok (.goto (-31), 3) := by decide +kernel
theorem dX10_totalDifference_38 : decode cX10_totalDifference 38 = .ok (.iload_n 1, 1) := by decide +kernel
theorem dX10_totalDifference_39 : decode cX10_totalDifference 39 = .ok (.aload_n 0, 1) := by decide +kernel
theorem dX10_totalDifference_40 : decode cX10_totalDifference 40 = .ok (.getfield 19, 3) := by decide +kernel
theorem dX10_totalDifference_43 : decode cX10_totalDifference 43 = .ok (.getfield 103, 3) := by decide +kernel
theorem dX10_totalDifference_46 : decode cX10_totalDifference 46 = .ok (.invokevirtual 304, 3) := by decide +kernel
theorem dX10_totalDifference_49 : decode cX10_totalDifference 49 = .ok (.isub, 1) := by decide +kernel
theorem dX10_totalDifference_50 : decode cX10_totalDifference 50 = .ok (.ireturn, 1) := by decide +kernel
theorem dX10_throwDie_0 : decode cX10_throwDie 0 = .ok (.aload_n 0, 1) := by decide +kernel
theorem dX10_throwDie_1 : decode cX10_throwDie 1 = .ok (.iload_n 1, 1) := by decide +kernel
theorem dX10_throwDie_2 : decode cX10_throwDie 2 = .ok (.iload_n 2, 1) := by decide +kernel
theorem dX10_throwDie_3 : decode cX10_throwDie 3 = .ok (.invokevirtual 220, 3) := by decide +kernel
theorem dX10_throwDie_6 : decode cX10_throwDie 6 = .ok (.iload_n 3, 1) := by decide +kernel
theorem dX10_throwDie_7 : decode cX10_throwDie 7 = .ok (.iconst 1, 1) := by decide +kernel
theorem dX10_throwDie_8 : decode cX10_throwDie 8 = .ok (.bipush 50, 2) := by decide +kernel
theorem dX10_throwDie_10 : decode cX10_throwDie 10 = .ok (.invokestatic 91, 3) := by decide +kernel
theorem dX10_throwDie_13 : decode cX10_throwDie 13 = .ok (.aload_n 0, 1) := by decide +kernel
theorem dX10_throwDie_14 : decode cX10_throwDie 14 = .ok (.getfield 19, 3) := by decide +kernel
theorem dX10_throwDie_17 : decode cX10_throwDie 17 = .ok (.getfield 103, 3) := by decide +kernel
theorem dX10_throwDie_20 : decode cX10_throwDie 20 = .ok (.getfield 107, 3) := by decide +kernel
theorem dX10_throwDie_23 : decode cX10_throwDie 23 = .ok (.iload_n 3, 1) := by decide +kernel
theorem dX10_throwDie_24 : decode cX10_throwDie 24 = .ok (.iadd, 1) := by decide +kernel
theorem dX10_throwDie_25 : decode cX10_throwDie 25 = .ok (.sipush 300, 3) := by decide +kernel
theorem dX10_throwDie_28 : decode cX10_throwDie 28 = .ok (.if_icmp .le 14, 3) := by decide +kernel
theorem dX10_throwDie_31 : decode cX10_throwDie 31 = .ok (.new 82, 3) := by decide +kernel
theorem dX10_throwDie_34 : decode cX10_throwDie 34 = .ok (.dup, 1) := by decide +kernel
theorem dX10_throwDie_35 : decode cX10_throwDie 35 = .ok (.ldc_w 310, 3) := by decide +kernel
theorem dX10_throwDie_38 : decode cX10_throwDie 38 = .ok (.invokespecial 86, 3) := by decide +kernel
theorem dX10_throwDie_41 : decode cX10_throwDie 41 = .ok (.athrow, 1) := by decide +kernel
theorem dX10_throwDie_42 : decode cX10_throwDie 42 = .ok (.aload_n 0, 1) := by decide +kernel
theorem dX10_throwDie_43 : decode cX10_throwDie 43 = .ok (.getfield 33, 3) := by decide +kernel
theorem dX10_throwDie_46 : decode cX10_throwDie 46 = .ok (.aload_n 0, 1) := by decide +kernel
theorem dX10_throwDie_47 : decode cX10_throwDie 47 = .ok (.getfield 19, 3) := by decide +kernel
theorem dX10_throwDie_50 : decode cX10_throwDie 50 = .ok (.invokevirtual 100, 3) := by decide +kernel
theorem dX10_throwDie_53 : decode cX10_throwDie 53 = .ok (.aload_n 0, 1) := by decide +kernel
theorem dX10_throwDie_54 : decode cX10_throwDie 54 = .ok (.getfield 19, 3) := by decide +kernel
theorem dX10_throwDie_57 : decode cX10_throwDie 57 = .ok (.iload_n 1, 1) := by decide +kernel
theorem dX10_throwDie_58 : decode cX10_throwDie 58 = .ok (.iload_n 2, 1) := by decide +kernel
theorem dX10_throwDie_59 : decode cX10_throwDie 59 = .ok (.invokestatic 223, 3) := by decide +kernel
theorem dX10_throwDie_62 : decode cX10_throwDie 62 = .ok (.iload_n 3, 1) := by decide +kernel
theorem dX10_throwDie_63 : decode cX10_throwDie 63 = .ok (.iconst 0, 1) := by decide +kernel
theorem dX10_throwDie_64 : decode cX10_throwDie 64 = .ok (.invokevirtual 312, 3) := by decide +kernel
theorem dX10_throwDie_67 : decode cX10_throwDie 67 = .ok (.ireturn, 1) := by decide +kernel
theorem dX10_audit_0 : decode cX10_audit 0 = .ok (.aload_n 0, 1) := by decide +kernel
theorem dX10_audit_1 : decode cX10_audit 1 = .ok (.getfield 33, 3) := by decide +kernel
theorem dX10_audit_4 : decode cX10_audit 4 = .ok (.aload_n 0, 1) := by decide +kernel
theorem dX10_audit_5 : decode cX10_audit 5 = .ok (.getfield 19, 3) := by decide +kernel
theorem dX10_audit_8 : decode cX10_audit 8 = .ok (.invokevirtual 100, 3) := by decide +kernel
theorem dX10_audit_11 : decode cX10_audit 11 = .ok (.aload_n 0, 1) := by decide +kernel
theorem dX10_audit_12 : decode cX10_audit 12 = .ok (.getfield 19, 3) := by decide +kernel
theorem dX10_audit_15 : decode cX10_audit 15 = .ok (.invokevirtual 316, 3) := by decide +kernel
theorem dX10_audit_18 : decode cX10_audit 18 = .ok (.ireturn, 1) := by decide +kernel
theorem dX10_absolve_0 : decode cX10_absolve 0 = .ok (.aload_n 0, 1) := by decide +kernel
theorem dX10_absolve_1 : decode cX10_absolve 1 = .ok (.getfield 19, 3) := by decide +kernel
theorem dX10_absolve_4 : decode cX10_absolve 4 = .ok (.getfield 255, 3) := by decide +kernel
theorem dX10_absolve_7 : decode cX10_absolve 7 = .ok (.getfield 259, 3) := by decide +kernel
theorem dX10_absolve_10 : decode cX10_absolve 10 = .ok (.ifCond .ne 14, 3) := by decide +kernel
theorem dX10_absolve_13 : decode cX10_absolve 13 = .ok (.new 82, 3) := by decide +kernel
theorem dX10_absolve_16 : decode cX10_absolve 16 = .ok (.dup, 1) := by decide +kernel
theorem dX10_absolve_17 : decode cX10_absolve 17 = .ok (.ldc_w 319, 3) := by decide +kernel
theorem dX10_absolve_20 : decode cX10_absolve 20 = .ok (.invokespecial 86, 3) := by decide +kernel
theorem dX10_absolve_23 : decode cX10_absolve 23 = .ok (.athrow, 1) := by decide +kernel
theorem dX10_absolve_24 : decode cX10_absolve 24 = .ok (.aload_n 0, 1) := by decide +kernel
theorem dX10_absolve_25 : decode cX10_absolve 25 = .ok (.getfield 33, 3) := by decide +kernel
theorem dX10_absolve_28 : decode cX10_absolve 28 = .ok (.aload_n 0, 1) := by decide +kernel
theorem dX10_absolve_29 : decode cX10_absolve 29 = .ok (.getfield 19, 3) := by decide +kernel
theorem dX10_absolve_32 : decode cX10_absolve 32 = .ok (.invokevirtual 100, 3) := by decide +kernel
theorem dX10_absolve_35 : decode cX10_absolve 35 = .ok (.aload_n 0, 1) := by decide +kernel
theorem dX10_absolve_36 : decode cX10_absolve 36 = .ok (.getfield 19, 3) := by decide +kernel
theorem dX10_absolve_39 : decode cX10_absolve 39 = .ok (.invokevirtual 321, 3) := by decide +kernel
theorem dX10_absolve_42 : decode cX10_absolve 42 = .ok (.ireturn, 1) := by decide +kernel
theorem dX10_forgive_0 : decode cX10_forgive 0 = .ok (.aload_n 0, 1) := by decide +kernel
theorem dX10_forgive_1 : decode cX10_forgive 1 = .ok (.iload_n 1, 1) := by decide +kernel
theorem dX10_forgive_2 : decode cX10_forgive 2 = .ok (.invokevirtual 170, 3) := by decide +kernel
theorem dX10_forgive_5 : decode cX10_forgive 5 = .ok (.aload_n 0, 1) := by decide +kernel
theorem dX10_forgive_6 : decode cX10_forgive 6 = .ok (.getfield 33, 3) := by decide +kernel
theorem dX10_forgive_9 : decode cX10_forgive 9 = .ok (.aload_n 0, 1) := by decide +kernel
theorem dX10_forgive_10 : decode cX10_forgive 10 = .ok (.getfield 19, 3) := by decide +kernel
theorem dX10_forgive_13 : decode cX10_forgive 13 = .ok (.invokevirtual 100, 3) := by decide +kernel
theorem dX10_forgive_16 : decode cX10_forgive 16 = .ok (.aload_n 0, 1) := by decide +kernel
theorem dX10_forgive_17 : decode cX10_forgive 17 = .ok (.getfield 19, 3) := by decide +kernel
theorem dX10_forgive_20 : decode cX10_forgive 20 = .ok (.getfield 255, 3) := by decide +kernel
theorem dX10_forgive_23 : decode cX10_forgive 23 = .ok (.iload_n 1, 1) := by decide +kernel
theorem dX10_forgive_24 : decode cX10_forgive 24 = .ok (.invokevirtual 324, 3) := by decide +kernel
theorem dX10_forgive_27 : decode cX10_forgive 27 = .ok (.ireturn, 1) := by decide +kernel
theorem dX10_setWeight_0 : decode cX10_setWeight 0 = .ok (.aload_n 0, 1) := by decide +kernel
theorem dX10_setWeight_1 : decode cX10_setWeight 1 = .ok (.iload_n 1, 1) := by decide +kernel
theorem dX10_setWeight_2 : decode cX10_setWeight 2 = .ok (.invokevirtual 141, 3) := by decide +kernel
theorem dX10_setWeight_5 : decode cX10_setWeight 5 = .ok (.aload_n 0, 1) := by decide +kernel
theorem dX10_setWeight_6 : decode cX10_setWeight 6 = .ok (.iload_n 1, 1) := by decide +kernel
theorem dX10_setWeight_7 : decode cX10_setWeight 7 = .ok (.iload_n 2, 1) := by decide +kernel
theorem dX10_setWeight_8 : decode cX10_setWeight 8 = .ok (.invokevirtual 148, 3) := by decide +kernel
theorem dX10_setWeight_11 : decode cX10_setWeight 11 = .ok (.iload_n 3, 1) := by decide +kernel
theorem dX10_setWeight_12 : decode cX10_setWeight 12 = .ok (.iconst 0, 1) := by decide +kernel
theorem dX10_setWeight_13 : decode cX10_setWeight 13 = .ok (.bipush 9, 2) := by decide +kernel
theorem dX10_setWeight_15 : decode cX10_setWeight 15 = .ok (.invokestatic 91, 3) := by decide +kernel
theorem dX10_setWeight_18 : decode cX10_setWeight 18 = .ok (.aload_n 0, 1) := by decide +kernel
theorem dX10_setWeight_19 : decode cX10_setWeight 19 = .ok (.getfield 19, 3) := by decide +kernel
theorem dX10_setWeight_22 : decode cX10_setWeight 22 = .ok (.getfield 127, 3) := by decide +kernel
theorem dX10_setWeight_25 : decode cX10_setWeight 25 = .ok (.iload_n 1, 1) := by decide +kernel
theorem dX10_setWeight_26 : decode cX10_setWeight 26 = .ok (.iload_n 2, 1) := by decide +kernel
theorem dX10_setWeight_27 : decode cX10_setWeight 27 = .ok (.invokevirtual 152, 3) := by decide +kernel
theorem dX10_setWeight_30 : decode cX10_setWeight 30 = .ok (.istore 4, 2) := by decide +kernel
theorem dX10_setWeight_32 : decode cX10_setWeight 32 = .ok (.aload_n 0, 1) := by decide +kernel
theorem dX10_setWeight_33 : decode cX10_setWeight 33 = .ok (.getfield 19, 3) := by decide +kernel
theorem dX10_setWeight_36 : decode cX10_setWeight 36 = .ok (.getfield 127, 3) := by decide +kernel
theorem dX10_setWeight_39 : decode cX10_setWeight 39 = .ok (.iload_n 1, 1) := by decide +kernel
theorem dX10_setWeight_40 : decode cX10_setWeight 40 = .ok (.invokevirtual 327, 3) := by decide +kernel
theorem dX10_setWeight_43 : decode cX10_setWeight 43 = .ok (.iload 4, 2) := by decide +kernel
theorem dX10_setWeight_45 : decode cX10_setWeight 45 = .ok (.isub, 1) := by decide +kernel
theorem dX10_setWeight_46 : decode cX10_setWeight 46 = .ok (.iload_n 3, 1) := by decide +kernel
theorem dX10_setWeight_47 : decode cX10_setWeight 47 = .ok (.iadd, 1) := by decide +kernel
theorem dX10_setWeight_48 : decode cX10_setWeight 48 = .ok (.ifCond .ne 14, 3) := by decide +kernel
theorem dX10_setWeight_51 : decode cX10_setWeight 51 = .ok (.new 82, 3) := by decide +kernel
theorem dX10_setWeight_54 : decode cX10_setWeight 54 = .ok (.dup, 1) := by decide +kernel
theorem dX10_setWeight_55 : decode cX10_setWeight 55 = .ok (.ldc_w 330, 3) := by decide +kernel
theorem dX10_setWeight_58 : decode cX10_setWeight 58 = .ok (.invokespecial 86, 3) := by decide +kernel
theorem dX10_setWeight_61 : decode cX10_setWeight 61 = .ok (.athrow, 1) := by decide +kernel
theorem dX10_setWeight_62 : decode cX10_setWeight 62 = .ok (.aload_n 0, 1) := by decide +kernel
theorem dX10_setWeight_63 : decode cX10_setWeight 63 = .ok (.getfield 33, 3) := by decide +kernel
theorem dX10_setWeight_66 : decode cX10_setWeight 66 = .ok (.aload_n 0, 1) := by decide +kernel
theorem dX10_setWeight_67 : decode cX10_setWeight 67 = .ok (.getfield 19, 3) := by decide +kernel
theorem dX10_setWeight_70 : decode cX10_setWeight 70 = .ok (.invokevirtual 100, 3) := by decide +kernel
theorem dX10_setWeight_73 : decode cX10_setWeight 73 = .ok (.aload_n 0, 1) := by decide +kernel
theorem dX10_setWeight_74 : decode cX10_setWeight 74 = .ok (.getfield 19, 3) := by decide +kernel
theorem dX10_setWeight_77 : decode cX10_setWeight 77 = .ok (.getfield 127, 3) := by decide +kernel
theorem dX10_setWeight_80 : decode cX10_setWeight 80 = .ok (.iload_n 1, 1) := by decide +kernel
theorem dX10_setWeight_81 : decode cX10_setWeight 81 = .ok (.iload_n 2, 1) := by decide +kernel
theorem dX10_setWeight_82 : decode cX10_setWeight 82 = .ok (.iload_n 3, 1) := by decide +kernel
theorem dX10_setWeight_83 : decode cX10_setWeight 83 = .ok (.invokevirtual 332, 3) := by decide +kernel
theorem dX10_setWeight_86 : decode cX10_setWeight 86 = .ok (.iload 4, 2) := by decide +kernel
theorem dX10_setWeight_88 : decode cX10_setWeight 88 = .ok (.ireturn, 1) := by decide +kernel
theorem dX10_setSeed_0 : decode cX10_setSeed 0 = .ok (.iload_n 1, 1) := by decide +kernel
theorem dX10_setSeed_1 : decode cX10_setSeed 1 = .ok (.iconst 0, 1) := by decide +kernel
theorem dX10_setSeed_2 : decode cX10_setSeed 2 = .ok (.ldc_w 335, 3) := by decide +kernel
theorem dX10_setSeed_5 : decode cX10_setSeed 5 = .ok (.invokestatic 91, 3) := by decide +kernel
theorem dX10_setSeed_8 : decode cX10_setSeed 8 = .ok (.aload_n 0, 1) := by decide +kernel
theorem dX10_setSeed_9 : decode cX10_setSeed 9 = .ok (.getfield 33, 3) := by decide +kernel
theorem dX10_setSeed_12 : decode cX10_setSeed 12 = .ok (.aload_n 0, 1) := by decide +kernel
theorem dX10_setSeed_13 : decode cX10_setSeed 13 = .ok (.getfield 19, 3) := by decide +kernel
theorem dX10_setSeed_16 : decode cX10_setSeed 16 = .ok (.invokevirtual 100, 3) := by decide +kernel
theorem dX10_setSeed_19 : decode cX10_setSeed 19 = .ok (.aload_n 0, 1) := by decide +kernel
theorem dX10_setSeed_20 : decode cX10_setSeed 20 = .ok (.getfield 19, 3) := by decide +kernel
theorem dX10_setSeed_23 : decode cX10_setSeed 23 = .ok (.getfield 118, 3) := by decide +kernel
theorem dX10_setSeed_26 : decode cX10_setSeed 26 = .ok (.istore_n 2, 1) := by decide +kernel
theorem dX10_setSeed_27 : decode cX10_setSeed 27 = .ok (.aload_n 0, 1) := by decide +kernel
theorem dX10_setSeed_28 : decode cX10_setSeed 28 = .ok (.getfield 19, 3) := by decide +kernel
theorem dX10_setSeed_31 : decode cX10_setSeed 31 = .ok (.iload_n 1, 1) := by decide +kernel
theorem dX10_setSeed_32 : decode cX10_setSeed 32 = .ok (.putfield 118, 3) := by decide +kernel
theorem dX10_setSeed_35 : decode cX10_setSeed 35 = .ok (.iload_n 2, 1) := by decide +kernel
theorem dX10_setSeed_36 : decode cX10_setSeed 36 = .ok (.ireturn, 1) := by decide +kernel
theorem dX10_setLimits_0 : decode cX10_setLimits 0 = .ok (.iload_n 1, 1) := by decide +kernel
theorem dX10_setLimits_1 : decode cX10_setLimits 1 = .ok (.iconst 1, 1) := by decide +kernel
theorem dX10_setLimits_2 : decode cX10_setLimits 2 = .ok (.bipush 99, 2) := by decide +kernel
theorem dX10_setLimits_4 : decode cX10_setLimits 4 = .ok (.invokestatic 91, 3) := by decide +kernel
theorem dX10_setLimits_7 : decode cX10_setLimits 7 = .ok (.iload_n 2, 1) := by decide +kernel
theorem dX10_setLimits_8 : decode cX10_setLimits 8 = .ok (.iconst 0, 1) := by decide +kernel
theorem dX10_setLimits_9 : decode cX10_setLimits 9 = .ok (.sipush 999, 3) := by decide +kernel
theorem dX10_setLimits_12 : decode cX10_setLimits 12 = .ok (.invokestatic 91, 3) := by decide +kernel
theorem dX10_setLimits_15 : decode cX10_setLimits 15 = .ok (.aload_n 0, 1) := by decide +kernel
theorem dX10_setLimits_16 : decode cX10_setLimits 16 = .ok (.getfield 33, 3) := by decide +kernel
theorem dX10_setLimits_19 : decode cX10_setLimits 19 = .ok (.aload_n 0, 1) := by decide +kernel
theorem dX10_setLimits_20 : decode cX10_setLimits 20 = .ok (.getfield 19, 3) := by decide +kernel
theorem dX10_setLimits_23 : decode cX10_setLimits 23 = .ok (.invokevirtual 100, 3) := by decide +kernel
theorem dX10_setLimits_26 : decode cX10_setLimits 26 = .ok (.aload_n 0, 1) := by decide +kernel
theorem dX10_setLimits_27 : decode cX10_setLimits 27 = .ok (.getfield 19, 3) := by decide +kernel
theorem dX10_setLimits_30 : decode cX10_setLimits 30 = .ok (.iload_n 1, 1) := by decide +kernel
theorem dX10_setLimits_31 : decode cX10_setLimits 31 = .ok (.putfield 121, 3) := by decide +kernel
theorem dX10_setLimits_34 : decode cX10_setLimits 34 = .ok (.aload_n 0, 1) := by decide +kernel
theorem dX10_setLimits_35 : decode cX10_setLimits 35 = .ok (.getfield 19, 3) := by decide +kernel
theorem dX10_setLimits_38 : decode cX10_setLimits 38 = .ok (.iload_n 2, 1) := by decide +kernel
theorem dX10_setLimits_39 : decode cX10_setLimits 39 = .ok (.putfield 124, 3) := by decide +kernel
theorem dX10_setLimits_42 : decode cX10_setLimits 42 = .ok (.aload_n 0, 1) := by decide +kernel
theorem dX10_setLimits_43 : decode cX10_setLimits 43 = .ok (.getfield 19, 3) := by decide +kernel
theorem dX10_setLimits_46 : decode cX10_setLimits 46 = .ok (.invokevirtual 248, 3) := by decide +kernel
theorem dX10_setLimits_49 : decode cX10_setLimits 49 = .ok (.ireturn, 1) := by decide +kernel
theorem dX10_requireDie_0 : decode cX10_requireDie 0 = .ok (.iload_n 1, 1) := by decide +kernel
theorem dX10_requireDie_1 : decode cX10_requireDie 1 = .ok (.aload_n 0, 1) := by decide +kernel
theorem dX10_requireDie_2 : decode cX10_requireDie 2 = .ok (.getfield 19, 3) := by decide +kernel
theorem dX10_requireDie_5 : decode cX10_requireDie 5 = .ok (.getfield 127, 3) := by decide +kernel
theorem dX10_requireDie_8 : decode cX10_requireDie 8 = .ok (.getfield 131, 3) := by decide +kernel
theorem dX10_requireDie_11 : decode cX10_requireDie 11 = .ok (.invokestatic 373, 3) := by decide +kernel
theorem dX10_requireDie_14 : decode cX10_requireDie 14 = .ok (.return_, 1) := by decide +kernel
theorem dX10_requirePlayer_0 : decode cX10_requirePlayer 0 = .ok (.iload_n 1, 1) := by decide +kernel
theorem dX10_requirePlayer_1 : decode cX10_requirePlayer 1 = .ok (.aload_n 0, 1) := by decide +kernel
theorem dX10_requirePlayer_2 : decode cX10_requirePlayer 2 = .ok (.getfield 19, 3) := by decide +kernel
theorem dX10_requirePlayer_5 : decode cX10_requirePlayer 5 = .ok (.getfield 134, 3) := by decide +kernel
theorem dX10_requirePlayer_8 : decode cX10_requirePlayer 8 = .ok (.getfield 138, 3) := by decide +kernel
theorem dX10_requirePlayer_11 : decode cX10_requirePlayer 11 = .ok (.invokestatic 373, 3) := by decide +kernel
theorem dX10_requirePlayer_14 : decode cX10_requirePlayer 14 = .ok (.return_, 1) := by decide +kernel
theorem dX10_requirePair_0 : decode cX10_requirePair 0 = .ok (.aload_n 0, 1) := by decide +kernel
theorem dX10_requirePair_1 : decode cX10_requirePair 1 = .ok (.iload_n 1, 1) := by decide +kernel
theorem dX10_requirePair_2 : decode cX10_requirePair 2 = .ok (.invokevirtual 170, 3) := by decide +kernel
theorem dX10_requirePair_5 : decode cX10_requirePair 5 = .ok (.aload_n 0, 1) := by decide +kernel
theorem dX10_requirePair_6 : decode cX10_requirePair 6 = .ok (.iload_n 2, 1) := by decide +kernel
theorem dX10_requirePair_7 : decode cX10_requirePair 7 = .ok (.invokevirtual 141, 3) := by decide +kernel
theorem dX10_requirePair_10 : decode cX10_requirePair 10 = .ok (.return_, 1) := by decide +kernel
theorem dX10_requireThrow_0 : decode cX10_requireThrow 0 = .ok (.iload_n 1, 1) := by decide +kernel
theorem dX10_requireThrow_1 : decode cX10_requireThrow 1 = .ok (.aload_n 0, 1) := by decide +kernel
theorem dX10_requireThrow_2 : decode cX10_requireThrow 2 = .ok (.getfield 19, 3) := by decide +kernel
theorem dX10_requireThrow_5 : decode cX10_requireThrow 5 = .ok (.getfield 103, 3) := by decide +kernel
theorem dX10_requireThrow_8 : decode cX10_requireThrow 8 = .ok (.getfield 107, 3) := by decide +kernel
theorem dX10_requireThrow_11 : decode cX10_requireThrow 11 = .ok (.invokestatic 373, 3) := by decide +kernel
theorem dX10_requireThrow_14 : decode cX10_requireThrow 14 = .ok (.return_, 1) := by decide +kernel
theorem dX10_requireOffence_0 : decode cX10_requireOffence 0 = .ok (.iload_n 1, 1) := by decide +kernel
theorem dX10_requireOffence_1 : decode cX10_requireOffence 1 = .ok (.aload_n 0, 1) := by decide +kernel
theorem dX10_requireOffence_2 : decode cX10_requireOffence 2 = .ok (.getfield 19, 3) := by decide +kernel
theorem dX10_requireOffence_5 : decode cX10_requireOffence 5 = .ok (.getfield 255, 3) := by decide +kernel
theorem dX10_requireOffence_8 : decode cX10_requireOffence 8 = .ok (.getfield 259, 3) := by decide +kernel
theorem dX10_requireOffence_11 : decode cX10_requireOffence 11 = .ok (.invokestatic 373, 3) := by decide +kernel
theorem dX10_requireOffence_14 : decode cX10_requireOffence 14 = .ok (.return_, 1) := by decide +kernel
theorem dX10_requireFace_0 : decode cX10_requireFace 0 = .ok (.iload_n 2, 1) := by decide +kernel
theorem dX10_requireFace_1 : decode cX10_requireFace 1 = .ok (.iconst 1, 1) := by decide +kernel
theorem dX10_requireFace_2 : decode cX10_requireFace 2 = .ok (.aload_n 0, 1) := by decide +kernel
theorem dX10_requireFace_3 : decode cX10_requireFace 3 = .ok (.getfield 19, 3) := by decide +kernel
theorem dX10_requireFace_6 : decode cX10_requireFace 6 = .ok (.getfield 127, 3) := by decide +kernel
theorem dX10_requireFace_9 : decode cX10_requireFace 9 = .ok (.iload_n 1, 1) := by decide +kernel
theorem dX10_requireFace_10 : decode cX10_requireFace 10 = .ok (.invokevirtual 144, 3) := by decide +kernel
theorem dX10_requireFace_13 : decode cX10_requireFace 13 = .ok (.invokestatic 91, 3) := by decide +kernel
theorem dX10_requireFace_16 : decode cX10_requireFace 16 = .ok (.return_, 1) := by decide +kernel
theorem dX10_requireIndex_0 : decode cX10_requireIndex 0 = .ok (.iload_n 0, 1) := by decide +kernel
theorem dX10_requireIndex_1 : decode cX10_requireIndex 1 = .ok (.ifCond .lt 8, 3) := by decide +kernel
theorem dX10_requireIndex_4 : decode cX10_requireIndex 4 = .ok (.iload_n 0, 1) := by decide +kernel
theorem dX10_requireIndex_5 : decode cX10_requireIndex 5 = .ok (.iload_n 1, 1) := by decide +kernel
theorem dX10_requireIndex_6 : decode cX10_requireIndex 6 = .ok (.if_icmp .lt 14, 3) := by decide +kernel
theorem dX10_requireIndex_9 : decode cX10_requireIndex 9 = .ok (.new 376, 3) := by decide +kernel
theorem dX10_requireIndex_12 : decode cX10_requireIndex 12 = .ok (.dup, 1) := by decide +kernel
theorem dX10_requireIndex_13 : decode cX10_requireIndex 13 = .ok (.ldc_w 378, 3) := by decide +kernel
theorem dX10_requireIndex_16 : decode cX10_requireIndex 16 = .ok (.invokespecial 380, 3) := by decide +kernel
theorem dX10_requireIndex_19 : decode cX10_requireIndex 19 = .ok (.athrow, 1) := by decide +kernel
theorem dX10_requireIndex_20 : decode cX10_requireIndex 20 = .ok (.return_, 1) := by decide +kernel
theorem dX10_requireRange_0 : decode cX10_requireRange 0 = .ok (.iload_n 0, 1) := by decide +kernel
theorem dX10_requireRange_1 : decode cX10_requireRange 1 = .ok (.iload_n 1, 1) := by decide +kernel
theorem dX10_requireRange_2 : decode cX10_requireRange 2 = .ok (.if_icmp .lt 8, 3) := by decide +kernel
theorem dX10_requireRange_5 : decode cX10_requireRange 5 = .ok (.iload_n 0, 1) := by decide +kernel
theorem dX10_requireRange_6 : decode cX10_requireRange 6 = .ok (.iload_n 2, 1) := by decide +kernel
theorem dX10_requireRange_7 : decode cX10_requireRange 7 = .ok (.if_icmp .le 14, 3) := by decide +kernel
theorem dX10_requireRange_10 : decode cX10_requireRange 10 = .ok (.new 95, 3) := by decide +kernel
theorem dX10_requireRange_13 : decode cX10_requireRange 13 = .ok (.dup, 1) := by decide +kernel
theorem dX10_requireRange_14 : decode cX10_requireRange 14 = .ok (.ldc_w 381, 3) := by decide +kernel
theorem dX10_requireRange_17 : decode cX10_requireRange 17 = .ok (.invokespecial 99, 3) := by decide +kernel
theorem dX10_requireRange_20 : decode cX10_requireRange 20 = .ok (.athrow, 1) := by decide +kernel
theorem dX10_requireRange_21 : decode cX10_requireRange 21 = .ok (.return_, 1) := by decide +kernel
theorem dX10_at_0 : decode cX10_at 0 = .ok (.iload_n 1, 1) := by decide +kernel
theorem dX10_at_1 : decode cX10_at 1 = .ok (.ifCond .lt 15, 3) := by decide +kernel
theorem dX10_at_4 : decode cX10_at 4 = .ok (.iload_n 1, 1) := by decide +kernel
theorem dX10_at_5 : decode cX10_at 5 = .ok (.aload_n 0, 1) := by decide +kernel
theorem dX10_at_6 : decode cX10_at 6 = .ok (.arraylength, 1) := by decide +kernel
theorem dX10_at_7 : decode cX10_at 7 = .ok (.if_icmp .ge 9, 3) := by decide +kernel
theorem dX10_at_10 : decode cX10_at 10 = .ok (.aload_n 0, 1) := by decide +kernel
theorem dX10_at_11 : decode cX10_at 11 = .ok (.iload_n 1, 1) := by decide +kernel
theorem dX10_at_12 : decode cX10_at 12 = .ok (.iaload, 1) := by decide +kernel
theorem dX10_at_13 : decode cX10_at 13 = .ok (.goto 4, 3) := by decide +kernel
theorem dX10_at_16 : decode cX10_at 16 = .ok (.iconst 0, 1) := by decide +kernel
theorem dX10_at_17 : decode cX10_at 17 = .ok (.ireturn, 1) := by decide +kernel
theorem dX10_put_0 : decode cX10_put 0 = .ok (.iload_n 1, 1) := by decide +kernel
theorem dX10_put_1 : decode cX10_put 1 = .ok (.ifCond .lt 13, 3) := by decide +kernel
theorem dX10_put_4 : decode cX10_put 4 = .ok (.iload_n 1, 1) := by decide +kernel
theorem dX10_put_5 : decode cX10_put 5 = .ok (.aload_n 0, 1) := by decide +kernel
theorem dX10_put_6 : decode cX10_put 6 = .ok (.arraylength, 1) := by decide +kernel
theorem dX10_put_7 : decode cX10_put 7 = .ok (.if_icmp .ge 7, 3) := by decide +kernel
theorem dX10_put_10 : decode cX10_put 10 = .ok (.aload_n 0, 1) := by decide +kernel
theorem dX10_put_11 : decode cX10_put 11 = .ok (.iload_n 1, 1) := by decide +kernel
theorem dX10_put_12 : decode cX10_put 12 = .ok (.iload_n 2, 1) := by decide +kernel
theorem dX10_put_13 : decode cX10_put 13 = .ok (.iastore, 1) := by decide +kernel
theorem dX10_put_14 : decode cX10_put 14 = .ok (.return_, 1) := by decide +kernel
theorem dX10_copyRow_0 : decode cX10_copyRow 0 = .ok (.aload_n 0, 1) := by decide +kernel
theorem dX10_copyRow_1 : decode cX10_copyRow 1 = .ok (.arraylength, 1) := by decide +kernel
theorem dX10_copyRow_2 : decode cX10_copyRow 2 = .ok (.aload_n 1, 1) := by decide +kernel
theorem dX10_copyRow_3 : decode cX10_copyRow 3 = .ok (.arraylength, 1) := by decide +kernel
theorem dX10_copyRow_4 : decode cX10_copyRow 4 = .ok (.if_icmp .ne 12, 3) := by decide +kernel
theorem dX10_copyRow_7 : decode cX10_copyRow 7 = .ok (.aload_n 0, 1) := by decide +kernel
theorem dX10_copyRow_8 : decode cX10_copyRow 8 = .ok (.iconst 0, 1) := by decide +kernel
theorem dX10_copyRow_9 : decode cX10_copyRow 9 = .ok (.aload_n 1, 1) := by decide +kernel
theorem dX10_copyRow_10 : decode cX10_copyRow 10 = .ok (.iconst 0, 1) := by decide +kernel
theorem dX10_copyRow_11 : decode cX10_copyRow 11 = .ok (.aload_n 1, 1) := by decide +kernel
theorem dX10_copyRow_12 : decode cX10_copyRow 12 = .ok (.arraylength, 1) := by decide +kernel
theorem dX10_copyRow_13 : decode cX10_copyRow 13 = .ok (.invokestatic 383, 3) := by decide +kernel
theorem dX10_copyRow_16 : decode cX10_copyRow 16 = .ok (.return_, 1) := by decide +kernel
theorem dX10_sumOf_0 : decode cX10_sumOf 0 = .ok (.iconst 0, 1) := by decide +kernel
theorem dX10_sumOf_1 : decode cX10_sumOf 1 = .ok (.istore_n 3, 1) := by decide +kernel
theorem dX10_sumOf_2 : decode cX10_sumOf 2 = .ok (.iconst 0, 1) := by decide +kernel
theorem dX10_sumOf_3 : decode cX10_sumOf 3 = .ok (.istore 4, 2) := by decide +kernel
theorem dX10_sumOf_5 : decode cX10_sumOf 5 = .ok (.iload 4, 2) := by decide +kernel
theorem dX10_sumOf_7 : decode cX10_sumOf 7 = .ok (.iload_n 2, 1) := by decide +kernel
theorem dX10_sumOf_8 : decode cX10_sumOf 8 = .ok (.if_icmp .ge 38, 3) := by decide +kernel
theorem dX10_sumOf_11 : decode cX10_sumOf 11 = .ok (.iload_n 1, 1) := by decide +kernel
theorem dX10_sumOf_12 : decode cX10_sumOf 12 = .ok (.iload 4, 2) := by decide +kernel
theorem dX10_sumOf_14 : decode cX10_sumOf 14 = .ok (.iadd, 1) := by decide +kernel
theorem dX10_sumOf_15 : decode cX10_sumOf 15 = .ok (.istore 5, 2) := by decide +kernel
theorem dX10_sumOf_17 : decode cX10_sumOf 17 = .ok (.iload_n 3, 1) := by decide +kernel
theorem dX10_sumOf_18 : decode cX10_sumOf 18 = .ok (.iload 5, 2) := by decide +kernel
theorem dX10_sumOf_20 : decode cX10_sumOf 20 = .ok (.ifCond .lt 17, 3) := by decide +kernel
theorem dX10_sumOf_23 : decode cX10_sumOf 23 = .ok (.iload 5, 2) := by decide +kernel
theorem dX10_sumOf_25 : decode cX10_sumOf 25 = .ok (.aload_n 0, 1) := by decide +kernel
theorem dX10_sumOf_26 : decode cX10_sumOf 26 = .ok (.arraylength, 1) := by decide +kernel
theorem dX10_sumOf_27 : decode cX10_sumOf 27 = .ok (.if_icmp .ge 10, 3) := by decide +kernel
theorem dX10_sumOf_30 : decode cX10_sumOf 30 = .ok (.aload_n 0, 1) := by decide +kernel
theorem dX10_sumOf_31 : decode cX10_sumOf 31 = .ok (.iload 5, 2) := by decide +kernel
theorem dX10_sumOf_33 : decode cX10_sumOf 33 = .ok (.iaload, 1) := by decide +kernel
theorem dX10_sumOf_34 : decode cX10_sumOf 34 = .ok (.goto 4, 3) := by decide +kernel
theorem dX10_sumOf_37 : decode cX10_sumOf 37 = .ok (.iconst 0, 1) := by decide +kernel
theorem dX10_sumOf_38 : decode cX10_sumOf 38 = .ok (.iadd, 1) := by decide +kernel
theorem dX10_sumOf_39 : decode cX10_sumOf 39 = .ok (.istore_n 3, 1) := by decide +kernel
theorem dX10_sumOf_40 : decode cX10_sumOf 40 = .ok (.iinc 4 1, 3) := by decide +kernel
theorem dX10_sumOf_43 : decode cX10_sumOf 43 = .ok (.goto (-38), 3) := by decide +kernel
theorem dX10_sumOf_46 : decode cX10_sumOf 46 = .ok (.iload_n 3, 1) := by decide +kernel
theorem dX10_sumOf_47 : decode cX10_sumOf 47 = .ok (.ireturn, 1) := by decide +kernel
theorem dX10_testScore_0 : decode cX10_testScore 0 = .ok (.aload_n 0, 1) := by decide +kernel
theorem dX10_testScore_1 : decode cX10_testScore 1 = .ok (.iload_n 1, 1) := by decide +kernel
theorem dX10_testScore_2 : decode cX10_testScore 2 = .ok (.iload_n 2, 1) := by decide +kernel
theorem dX10_testScore_3 : decode cX10_testScore 3 = .ok (.invokestatic 389, 3) := by decide +kernel
theorem dX10_testScore_6 : decode cX10_testScore 6 = .ok (.istore_n 3, 1) := by decide +kernel
theorem dX10_testScore_7 : decode cX10_testScore 7 = .ok (.iload_n 3, 1) := by decide +kernel
theorem dX10_testScore_8 : decode cX10_testScore 8 = .ok (.iload_n 2, 1) := by decide +kernel
theorem dX10_testScore_9 : decode cX10_testScore 9 = .ok (.imul, 1) := by decide +kernel
theorem dX10_testScore_10 : decode cX10_testScore 10 = .ok (.istore 4, 2) := by decide +kernel
theorem dX10_testScore_12 : decode cX10_testScore 12 = .ok (.iload 4, 2) := by decide +kernel
theorem dX10_testScore_14 : decode cX10_testScore 14 = .ok (.ifCond .gt 5, 3) := by decide +kernel
theorem dX10_testScore_17 : decode cX10_testScore 17 = .ok (.iconst 0, 1) := by decide +kernel
theorem dX10_testScore_18 : decode cX10_testScore 18 = .ok (.ireturn, 1) := by decide +kernel
theorem dX10_testScore_19 : decode cX10_testScore 19 = .ok (.iconst 0, 1) := by decide +kernel
theorem dX10_testScore_20 : decode cX10_testScore 20 = .ok (.istore 5, 2) := by decide +kernel
theorem dX10_testScore_22 : decode cX10_testScore 22 = .ok (.iconst 0, 1) := by decide +kernel
theorem dX10_testScore_23 : decode cX10_testScore 23 = .ok (.istore 6, 2) := by decide +kernel
theorem dX10_testScore_25 : decode cX10_testScore 25 = .ok (.iload 6, 2) := by decide +kernel
theorem dX10_testScore_27 : decode cX10_testScore 27 = .ok (.iload_n 2, 1) := by decide +kernel
theorem dX10_testScore_28 : decode cX10_testScore 28 = .ok (.if_icmp .ge 33, 3) := by decide +kernel
theorem dX10_testScore_31 : decode cX10_testScore 31 = .ok (.iload_n 2, 1) := by decide +kernel
theorem dX10_testScore_32 : decode cX10_testScore 32 = .ok (.aload_n 0, 1) := by decide +kernel
theorem dX10_testScore_33 : decode cX10_testScore 33 = .ok (.iload_n 1, 1) := by decide +kernel
theorem dX10_testScore_34 : decode cX10_testScore 34 = .ok (.iload 6, 2) := by decide +kernel
theorem dX10_testScore_36 : decode cX10_testScore 36 = .ok (.iadd, 1) := by decide +kernel
theorem dX10_testScore_37 : decode cX10_testScore 37 = .ok (.invokestatic 232, 3) := by decide +kernel
theorem dX10_testScore_40 : decode cX10_testScore 40 = .ok (.imul, 1) := by decide +kernel
theorem dX10_testScore_41 : decode cX10_testScore 41 = .ok (.iload_n 3, 1) := by decide +kernel
theorem dX10_testScore_42 : decode cX10_testScore 42 = .ok (.isub, 1) := by decide +kernel
theorem dX10_testScore_43 : decode cX10_testScore 43 = .ok (.istore 7, 2) := by decide +kernel
theorem dX10_testScore_45 : decode cX10_testScore 45 = .ok (.iload 5, 2) := by decide +kernel
theorem dX10_testScore_47 : decode cX10_testScore 47 = .ok (.iload 7, 2) := by decide +kernel
theorem dX10_testScore_49 : decode cX10_testScore 49 = .ok (.iload 7, 2) := by decide +kernel
theorem dX10_testScore_51 : decode cX10_testScore 51 = .ok (.imul, 1) := by decide +kernel
theorem dX10_testScore_52 : decode cX10_testScore 52 = .ok (.iadd, 1) := by decide +kernel
theorem dX10_testScore_53 : decode cX10_testScore 53 = .ok (.istore 5, 2) := by decide +kernel
theorem dX10_testScore_55 : decode cX10_testScore 55 = .ok (.iinc 6 1, 3) := by decide +kernel
theorem dX10_testScore_58 : decode cX10_testScore 58 = .ok (.goto (-33), 3) := by decide +kernel
theorem dX10_testScore_61 : decode cX10_testScore 61 = .ok (.iload 5, 2) := by decide +kernel
theorem dX10_testScore_63 : decode cX10_testScore 63 = .ok (.iload 4, 2) := by decide +kernel
theorem dX10_testScore_65 : decode cX10_testScore 65 = .ok (.idiv, 1) := by decide +kernel
theorem dX10_testScore_66 : decode cX10_testScore 66 = .ok (.ireturn, 1) := by decide +kernel
theorem dX10_nextSeed_0 : decode cX10_nextSeed 0 = .ok (.bipush 75, 2) := by decide +kernel
theorem dX10_nextSeed_2 : decode cX10_nextSeed 2 = .ok (.iload_n 0, 1) := by decide +kernel
theorem dX10_nextSeed_3 : decode cX10_nextSeed 3 = .ok (.imul, 1) := by decide +kernel
theorem dX10_nextSeed_4 : decode cX10_nextSeed 4 = .ok (.bipush 74, 2) := by decide +kernel
theorem dX10_nextSeed_6 : decode cX10_nextSeed 6 = .ok (.iadd, 1) := by decide +kernel
theorem dX10_nextSeed_7 : decode cX10_nextSeed 7 = .ok (.ldc_w 392, 3) := by decide +kernel
theorem dX10_nextSeed_10 : decode cX10_nextSeed 10 = .ok (.irem, 1) := by decide +kernel
theorem dX10_nextSeed_11 : decode cX10_nextSeed 11 = .ok (.ireturn, 1) := by decide +kernel
theorem dX10_pairOf_0 : decode cX10_pairOf 0 = .ok (.iload_n 0, 1) := by decide +kernel
theorem dX10_pairOf_1 : decode cX10_pairOf 1 = .ok (.bipush 6, 2) := by decide +kernel
theorem dX10_pairOf_3 : decode cX10_pairOf 3 = .ok (.imul, 1) := by decide +kernel
theorem dX10_pairOf_4 : decode cX10_pairOf 4 = .ok (.iload_n 1, 1) := by decide +kernel
theorem dX10_pairOf_5 : decode cX10_pairOf 5 = .ok (.iadd, 1) := by decide +kernel
theorem dX10_pairOf_6 : decode cX10_pairOf 6 = .ok (.ireturn, 1) := by decide +kernel
theorem dX10_playerOf_0 : decode cX10_playerOf 0 = .ok (.iload_n 0, 1) := by decide +kernel
theorem dX10_playerOf_1 : decode cX10_playerOf 1 = .ok (.bipush 6, 2) := by decide +kernel
theorem dX10_playerOf_3 : decode cX10_playerOf 3 = .ok (.idiv, 1) := by decide +kernel
theorem dX10_playerOf_4 : decode cX10_playerOf 4 = .ok (.ireturn, 1) := by decide +kernel
theorem dX10_dieOf_0 : decode cX10_dieOf 0 = .ok (.iload_n 0, 1) := by decide +kernel
theorem dX10_dieOf_1 : decode cX10_dieOf 1 = .ok (.bipush 6, 2) := by decide +kernel
theorem dX10_dieOf_3 : decode cX10_dieOf 3 = .ok (.irem, 1) := by decide +kernel
theorem dX10_dieOf_4 : decode cX10_dieOf 4 = .ok (.ireturn, 1) := by decide +kernel
theorem dX10_cellOf_0 : decode cX10_cellOf 0 = .ok (.iload_n 0, 1) := by decide +kernel
theorem dX10_cellOf_1 : decode cX10_cellOf 1 = .ok (.bipush 12, 2) := by decide +kernel
theorem dX10_cellOf_3 : decode cX10_cellOf 3 = .ok (.imul, 1) := by decide +kernel
theorem dX10_cellOf_4 : decode cX10_cellOf 4 = .ok (.iload_n 1, 1) := by decide +kernel
theorem dX10_cellOf_5 : decode cX10_cellOf 5 = .ok (.iadd, 1) := by decide +kernel
theorem dX10_cellOf_6 : decode cX10_cellOf 6 = .ok (.iconst 1, 1) := by decide +kernel
theorem dX10_cellOf_7 : decode cX10_cellOf 7 = .ok (.isub, 1) := by decide +kernel
theorem dX10_cellOf_8 : decode cX10_cellOf 8 = .ok (.ireturn, 1) := by decide +kernel
theorem dX11_init_0 : decode cX11_init 0 = .ok (.aload_n 0, 1) := by decide +kernel
theorem dX11_init_1 : decode cX11_init 1 = .ok (.invokespecial 1, 3) := by decide +kernel
theorem dX11_init_4 : decode cX11_init 4 = .ok (.aload_n 0, 1) := by decide +kernel
theorem dX11_init_5 : decode cX11_init 5 = .ok (.iconst 3, 1) := by decide +kernel
theorem dX11_init_6 : decode cX11_init 6 = .ok (.anewarray 7, 3) := by decide +kernel
theorem dX11_init_9 : decode cX11_init 9 = .ok (.putfield 9, 3) := by decide +kernel
theorem dX11_init_12 : decode cX11_init 12 = .ok (.aload_n 0, 1) := by decide +kernel
theorem dX11_init_13 : decode cX11_init 13 = .ok (.sipush 400, 3) := by decide +kernel
theorem dX11_init_16 : decode cX11_init 16 = .ok (.anewarray 7, 3) := by decide +kernel
theorem dX11_init_19 : decode cX11_init 19 = .ok (.putfield 15, 3) := by decide +kernel
theorem dX11_init_22 : decode cX11_init 22 = .ok (.aload_n 0, 1) := by decide +kernel
theorem dX11_init_23 : decode cX11_init 23 = .ok (.bipush 9, 2) := by decide +kernel
theorem dX11_init_25 : decode cX11_init 25 = .ok (.anewarray 7, 3) := by decide +kernel
theorem dX11_init_28 : decode cX11_init 28 = .ok (.putfield 18, 3) := by decide +kernel
theorem dX11_init_31 : decode cX11_init 31 = .ok (.iconst 0, 1) := by decide +kernel
theorem dX11_init_32 : decode cX11_init 32 = .ok (.istore_n 2, 1) := by decide +kernel
theorem dX11_init_33 : decode cX11_init 33 = .ok (.iload_n 2, 1) := by decide +kernel
theorem dX11_init_34 : decode cX11_init 34 = .ok (.iconst 3, 1) := by decide +kernel
theorem dX11_init_35 : decode cX11_init 35 = .ok (.if_icmp .ge 57, 3) := by decide +kernel
theorem dX11_init_38 : decode cX11_init 38 = .ok (.aload_n 0, 1) := by decide +kernel
theorem dX11_init_39 : decode cX11_init 39 = .ok (.getfield 9, 3) := by decide +kernel
theorem dX11_init_42 : decode cX11_init 42 = .ok (.iload_n 2, 1) := by decide +kernel
theorem dX11_init_43 : decode cX11_init 43 = .ok (.aload_n 1, 1) := by decide +kernel
theorem dX11_init_44 : decode cX11_init 44 = .ok (.iload_n 2, 1) := by decide +kernel
theorem dX11_init_45 : decode cX11_init 45 = .ok (.invokevirtual 21, 3) := by decide +kernel
theorem dX11_init_48 : decode cX11_init 48 = .ok (.newarray .int, 2) := by decide +kernel
theorem dX11_init_50 : decode cX11_init 50 = .ok (.aastore, 1) := by decide +kernel
theorem dX11_init_51 : decode cX11_init 51 = .ok (.iconst 0, 1) := by decide +kernel
theorem dX11_init_52 : decode cX11_init 52 = .ok (.istore_n 3, 1) := by decide +kernel
theorem dX11_init_53 : decode cX11_init 53 = .ok (.iload_n 3, 1) := by decide +kernel
theorem dX11_init_54 : decode cX11_init 54 = .ok (.aload_n 0, 1) := by decide +kernel
theorem dX11_init_55 : decode cX11_init 55 = .ok (.getfield 9, 3) := by decide +kernel
theorem dX11_init_58 : decode cX11_init 58 = .ok (.iload_n 2, 1) := by decide +kernel
theorem dX11_init_59 : decode cX11_init 59 = .ok (.aaload, 1) := by decide +kernel
theorem dX11_init_60 : decode cX11_init 60 = .ok (.arraylength, 1) := by decide +kernel
theorem dX11_init_61 : decode cX11_init 61 = .ok (.if_icmp .ge 25, 3) := by decide +kernel
theorem dX11_init_64 : decode cX11_init 64 = .ok (.aload_n 0, 1) := by decide +kernel
theorem dX11_init_65 : decode cX11_init 65 = .ok (.getfield 9, 3) := by decide +kernel
theorem dX11_init_68 : decode cX11_init 68 = .ok (.iload_n 2, 1) := by decide +kernel
theorem dX11_init_69 : decode cX11_init 69 = .ok (.aaload, 1) := by decide +kernel
theorem dX11_init_70 : decode cX11_init 70 = .ok (.iload_n 3, 1) := by decide +kernel
theorem dX11_init_71 : decode cX11_init 71 = .ok (.aload_n 1, 1) := by decide +kernel
theorem dX11_init_72 : decode cX11_init 72 = .ok (.iload_n 2, 1) := by decide +kernel
theorem dX11_init_73 : decode cX11_init 73 = .ok (.iload_n 3, 1) := by decide +kernel
theorem dX11_init_74 : decode cX11_init 74 = .ok (.iconst 1, 1) := by decide +kernel
theorem dX11_init_75 : decode cX11_init 75 = .ok (.iadd, 1) := by decide +kernel
theorem dX11_init_76 : decode cX11_init 76 = .ok (.invokevirtual 27, 3) := by decide +kernel
theorem dX11_init_79 : decode cX11_init 79 = .ok (.iastore, 1) := by decide +kernel
theorem dX11_init_80 : decode cX11_init 80 = .ok (.iinc 3 1, 3) := by decide +kernel
theorem dX11_init_83 : decode cX11_init 83 = .ok (.goto (-30), 3) := by decide +kernel
theorem dX11_init_86 : decode cX11_init 86 = .ok (.iinc 2 1, 3) := by decide +kernel
theorem dX11_init_89 : decode cX11_init 89 = .ok (.goto (-56), 3) := by decide +kernel
theorem dX11_init_92 : decode cX11_init 92 = .ok (.aload_n 0, 1) := by decide +kernel
theorem dX11_init_93 : decode cX11_init 93 = .ok (.aload_n 1, 1) := by decide +kernel
theorem dX11_init_94 : decode cX11_init 94 = .ok (.invokevirtual 31, 3) := by decide +kernel
theorem dX11_init_97 : decode cX11_init 97 = .ok (.i2l, 1) := by decide +kernel
theorem dX11_init_98 : decode cX11_init 98 = .ok (.putfield 35, 3) := by decide +kernel
theorem dX11_init_101 : decode cX11_init 101 = .ok (.aload_n 0, 1) := by decide +kernel
theorem dX11_init_102 : decode cX11_init 102 = .ok (.aload_n 1, 1) := by decide +kernel
theorem dX11_init_103 : decode cX11_init 103 = .ok (.invokevirtual 38, 3) := by decide +kernel
theorem dX11_init_106 : decode cX11_init 106 = .ok (.putfield 41, 3) := by decide +kernel
theorem dX11_init_109 : decode cX11_init 109 = .ok (.aload_n 0, 1) := by decide +kernel
theorem dX11_init_110 : decode cX11_init 110 = .ok (.aload_n 1, 1) := by decide +kernel
theorem dX11_init_111 : decode cX11_init 111 = .ok (.invokevirtual 44, 3) := by decide +kernel
theorem dX11_init_114 : decode cX11_init 114 = .ok (.putfield 47, 3) := by decide +kernel
theorem dX11_init_117 : decode cX11_init 117 = .ok (.return_, 1) := by decide +kernel
theorem dX11_shows_0 : decode cX11_shows 0 = .ok (.aload_n 0, 1) := by decide +kernel
theorem dX11_shows_1 : decode cX11_shows 1 = .ok (.ldc2_w 49, 3) := by decide +kernel
theorem dX11_shows_4 : decode cX11_shows 4 = .ok (.aload_n 0, 1) := by decide +kernel
theorem dX11_shows_5 : decode cX11_shows 5 = .ok (.getfield 35, 3) := by decide +kernel
theorem dX11_shows_8 : decode cX11_shows 8 = .ok (.lmul, 1) := by decide +kernel
theorem dX11_shows_9 : decode cX11_shows 9 = .ok (.ldc2_w 51, 3) := by decide +kernel
theorem dX11_shows_12 : decode cX11_shows 12 = .ok (.ladd, 1) := by decide +kernel
theorem dX11_shows_13 : decode cX11_shows 13 = .ok (.ldc2_w 53, 3) := by decide +kernel
theorem dX11_shows_16 : decode cX11_shows 16 = .ok (.lrem, 1) := by decide +kernel
theorem dX11_shows_17 : decode cX11_shows 17 = .ok (.putfield 35, 3) := by decide +kernel
theorem dX11_shows_20 : decode cX11_shows 20 = .ok (.iconst 0, 1) := by decide +kernel
theorem dX11_shows_21 : decode cX11_shows 21 = .ok (.istore_n 3, 1) := by decide +kernel
theorem dX11_shows_22 : decode cX11_shows 22 = .ok (.iconst 0, 1) := by decide +kernel
theorem dX11_shows_23 : decode cX11_shows 23 = .ok (.istore 4, 2) := by decide +kernel
theorem dX11_shows_25 : decode cX11_shows 25 = .ok (.iload 4, 2) := by decide +kernel
theorem dX11_shows_27 : decode cX11_shows 27 = .ok (.aload_n 0, 1) := by decide +kernel
theorem dX11_shows_28 : decode cX11_shows 28 = .ok (.getfield 9, 3) := by decide +kernel
theorem dX11_shows_31 : decode cX11_shows 31 = .ok (.iload_n 1, 1) := by decide +kernel
theorem dX11_shows_32 : decode cX11_shows 32 = .ok (.aaload, 1) := by decide +kernel
theorem dX11_shows_33 : decode cX11_shows 33 = .ok (.arraylength, 1) := by decide +kernel
theorem dX11_shows_34 : decode cX11_shows 34 = .ok (.if_icmp .ge 29, 3) := by decide +kernel
theorem dX11_shows_37 : decode cX11_shows 37 = .ok (.iload_n 3, 1) := by decide +kernel
theorem dX11_shows_38 : decode cX11_shows 38 = .ok (.iload_n 2, 1) := by decide +kernel
theorem dX11_shows_39 : decode cX11_shows 39 = .ok (.ifCond .eq 7, 3) := by decide +kernel
theorem dX11_shows_42 : decode cX11_shows 42 = .ok (.iconst 1, 1) := by decide +kernel
theorem dX11_shows_43 : decode cX11_shows 43 = .ok (.goto 12, 3) := by decide +kernel
theorem dX11_shows_46 : decode cX11_shows 46 = .ok (.aload_n 0, 1) := by decide +kernel
theorem dX11_shows_47 : decode cX11_shows 47 = .ok (.getfield 9, 3) := by decide +kernel
theorem dX11_shows_50 : decode cX11_shows 50 = .ok (.iload_n 1, 1) := by decide +kernel
theorem dX11_shows_51 : decode cX11_shows 51 = .ok (.aaload, 1) := by decide +kernel
theorem dX11_shows_52 : decode cX11_shows 52 = .ok (.iload 4, 2) := by decide +kernel
theorem dX11_shows_54 : decode cX11_shows 54 = .ok (.iaload, 1) := by decide +kernel
theorem dX11_shows_55 : decode cX11_shows 55 = .ok (.iadd, 1) := by decide +kernel
theorem dX11_shows_56 : decode cX11_shows 56 = .ok (.istore_n 3, 1) := by decide +kernel
theorem dX11_shows_57 : decode cX11_shows 57 = .ok (.iinc 4 1, 3) := by decide +kernel
theorem dX11_shows_60 : decode cX11_shows 60 = .ok (.goto (-35), 3) := by decide +kernel
theorem dX11_shows_63 : decode cX11_shows 63 = .ok (.aload_n 0, 1) := by decide +kernel
theorem dX11_shows_64 : decode cX11_shows 64 = .ok (.getfield 35, 3) := by decide +kernel
theorem dX11_shows_67 : decode cX11_shows 67 = .ok (.iload_n 3, 1) := by decide +kernel
theorem dX11_shows_68 : decode cX11_shows 68 = .ok (.i2l, 1) := by decide +kernel
theorem dX11_shows_69 : decode cX11_shows 69 = .ok (.lrem, 1) := by decide +kernel
theorem dX11_shows_70 : decode cX11_shows 70 = .ok (.l2i, 1) := by decide +kernel
theorem dX11_shows_71 : decode cX11_shows 71 = .ok (.istore 4, 2) := by decide +kernel
theorem dX11_shows_73 : decode cX11_shows 73 = .ok (.iconst 0, 1) := by decide +kernel
theorem dX11_shows_74 : decode cX11_shows 74 = .ok (.istore 5, 2) := by decide +kernel
theorem dX11_shows_76 : decode cX11_shows 76 = .ok (.iconst 0, 1) := by decide +kernel
theorem dX11_shows_77 : decode cX11_shows 77 = .ok (.istore 6, 2) := by decide +kernel
theorem dX11_shows_79 : decode cX11_shows 79 = .ok (.iload 6, 2) := by decide +kernel
theorem dX11_shows_81 : decode cX11_shows 81 = .ok (.aload_n 0, 1) := by decide +kernel
theorem dX11_shows_82 : decode cX11_shows 82 = .ok (.getfield 9, 3) := by decide +kernel
theorem dX11_shows_85 : decode cX11_shows 85 = .ok (.iload_n 1, 1) := by decide +kernel
theorem dX11_shows_86 : decode cX11_shows 86 = .ok (.aaload, 1) := by decide +kernel
theorem dX11_shows_87 : decode cX11_shows 87 = .ok (.arraylength, 1) := by decide +kernel
theorem dX11_shows_88 : decode cX11_shows 88 = .ok (.if_icmp .ge 43, 3) := by decide +kernel
theorem dX11_shows_91 : decode cX11_shows 91 = .ok (.iload 5, 2) := by decide +kernel
theorem dX11_shows_93 : decode cX11_shows 93 = .ok (.iload_n 2, 1) := by decide +kernel
theorem dX11_shows_94 : decode cX11_shows 94 = .ok (.ifCond .eq 7, 3) := by decide +kernel
theorem dX11_shows_97 : decode cX11_shows 97 = .ok (.iconst 1, 1) := by decide +kernel
theorem dX11_shows_98 : decode cX11_shows 98 = .ok (.goto 12, 3) := by decide +kernel
theorem dX11_shows_101 : decode cX11_shows 101 = .ok (.aload_n 0, 1) := by decide +kernel
theorem dX11_shows_102 : decode cX11_shows 102 = .ok (.getfield 9, 3) := by decide +kernel
theorem dX11_shows_105 : decode cX11_shows 105 = .ok (.iload_n 1, 1) := by decide +kernel
theorem dX11_shows_106 : decode cX11_shows 106 = .ok (.aaload, 1) := by decide +kernel
theorem dX11_shows_107 : decode cX11_shows 107 = .ok (.iload 6, 2) := by decide +kernel
theorem dX11_shows_109 : decode cX11_shows 109 = .ok (.iaload, 1) := by decide +kernel
theorem dX11_shows_110 : decode cX11_shows 110 = .ok (.iadd, 1) := by decide +kernel
theorem dX11_shows_111 : decode cX11_shows 111 = .ok (.istore 5, 2) := by decide +kernel
theorem dX11_shows_113 : decode cX11_shows 113 = .ok (.iload 5, 2) := by decide +kernel
theorem dX11_shows_115 : decode cX11_shows 115 = .ok (.iload 4, 2) := by decide +kernel
theorem dX11_shows_117 : decode cX11_shows 117 = .ok (.if_icmp .le 8, 3) := by decide +kernel
theorem dX11_shows_120 : decode cX11_shows 120 = .ok (.iload 6, 2) := by decide +kernel
theorem dX11_shows_122 : decode cX11_shows 122 = .ok (.iconst 1, 1) := by decide +kernel
theorem dX11_shows_123 : decode cX11_shows 123 = .ok (.iadd, 1) := by decide +kernel
theorem dX11_shows_124 : decode cX11_shows 124 = .ok (.ireturn, 1) := by decide +kernel
theorem dX11_shows_125 : decode cX11_shows 125 = .ok (.iinc 6 1, 3) := by decide +kernel
theorem dX11_shows_128 : decode cX11_shows 128 = .ok (.goto (-49), 3) := by decide +kernel
theorem dX11_shows_131 : decode cX11_shows 131 = .ok (.iconst (-1), 1) := by decide +kernel
theorem dX11_shows_132 : decode cX11_shows 132 = .ok (.ireturn, 1) := by decide +kernel
theorem dX11_throwsDie_0 : decode cX11_throwsDie 0 = .ok (.iconst 0, 1) := by decide +kernel
theorem dX11_throwsDie_1 : decode cX11_throwsDie 1 = .ok (.istore 5, 2) := by decide +kernel
theorem dX11_throwsDie_3 : decode cX11_throwsDie 3 = .ok (.iconst 0, 1) := by decide +kernel
theorem dX11_throwsDie_4 : decode cX11_throwsDie 4 = .ok (.istore 6, 2) := by decide +kernel
theorem dX11_throwsDie_6 : decode cX11_throwsDie 6 = .ok (.iload 6, 2) := by decide +kernel
theorem dX11_throwsDie_8 : decode cX11_throwsDie 8 = .ok (.iload_n 3, 1) := by decide +kernel
theorem dX11_throwsDie_9 : decode cX11_throwsDie 9 = .ok (.if_icmp .ge 78, 3) := by decide +kernel
theorem dX11_throwsDie_12 : decode cX11_throwsDie 12 = .ok (.aload_n 0, 1) := by decide +kernel
theorem dX11_throwsDie_13 : decode cX11_throwsDie 13 = .ok (.getfield 15, 3) := by decide +kernel
theorem dX11_throwsDie_16 : decode cX11_throwsDie 16 = .ok (.aload_n 0, 1) := by decide +kernel
theorem dX11_throwsDie_17 : decode cX11_throwsDie 17 = .ok (.getfield 55, 3) := by decide +kernel
theorem dX11_throwsDie_20 : decode cX11_throwsDie 20 = .ok (.iconst 4, 1) := by decide +kernel
theorem dX11_throwsDie_21 : decode cX11_throwsDie 21 = .ok (.newarray .int, 2) := by decide +kernel
theorem dX11_throwsDie_23 : decode cX11_throwsDie 23 = .ok (.dup, 1) := by decide +kernel
theorem dX11_throwsDie_24 : decode cX11_throwsDie 24 = .ok (.iconst 0, 1) := by decide +kernel
theorem dX11_throwsDie_25 : decode cX11_throwsDie 25 = .ok (.iload_n 1, 1) := by decide +kernel
theorem dX11_throwsDie_26 : decode cX11_throwsDie 26 = .ok (.iastore, 1) := by decide +kernel
theorem dX11_throwsDie_27 : decode cX11_throwsDie 27 = .ok (.dup, 1) := by decide +kernel
theorem dX11_throwsDie_28 : decode cX11_throwsDie 28 = .ok (.iconst 1, 1) := by decide +kernel
theorem dX11_throwsDie_29 : decode cX11_throwsDie 29 = .ok (.iload_n 2, 1) := by decide +kernel
theorem dX11_throwsDie_30 : decode cX11_throwsDie 30 = .ok (.iastore, 1) := by decide +kernel
theorem dX11_throwsDie_31 : decode cX11_throwsDie 31 = .ok (.dup, 1) := by decide +kernel
theorem dX11_throwsDie_32 : decode cX11_throwsDie 32 = .ok (.iconst 2, 1) := by decide +kernel
theorem dX11_throwsDie_33 : decode cX11_throwsDie 33 = .ok (.aload_n 0, 1) := by decide +kernel
theorem dX11_throwsDie_34 : decode cX11_throwsDie 34 = .ok (.iload_n 2, 1) := by decide +kernel
theorem dX11_throwsDie_35 : decode cX11_throwsDie 35 = .ok (.iload 4, 2) := by decide +kernel
theorem dX11_throwsDie_37 : decode cX11_throwsDie 37 = .ok (.invokevirtual 58, 3) := by decide +kernel
theorem dX11_throwsDie_40 : decode cX11_throwsDie 40 = .ok (.iastore, 1) := by decide +kernel
theorem dX11_throwsDie_41 : decode cX11_throwsDie 41 = .ok (.dup, 1) := by decide +kernel
theorem dX11_throwsDie_42 : decode cX11_throwsDie 42 = .ok (.iconst 3, 1) := by decide +kernel
theorem dX11_throwsDie_43 : decode cX11_throwsDie 43 = .ok (.iload 4, 2) := by decide +kernel
theorem dX11_throwsDie_45 : decode cX11_throwsDie 45 = .ok (.ifCond .eq 7, 3) := by decide +kernel
theorem dX11_throwsDie_48 : decode cX11_throwsDie 48 = .ok (.iconst 1, 1) := by decide +kernel
theorem dX11_throwsDie_49 : decode cX11_throwsDie 49 = .ok (.goto 4, 3) := by decide +kernel
theorem dX11_throwsDie_52 : decode cX11_throwsDie 52 = .ok (.iconst 0, 1) := by decide +kernel
theorem dX11_throwsDie_53 : decode cX11_throwsDie 53 = .ok (.iastore, 1) := by decide +kernel
theorem dX11_throwsDie_54 : decode cX11_throwsDie 54 = .ok (.aastore, 1) := by decide +kernel
theorem dX11_throwsDie_55 : decode cX11_throwsDie 55 = .ok (.iload 5, 2) := by decide +kernel
theorem dX11_throwsDie_57 : decode cX11_throwsDie 57 = .ok (.aload_n 0, 1) := by decide +kernel
theorem dX11_throwsDie_58 : decode cX11_throwsDie 58 = .ok (.getfield 15, 3) := by decide +kernel
theorem dX11_throwsDie_61 : decode cX11_throwsDie 61 = .ok (.aload_n 0, 1) := by decide +kernel
theorem dX11_throwsDie_62 : decode cX11_throwsDie 62 = .ok (.getfield 55, 3) := by decide +kernel
theorem dX11_throwsDie_65 : decode cX11_throwsDie 65 = .ok (.aaload, 1) := by decide +kernel
theorem dX11_throwsDie_66 : decode cX11_throwsDie 66 = .ok (.iconst 2, 1) := by decide +kernel
theorem dX11_throwsDie_67 : decode cX11_throwsDie 67 = .ok (.iaload, 1) := by decide +kernel
theorem dX11_throwsDie_68 : decode cX11_throwsDie 68 = .ok (.iadd, 1) := by decide +kernel
theorem dX11_throwsDie_69 : decode cX11_throwsDie 69 = .ok (.istore 5, 2) := by decide +kernel
theorem dX11_throwsDie_71 : decode cX11_throwsDie 71 = .ok (.aload_n 0, 1) := by decide +kernel
theorem dX11_throwsDie_72 : decode cX11_throwsDie 72 = .ok (.dup, 1) := by decide +kernel
theorem dX11_throwsDie_73 : decode cX11_throwsDie 73 = .ok (.getfield 55, 3) := by decide +kernel
theorem dX11_throwsDie_76 : decode cX11_throwsDie 76 = .ok (.iconst 1, 1) := by decide +kernel
theorem dX11_throwsDie_77 : decode cX11_throwsDie 77 = .ok (.iadd, 1) := by decide +kernel
theorem dX11_throwsDie_78 : decode cX11_throwsDie 78 = .ok (.putfield 55, 3) := by decide +kernel
theorem dX11_throwsDie_81 : decode cX11_throwsDie 81 = .ok (.iinc 6 1, 3) := by decide +kernel
theorem dX11_throwsDie_84 : decode cX11_throwsDie 84 = .ok (.goto (-78), 3) := by decide +kernel
theorem dX11_throwsDie_87 : decode cX11_throwsDie 87 = .ok (.iload 5, 2) := by decide +kernel
theorem dX11_throwsDie_89 : decode cX11_throwsDie 89 = .ok (.ireturn, 1) := by decide +kernel
theorem dX11_ofPair_0 : decode cX11_ofPair 0 = .ok (.iconst 0, 1) := by decide +kernel
theorem dX11_ofPair_1 : decode cX11_ofPair 1 = .ok (.istore_n 3, 1) := by decide +kernel
theorem dX11_ofPair_2 : decode cX11_ofPair 2 = .ok (.iconst 0, 1) := by decide +kernel
theorem dX11_ofPair_3 : decode cX11_ofPair 3 = .ok (.istore 4, 2) := by decide +kernel
theorem dX11_ofPair_5 : decode cX11_ofPair 5 = .ok (.iload 4, 2) := by decide +kernel
theorem dX11_ofPair_7 : decode cX11_ofPair 7 = .ok (.aload_n 0, 1) := by decide +kernel
theorem dX11_ofPair_8 : decode cX11_ofPair 8 = .ok (.getfield 55, 3) := by decide +kernel
theorem dX11_ofPair_11 : decode cX11_ofPair 11 = .ok (.if_icmp .ge 38, 3) := by decide +kernel
theorem dX11_ofPair_14 : decode cX11_ofPair 14 = .ok (.aload_n 0, 1) := by decide +kernel
theorem dX11_ofPair_15 : decode cX11_ofPair 15 = .ok (.getfield 15, 3) := by decide +kernel
theorem dX11_ofPair_18 : decode cX11_ofPair 18 = .ok (.iload 4, 2) := by decide +kernel
theorem dX11_ofPair_20 : decode cX11_ofPair 20 = .ok (.aaload, 1) := by decide +kernel
theorem dX11_ofPair_21 : decode cX11_ofPair 21 = .ok (.iconst 0, 1) := by decide +kernel
theorem dX11_ofPair_22 : decode cX11_ofPair 22 = .ok (.iaload, 1) := by decide +kernel
theorem dX11_ofPair_23 : decode cX11_ofPair 23 = .ok (.iload_n 1, 1) := by decide +kernel
theorem dX11_ofPair_24 : decode cX11_ofPair 24 = .ok (.if_icmp .ne 19, 3) := by decide +kernel
theorem dX11_ofPair_27 : decode cX11_ofPair 27 = .ok (.aload_n 0, 1) := by decide +kernel
theorem dX11_ofPair_28 : decode cX11_ofPair 28 = .ok (.getfield 15, 3) := by decide +kernel
theorem dX11_ofPair_31 : decode cX11_ofPair 31 = .ok (.iload 4, 2) := by decide +kernel
theorem dX11_ofPair_33 : decode cX11_ofPair 33 = .ok (.aaload, 1) := by decide +kernel
theorem dX11_ofPair_34 : decode cX11_ofPair 34 = .ok (.iconst 1, 1) := by decide +kernel
theorem dX11_ofPair_35 : decode cX11_ofPair 35 = .ok (.iaload, 1) := by decide +kernel
theorem dX11_ofPair_36 : decode cX11_ofPair 36 = .ok (.iload_n 2, 1) := by decide +kernel
theorem dX11_ofPair_37 : decode cX11_ofPair 37 = .ok (.if_icmp .ne 6, 3) := by decide +kernel
theorem dX11_ofPair_40 : decode cX11_ofPair 40 = .ok (.iinc 3 1, 3) := by decide +kernel
theorem dX11_ofPair_43 : decode cX11_ofPair 43 = .ok (.iinc 4 1, 3) := by decide +kernel
theorem dX11_ofPair_46 : decode cX11_ofPair 46 = .ok (.goto (-41), 3) := by decide +kernel
theorem dX11_ofPair_49 : decode cX11_ofPair 49 = .ok (.iload_n 3, 1) := by decide +kernel
theorem dX11_ofPair_50 : decode cX11_ofPair 50 = .ok (.ireturn, 1) := by decide +kernel
theorem dX11_score_0 : decode cX11_score 0 = .ok (.aload_n 0, 1) := by decide +kernel
theorem dX11_score_1 : decode cX11_score 1 = .ok (.iload_n 1, 1) := by decide +kernel
theorem dX11_score_2 : decode cX11_score 2 = .ok (.iload_n 2, 1) := by decide +kernel
theorem dX11_score_3 : decode cX11_score 3 = .ok (.invokevirtual 62, 3) := by decide +kernel
theorem dX11_score_6 : decode cX11_score 6 = .ok (.istore_n 3, 1) := by decide +kernel
theorem dX11_score_7 : decode cX11_score 7 = .ok (.aload_n 0, 1) := by decide +kernel
theorem dX11_score_8 : decode cX11_score 8 = .ok (.getfield 9, 3) := by decide +kernel
theorem dX11_score_11 : decode cX11_score 11 = .ok (.iload_n 2, 1) := by decide +kernel
theorem dX11_score_12 : decode cX11_score 12 = .ok (.aaload, 1) := by decide +kernel
theorem dX11_score_13 : decode cX11_score 13 = .ok (.arraylength, 1) := by decide +kernel
theorem dX11_score_14 : decode cX11_score 14 = .ok (.istore 4, 2) := by decide +kernel
theorem dX11_score_16 : decode cX11_score 16 = .ok (.lconst 0, 1) := by decide +kernel
theorem dX11_score_17 : decode cX11_score 17 = .ok (.lstore 5, 2) := by decide +kernel
theorem dX11_score_19 : decode cX11_score 19 = .ok (.iconst 1, 1) := by decide +kernel
theorem dX11_score_20 : decode cX11_score 20 = .ok (.istore 7, 2) := by decide +kernel
theorem dX11_score_22 : decode cX11_score 22 = .ok (.iload 7, 2) := by decide +kernel
theorem dX11_score_24 : decode cX11_score 24 = .ok (.iload 4, 2) := by decide +kernel
theorem dX11_score_26 : decode cX11_score 26 = .ok (.if_icmp .gt 90, 3) := by decide +kernel
theorem dX11_score_29 : decode cX11_score 29 = .ok (.iload_n 3, 1) := by decide +kernel
theorem dX11_score_30 : decode cX11_score 30 = .ok (.ineg, 1) := by decide +kernel
theorem dX11_score_31 : decode cX11_score 31 = .ok (.i2l, 1) := by decide +kernel
theorem dX11_score_32 : decode cX11_score 32 = .ok (.lstore 8, 2) := by decide +kernel
theorem dX11_score_34 : decode cX11_score 34 = .ok (.iconst 0, 1) := by decide +kernel
theorem dX11_score_35 : decode cX11_score 35 = .ok (.istore 10, 2) := by decide +kernel
theorem dX11_score_37 : decode cX11_score 37 = .ok (.iload 10, 2) := by decide +kernel
theorem dX11_score_39 : decode cX11_score 39 = .ok (.aload_n 0, 1) := by decide +kernel
theorem dX11_score_40 : decode cX11_score 40 = .ok (.getfield 55, 3) := by decide +kernel
theorem dX11_score_43 : decode cX11_score 43 = .ok (.if_icmp .ge 57, 3) := by decide +kernel
theorem dX11_score_46 : decode cX11_score 46 = .ok (.aload_n 0, 1) := by decide +kernel
theorem dX11_score_47 : decode cX11_score 47 = .ok (.getfield 15, 3) := by decide +kernel
theorem dX11_score_50 : decode cX11_score 50 = .ok (.iload 10, 2) := by decide +kernel
theorem dX11_score_52 : decode cX11_score 52 = .ok (.aaload, 1) := by decide +kernel
theorem dX11_score_53 : decode cX11_score 53 = .ok (.iconst 0, 1) := by decide +kernel
theorem dX11_score_54 : decode cX11_score 54 = .ok (.iaload, 1) := by decide +kernel
theorem dX11_score_55 : decode cX11_score 55 = .ok (.iload_n 1, 1) := by decide +kernel
theorem dX11_score_56 : decode cX11_score 56 = .ok (.if_icmp .ne 38, 3) := by decide +kernel
theorem dX11_score_59 : decode cX11_score 59 = .ok (.aload_n 0, 1) := by decide +kernel
theorem dX11_score_60 : decode cX11_score 60 = .ok (.getfield 15, 3) := by decide +kernel
theorem dX11_score_63 : decode cX11_score 63 = .ok (.iload 10, 2) := by decide +kernel
theorem dX11_score_65 : decode cX11_score 65 = .ok (.aaload, 1) := by decide +kernel
theorem dX11_score_66 : decode cX11_score 66 = .ok (.iconst 1, 1) := by decide +kernel
theorem dX11_score_67 : decode cX11_score 67 = .ok (.iaload, 1) := by decide +kernel
theorem dX11_score_68 : decode cX11_score 68 = .ok (.iload_n 2, 1) := by decide +kernel
theorem dX11_score_69 : decode cX11_score 69 = .ok (.if_icmp .ne 25, 3) := by decide +kernel
theorem dX11_score_72 : decode cX11_score 72 = .ok (.aload_n 0, 1) := by decide +kernel
theorem dX11_score_73 : decode cX11_score 73 = .ok (.getfield 15, 3) := by decide +kernel
theorem dX11_score_76 : decode cX11_score 76 = .ok (.iload 10, 2) := by decide +kernel
theorem dX11_score_78 : decode cX11_score 78 = .ok (.aaload, 1) := by decide +kernel
theorem dX11_score_79 : decode cX11_score 79 = .ok (.iconst 2, 1) := by decide +kernel
theorem dX11_score_80 : decode cX11_score 80 = .ok (.iaload, 1) := by decide +kernel
theorem dX11_score_81 : decode cX11_score 81 = .ok (.iload 7, 2) := by decide +kernel
theorem dX11_score_83 : decode cX11_score 83 = .ok (.if_icmp .ne 11, 3) := by decide +kernel
theorem dX11_score_86 : decode cX11_score 86 = .ok (.lload 8, 2) := by decide +kernel
theorem dX11_score_88 : decode cX11_score 88 = .ok (.iload 4, 2) := by decide +kernel
theorem dX11_score_90 : decode cX11_score 90 = .ok (.i2l, 1) := by decide +kernel
theorem dX11_score_91 : decode cX11_score 91 = .ok (.ladd, 1) := by decide +kernel
theorem dX11_score_92 : decode cX11_score 92 = .ok (.lstore 8, 2) := by decide +kernel
theorem dX11_score_94 : decode cX11_score 94 = .ok (.iinc 10 1, 3) := by decide +kernel
theorem dX11_score_97 : decode cX11_score 97 = .ok (.goto (-60), 3) := by decide +kernel
theorem dX11_score_100 : decode cX11_score 100 = .ok (.lload 5, 2) := by decide +kernel
theorem dX11_score_102 : decode cX11_score 102 = .ok (.lload 8, 2) := by decide +kernel
theorem dX11_score_104 : decode cX11_score 104 = .ok (.lload 8, 2) := by decide +kernel
theorem dX11_score_106 : decode cX11_score 106 = .ok (.lmul, 1) := by decide +kernel
theorem dX11_score_107 : decode cX11_score 107 = .ok (.ladd, 1) := by decide +kernel
theorem dX11_score_108 : decode cX11_score 108 = .ok (.lstore 5, 2) := by decide +kernel
theorem dX11_score_110 : decode cX11_score 110 = .ok (.iinc 7 1, 3) := by decide +kernel
theorem dX11_score_113 : decode cX11_score 113 = .ok (.goto (-91), 3) := by decide +kernel
theorem dX11_score_116 : decode cX11_score 116 = .ok (.iload_n 3, 1) := by decide +kernel
theorem dX11_score_117 : decode cX11_score 117 = .ok (.ifCond .ne 7, 3) := by decide +kernel
theorem dX11_score_120 : decode cX11_score 120 = .ok (.iconst 0, 1) := by decide +kernel
theorem dX11_score_121 : decode cX11_score 121 = .ok (.goto 12, 3) := by decide +kernel
theorem dX11_score_124 : decode cX11_score 124 = .ok (.lload 5, 2) := by decide +kernel
theorem dX11_score_126 : decode cX11_score 126 = .ok (.iload_n 3, 1) := by decide +kernel
theorem dX11_score_127 : decode cX11_score 127 = .ok (.iload 4, 2) := by decide +kernel
theorem dX11_score_129 : decode cX11_score 129 = .ok (.imul, 1) := by decide +kernel
theorem dX11_score_130 : decode cX11_score 130 = .ok (.i2l, 1) := by decide +kernel
theorem dX11_score_131 : decode cX11_score 131 = .ok (.ldiv, 1) := by decide +kernel
theorem dX11_score_132 : decode cX11_score 132 = .ok (.l2i, 1) := by decide +kernel
theorem dX11_score_133 : decode cX11_score 133 = .ok (.ireturn, 1) := by decide +kernel
theorem dX11_isBad_0 : decode cX11_isBad 0 = .ok (.aload_n 0, 1) := by decide +kernel
theorem dX11_isBad_1 : decode cX11_isBad 1 = .ok (.iload_n 1, 1) := by decide +kernel
theorem dX11_isBad_2 : decode cX11_isBad 2 = .ok (.iload_n 2, 1) := by decide +kernel
theorem dX11_isBad_3 : decode cX11_isBad 3 = .ok (.invokevirtual 62, 3) := by decide +kernel
theorem dX11_isBad_6 : decode cX11_isBad 6 = .ok (.aload_n 0, 1) := by decide +kernel
theorem dX11_isBad_7 : decode cX11_isBad 7 = .ok (.getfield 41, 3) := by decide +kernel
theorem dX11_isBad_10 : decode cX11_isBad 10 = .ok (.if_icmp .lt 20, 3) := by decide +kernel
theorem dX11_isBad_13 : decode cX11_isBad 13 = .ok (.aload_n 0, 1) := by decide +kernel
theorem dX11_isBad_14 : decode cX11_isBad 14 = .ok (.iload_n 1, 1) := by decide +kernel
theorem dX11_isBad_15 : decode cX11_isBad 15 = .ok (.iload_n 2, 1) := by decide +kernel
theorem dX11_isBad_16 : decode cX11_isBad 16 = .ok (.invokevirtual 65, 3) := by decide +kernel
theorem dX11_isBad_19 : decode cX11_isBad 19 = .ok (.aload_n 0, 1) := by decide +kernel
theorem dX11_isBad_20 : decode cX11_isBad 20 = .ok (.getfield 47, 3) := by decide +kernel
theorem dX11_isBad_23 : decode cX11_isBad 23 = .ok (.if_icmp .le 7, 3) := by decide +kernel
theorem dX11_isBad_26 : decode cX11_isBad 26 = .ok (.iconst 1, 1) := by decide +kernel
theorem dX11_isBad_27 : decode cX11_isBad 27 = .ok (.goto 4, 3) := by decide +kernel
theorem dX11_isBad_30 : decode cX11_isBad 30 = .ok (.iconst 0, 1) := by decide +kernel
theorem dX11_isBad_31 : decode cX11_isBad 31 = .ok (.ireturn, 1) := by decide +kernel
theorem dX11_isQueued_0 : decode cX11_isQueued 0 = .ok (.iconst 0, 1) := by decide +kernel
theorem dX11_isQueued_1 : decode cX11_isQueued 1 = .ok (.istore_n 3, 1) := by decide +kernel
theorem dX11_isQueued_2 : decode cX11_isQueued 2 = .ok (.iload_n 3, 1) := by decide +kernel
theorem dX11_isQueued_3 : decode cX11_isQueued 3 = .ok (.aload_n 0, 1) := by decide +kernel
theorem dX11_isQueued_4 : decode cX11_isQueued 4 = .ok (.getfield 68, 3) := by decide +kernel
theorem dX11_isQueued_7 : decode cX11_isQueued 7 = .ok (.if_icmp .ge 35, 3) := by decide +kernel
theorem dX11_isQueued_10 : decode cX11_isQueued 10 = .ok (.aload_n 0, 1) := by decide +kernel
theorem dX11_isQueued_11 : decode cX11_isQueued 11 = .ok (.getfield 18, 3) := by decide +kernel
theorem dX11_isQueued_14 : decode cX11_isQueued 14 = .ok (.iload_n 3, 1) := by decide +kernel
theorem dX11_isQueued_15 : decode cX11_isQueued 15 = .ok (.aaload, 1) := by decide +kernel
theorem dX11_isQueued_16 : decode cX11_isQueued 16 = .ok (.iconst 0, 1) := by decide +kernel
theorem dX11_isQueued_17 : decode cX11_isQueued 17 = .ok (.iaload, 1) := by decide +kernel
theorem dX11_isQueued_18 : decode cX11_isQueued 18 = .ok (.iload_n 1, 1) := by decide +kernel
theorem dX11_isQueued_19 : decode cX11_isQueued 19 = .ok (.if_icmp .ne 17, 3) := by decide +kernel
theorem dX11_isQueued_22 : decode cX11_isQueued 22 = .ok (.aload_n 0, 1) := by decide +kernel
theorem dX11_isQueued_23 : decode cX11_isQueued 23 = .ok (.getfield 18, 3) := by decide +kernel
theorem dX11_isQueued_26 : decode cX11_isQueued 26 = .ok (.iload_n 3, 1) := by decide +kernel
theorem dX11_isQueued_27 : decode cX11_isQueued 27 = .ok (.aaload, 1) := by decide +kernel
theorem dX11_isQueued_28 : decode cX11_isQueued 28 = .ok (.iconst 1, 1) := by decide +kernel
theorem dX11_isQueued_29 : decode cX11_isQueued 29 = .ok (.iaload, 1) := by decide +kernel
theorem dX11_isQueued_30 : decode cX11_isQueued 30 = .ok (.iload_n 2, 1) := by decide +kernel
theorem dX11_isQueued_31 : decode cX11_isQueued 31 = .ok (.if_icmp .ne 5, 3) := by decide +kernel
theorem dX11_isQueued_34 : decode cX11_isQueued 34 = .ok (.iconst 1, 1) := by decide +kernel
theorem dX11_isQueued_35 : decode cX11_isQueued 35 = .ok (.ireturn, 1) := by decide +kernel
theorem dX11_isQueued_36 : decode cX11_isQueued 36 = .ok (.iinc 3 1, 3) := by decide +kernel
theorem dX11_isQueued_39 : decode cX11_isQueued 39 = .ok (.goto (-37), 3) := by decide +kernel
theorem dX11_isQueued_42 : decode cX11_isQueued 42 = .ok (.iconst 0, 1) := by decide +kernel
theorem dX11_isQueued_43 : decode cX11_isQueued 43 = .ok (.ireturn, 1) := by decide +kernel
theorem dX11_audits_0 : decode cX11_audits 0 = .ok (.iconst 0, 1) := by decide +kernel
theorem dX11_audits_1 : decode cX11_audits 1 = .ok (.istore_n 1, 1) := by decide +kernel
theorem dX11_audits_2 : decode cX11_audits 2 = .ok (.iconst 0, 1) := by decide +kernel
theorem dX11_audits_3 : decode cX11_audits 3 = .ok (.istore_n 2, 1) := by decide +kernel
theorem dX11_audits_4 : decode cX11_audits 4 = .ok (.iload_n 2, 1) := by decide +kernel
theorem dX11_audits_5 : decode cX11_audits 5 = .ok (.iconst 3, 1) := by decide +kernel
theorem dX11_audits_6 : decode cX11_audits 6 = .ok (.if_icmp .ge 85, 3) := by decide +kernel
theorem dX11_audits_9 : decode cX11_audits 9 = .ok (.iconst 0, 1) := by decide +kernel
theorem dX11_audits_10 : decode cX11_audits 10 = .ok (.istore_n 3, 1) := by decide +kernel
theorem dX11_audits_11 : decode cX11_audits 11 = .ok (.iload_n 3, 1) := by decide +kernel
theorem dX11_audits_12 : decode cX11_audits 12 = .ok (.iconst 3, 1) := by decide +kernel
theorem dX11_audits_13 : decode cX11_audits 13 = .ok (.if_icmp .ge 72, 3) := by decide +kernel
theorem dX11_audits_16 : decode cX11_audits 16 = .ok (.aload_n 0, 1) := by decide +kernel
theorem dX11_audits_17 : decode cX11_audits 17 = .ok (.iload_n 2, 1) := by decide +kernel
theorem dX11_audits_18 : decode cX11_audits 18 = .ok (.iload_n 3, 1) := by decide +kernel
theorem dX11_audits_19 : decode cX11_audits 19 = .ok (.invokevirtual 71, 3) := by decide +kernel
theorem dX11_audits_22 : decode cX11_audits 22 = .ok (.ifCond .eq 57, 3) := by decide +kernel
theorem dX11_audits_25 : decode cX11_audits 25 = .ok (.aload_n 0, 1) := by decide +kernel
theorem dX11_audits_26 : decode cX11_audits 26 = .ok (.iload_n 2, 1) := by decide +kernel
theorem dX11_audits_27 : decode cX11_audits 27 = .ok (.iload_n 3, 1) := by decide +kernel
theorem dX11_audits_28 : decode cX11_audits 28 = .ok (.invokevirtual 75, 3) := by decide +kernel
theorem dX11_audits_31 : decode cX11_audits 31 = .ok (.ifCond .eq 6, 3) := by decide +kernel
theorem dX11_audits_34 : decode cX11_audits 34 = .ok (.goto 45, 3) := by decide +kernel
theorem dX11_audits_37 : decode cX11_audits 37 = .ok (.aload_n 0, 1) := by decide +kernel
theorem dX11_audits_38 : decode cX11_audits 38 = .ok (.getfield 18, 3) := by decide +kernel
theorem dX11_audits_41 : decode cX11_audits 41 = .ok (.aload_n 0, 1) := by decide +kernel
theorem dX11_audits_42 : decode cX11_audits 42 = .ok (.getfield 68, 3) := by decide +kernel
theorem dX11_audits_45 : decode cX11_audits 45 = .ok (.iconst 3, 1) := by decide +kernel
theorem dX11_audits_46 : decode cX11_audits 46 = .ok (.newarray .int, 2) := by decide +kernel
theorem dX11_audits_48 : decode cX11_audits 48 = .ok (.dup, 1) := by decide +kernel
theorem dX11_audits_49 : decode cX11_audits 49 = .ok (.iconst 0, 1) := by decide +kernel
theorem dX11_audits_50 : decode cX11_audits 50 = .ok (.iload_n 2, 1) := by decide +kernel
theorem dX11_audits_51 : decode cX11_audits 51 = .ok (.iastore, 1) := by decide +kernel
theorem dX11_audits_52 : decode cX11_audits 52 = .ok (.dup, 1) := by decide +kernel
theorem dX11_audits_53 : decode cX11_audits 53 = .ok (.iconst 1, 1) := by decide +kernel
theorem dX11_audits_54 : decode cX11_audits 54 = .ok (.iload_n 3, 1) := by decide +kernel
theorem dX11_audits_55 : decode cX11_audits 55 = .ok (.iastore, 1) := by decide +kernel
theorem dX11_audits_56 : decode cX11_audits 56 = .ok (.dup, 1) := by decide +kernel
theorem dX11_audits_57 : decode cX11_audits 57 = .ok (.iconst 2, 1) := by decide +kernel
theorem dX11_audits_58 : decode cX11_audits 58 = .ok (.aload_n 0, 1) := by decide +kernel
theorem dX11_audits_59 : decode cX11_audits 59 = .ok (.iload_n 2, 1) := by decide +kernel
theorem dX11_audits_60 : decode cX11_audits 60 = .ok (.iload_n 3, 1) := by decide +kernel
theorem dX11_audits_61 : decode cX11_audits 61 = .ok (.invokevirtual 65, 3) := by decide +kernel
theorem dX11_audits_64 : decode cX11_audits 64 = .ok (.iastore, 1) := by decide +kernel
theorem dX11_audits_65 : decode cX11_audits 65 = .ok (.aastore, 1) := by decide +kernel
theorem dX11_audits_66 : decode cX11_audits 66 = .ok (.aload_n 0, 1) := by decide +kernel
theorem dX11_audits_67 : decode cX11_audits 67 = .ok (.dup, 1) := by decide +kernel
theorem dX11_audits_68 : decode cX11_audits 68 = .ok (.getfield 68, 3) := by decide +kernel
theorem dX11_audits_71 : decode cX11_audits 71 = .ok (.iconst 1, 1) := by decide +kernel
theorem dX11_audits_72 : decode cX11_audits 72 = .ok (.iadd, 1) := by decide +kernel
theorem dX11_audits_73 : decode cX11_audits 73 = .ok (.putfield 68, 3) := by decide +kernel
theorem dX11_audits_76 : decode cX11_audits 76 = .ok (.iinc 1 1, 3) := by decide +kernel
theorem dX11_audits_79 : decode cX11_audits 79 = .ok (.iinc 3 1, 3) := by decide +kernel
theorem dX11_audits_82 : decode cX11_audits 82 = .ok (.goto (-71), 3) := by decide +kernel
theorem dX11_audits_85 : decode cX11_audits 85 = .ok (.iinc 2 1, 3) := by decide +kernel
theorem dX11_audits_88 : decode cX11_audits 88 = .ok (.goto (-84), 3) := by decide +kernel
theorem dX11_audits_91 : decode cX11_audits 91 = .ok (.iload_n 1, 1) := by decide +kernel
theorem dX11_audits_92 : decode cX11_audits 92 = .ok (.ireturn, 1) := by decide +kernel
theorem dX11_isWorse_0 : decode cX11_isWorse 0 = .ok (.aload_n 1, 1) := by decide +kernel
theorem dX11_isWorse_1 : decode cX11_isWorse 1 = .ok (.iconst 2, 1) := by decide +kernel
theorem dX11_isWorse_2 : decode cX11_isWorse 2 = .ok (.iaload, 1) := by decide +kernel
theorem dX11_isWorse_3 : decode cX11_isWorse 3 = .ok (.aload_n 2, 1) := by decide +kernel
theorem dX11_isWorse_4 : decode cX11_isWorse 4 = .ok (.iconst 2, 1) := by decide +kernel
theorem dX11_isWorse_5 : decode cX11_isWorse 5 = .ok (.iaload, 1) := by decide +kernel
theorem dX11_isWorse_6 : decode cX11_isWorse 6 = .ok (.if_icmp .eq 20, 3) := by decide +kernel
theorem dX11_isWorse_9 : decode cX11_isWorse 9 = .ok (.aload_n 1, 1) := by decide +kernel
theorem dX11_isWorse_10 : decode cX11_isWorse 10 = .ok (.iconst 2, 1) := by decide +kernel
theorem dX11_isWorse_11 : decode cX11_isWorse 11 = .ok (.iaload, 1) := by decide +kernel
theorem dX11_isWorse_12 : decode cX11_isWorse 12 = .ok (.aload_n 2, 1) := by decide +kernel
theorem dX11_isWorse_13 : decode cX11_isWorse 13 = .ok (.iconst 2, 1) := by decide +kernel
theorem dX11_isWorse_14 : decode cX11_isWorse 14 = .ok (.iaload, 1) := by decide +kernel
theorem dX11_isWorse_15 : decode cX11_isWorse 15 = .ok (.if_icmp .le 7, 3) := by decide +kernel
theorem dX11_isWorse_18 : decode cX11_isWorse 18 = .ok (.iconst 1, 1) := by decide +kernel
theorem dX11_isWorse_19 : decode cX11_isWorse 19 = .ok (.goto 47, 3) := by decide +kernel
theorem dX11_isWorse_22 : decode cX11_isWorse 22 = .ok (.iconst 0, 1) := by decide +kernel
theorem dX11_isWorse_23 : decode cX11_isWorse 23 = .ok (.goto 43, 3) := by decide +kernel
theorem dX11_isWorse_26 : decode cX11_isWorse 26 = .ok (.aload_n 1, 1) := by decide +kernel
theorem dX11_isWorse_27 : decode cX11_isWorse 27 = .ok (.iconst 0, 1) := by decide +kernel
theorem dX11_isWorse_28 : decode cX11_isWorse 28 = .ok (.iaload, 1) := by decide +kernel
theorem dX11_isWorse_29 : decode cX11_isWorse 29 = .ok (.aload_n 2, 1) := by decide +kernel
theorem dX11_isWorse_30 : decode cX11_isWorse 30 = .ok (.iconst 0, 1) := by decide +kernel
theorem dX11_isWorse_31 : decode cX11_isWorse 31 = .ok (.iaload, 1) := by decide +kernel
theorem dX11_isWorse_32 : decode cX11_isWorse 32 = .ok (.if_icmp .eq 20, 3) := by decide +kernel
theorem dX11_isWorse_35 : decode cX11_isWorse 35 = .ok (.aload_n 1, 1) := by decide +kernel
theorem dX11_isWorse_36 : decode cX11_isWorse 36 = .ok (.iconst 0, 1) := by decide +kernel
theorem dX11_isWorse_37 : decode cX11_isWorse 37 = .ok (.iaload, 1) := by decide +kernel
theorem dX11_isWorse_38 : decode cX11_isWorse 38 = .ok (.aload_n 2, 1) := by decide +kernel
theorem dX11_isWorse_39 : decode cX11_isWorse 39 = .ok (.iconst 0, 1) := by decide +kernel
theorem dX11_isWorse_40 : decode cX11_isWorse 40 = .ok (.iaload, 1) := by decide +kernel
theorem dX11_isWorse_41 : decode cX11_isWorse 41 = .ok (.if_icmp .ge 7, 3) := by decide +kernel
theorem dX11_isWorse_44 : decode cX11_isWorse 44 = .ok (.iconst 1, 1) := by decide +kernel
theorem dX11_isWorse_45 : decode cX11_isWorse 45 = .ok (.goto 21, 3) := by decide +kernel
theorem dX11_isWorse_48 : decode cX11_isWorse 48 = .ok (.iconst 0, 1) := by decide +kernel
theorem dX11_isWorse_49 : decode cX11_isWorse 49 = .ok (.goto 17, 3) := by decide +kernel
theorem dX11_isWorse_52 : decode cX11_isWorse 52 = .ok (.aload_n 1, 1) := by decide +kernel
theorem dX11_isWorse_53 : decode cX11_isWorse 53 = .ok (.iconst 1, 1) := by decide +kernel
theorem dX11_isWorse_54 : decode cX11_isWorse 54 = .ok (.iaload, 1) := by decide +kernel
theorem dX11_isWorse_55 : decode cX11_isWorse 55 = .ok (.aload_n 2, 1) := by decide +kernel
theorem dX11_isWorse_56 : decode cX11_isWorse 56 = .ok (.iconst 1, 1) := by decide +kernel
theorem dX11_isWorse_57 : decode cX11_isWorse 57 = .ok (.iaload, 1) := by decide +kernel
theorem dX11_isWorse_58 : decode cX11_isWorse 58 = .ok (.if_icmp .ge 7, 3) := by decide +kernel
theorem dX11_isWorse_61 : decode cX11_isWorse 61 = .ok (.iconst 1, 1) := by decide +kernel
theorem dX11_isWorse_62 : decode cX11_isWorse 62 = .ok (.goto 4, 3) := by decide +kernel
theorem dX11_isWorse_65 : decode cX11_isWorse 65 = .ok (.iconst 0, 1) := by decide +kernel
theorem dX11_isWorse_66 : decode cX11_isWorse 66 = .ok (.ireturn, 1) := by decide +kernel
theorem dX11_rank_0 : decode cX11_rank 0 = .ok (.iconst 0, 1) := by decide +kernel
theorem dX11_rank_1 : decode cX11_rank 1 = .ok (.istore_n 2, 1) := by decide +kernel
theorem dX11_rank_2 : decode cX11_rank 2 = .ok (.iconst 0, 1) := by decide +kernel
theorem dX11_rank_3 : decode cX11_rank 3 = .ok (.istore_n 3, 1) := by decide +kernel
theorem dX11_rank_4 : decode cX11_rank 4 = .ok (.iload_n 3, 1) := by decide +kernel
theorem dX11_rank_5 : decode cX11_rank 5 = .ok (.aload_n 0, 1) := by decide +kernel
theorem dX11_rank_6 : decode cX11_rank 6 = .ok (.getfield 68, 3) := by decide +kernel
theorem dX11_rank_9 : decode cX11_rank 9 = .ok (.if_icmp .ge 31, 3) := by decide +kernel
theorem dX11_rank_12 : decode cX11_rank 12 = .ok (.aload_n 0, 1) := by decide +kernel
theorem dX11_rank_13 : decode cX11_rank 13 = .ok (.aload_n 0, 1) := by decide +kernel
theorem dX11_rank_14 : decode cX11_rank 14 = .ok (.getfield 18, 3) := by decide +kernel
theorem dX11_rank_17 : decode cX11_rank 17 = .ok (.iload_n 3, 1) := by decide +kernel
theorem dX11_rank_18 : decode cX11_rank 18 = .ok (.aaload, 1) := by decide +kernel
theorem dX11_rank_19 : decode cX11_rank 19 = .ok (.aload_n 0, 1) := by decide +kernel
theorem dX11_rank_20 : decode cX11_rank 20 = .ok (.getfield 18, 3) := by decide +kernel
theorem dX11_rank_23 : decode cX11_rank 23 = .ok (.iload_n 1, 1) := by decide +kernel
theorem dX11_rank_24 : decode cX11_rank 24 = .ok (.aaload, 1) := by decide +kernel
theorem dX11_rank_25 : decode cX11_rank 25 = .ok (.invokevirtual 78, 3) := by decide +kernel
theorem dX11_rank_28 : decode cX11_rank 28 = .ok (.ifCond .eq 6, 3) := by decide +kernel
theorem dX11_rank_31 : decode cX11_rank 31 = .ok (.iinc 2 1, 3) := by decide +kernel
theorem dX11_rank_34 : decode cX11_rank 34 = .ok (.iinc 3 1, 3) := by decide +kernel
theorem dX11_rank_37 : decode cX11_rank 37 = .ok (.goto (-33), 3) := by decide +kernel
theorem dX11_rank_40 : decode cX11_rank 40 = .ok (.iload_n 2, 1) := by decide +kernel
theorem dX11_rank_41 : decode cX11_rank 41 = .ok (.ireturn, 1) := by decide +kernel
theorem dX11_unqueue_0 : decode cX11_unqueue 0 = .ok (.aload_n 0, 1) := by decide +kernel
theorem dX11_unqueue_1 : decode cX11_unqueue 1 = .ok (.dup, 1) := by decide +kernel
theorem dX11_unqueue_2 : decode cX11_unqueue 2 = .ok (.getfield 68, 3) := by decide +kernel
theorem dX11_unqueue_5 : decode cX11_unqueue 5 = .ok (.iconst 1, 1) := by decide +kernel
theorem dX11_unqueue_6 : decode cX11_unqueue 6 = .ok (.isub, 1) := by decide +kernel
theorem dX11_unqueue_7 : decode cX11_unqueue 7 = .ok (.putfield 68, 3) := by decide +kernel
theorem dX11_unqueue_10 : decode cX11_unqueue 10 = .ok (.aload_n 0, 1) := by decide +kernel
theorem dX11_unqueue_11 : decode cX11_unqueue 11 = .ok (.getfield 18, 3) := by decide +kernel
theorem dX11_unqueue_14 : decode cX11_unqueue 14 = .ok (.iload_n 1, 1) := by decide +kernel
theorem dX11_unqueue_15 : decode cX11_unqueue 15 = .ok (.aload_n 0, 1) := by decide +kernel
theorem dX11_unqueue_16 : decode cX11_unqueue 16 = .ok (.getfield 18, 3) := by decide +kernel
theorem dX11_unqueue_19 : decode cX11_unqueue 19 = .ok (.aload_n 0, 1) := by decide +kernel
theorem dX11_unqueue_20 : decode cX11_unqueue 20 = .ok (.getfield 68, 3) := by decide +kernel
theorem dX11_unqueue_23 : decode cX11_unqueue 23 = .ok (.aaload, 1) := by decide +kernel
theorem dX11_unqueue_24 : decode cX11_unqueue 24 = .ok (.aastore, 1) := by decide +kernel
theorem dX11_unqueue_25 : decode cX11_unqueue 25 = .ok (.return_, 1) := by decide +kernel
theorem dX11_absolves_0 : decode cX11_absolves 0 = .ok (.aload_n 0, 1) := by decide +kernel
theorem dX11_absolves_1 : decode cX11_absolves 1 = .ok (.getfield 68, 3) := by decide +kernel
theorem dX11_absolves_4 : decode cX11_absolves 4 = .ok (.ifCond .ne 6, 3) := by decide +kernel
theorem dX11_absolves_7 : decode cX11_absolves 7 = .ok (.bipush (-9), 2) := by decide +kernel
theorem dX11_absolves_9 : decode cX11_absolves 9 = .ok (.ireturn, 1) := by decide +kernel
theorem dX11_absolves_10 : decode cX11_absolves 10 = .ok (.iconst 0, 1) := by decide +kernel
theorem dX11_absolves_11 : decode cX11_absolves 11 = .ok (.istore_n 1, 1) := by decide +kernel
theorem dX11_absolves_12 : decode cX11_absolves 12 = .ok (.aload_n 0, 1) := by decide +kernel
theorem dX11_absolves_13 : decode cX11_absolves 13 = .ok (.iload_n 1, 1) := by decide +kernel
theorem dX11_absolves_14 : decode cX11_absolves 14 = .ok (.invokevirtual 82, 3) := by decide +kernel
theorem dX11_absolves_17 : decode cX11_absolves 17 = .ok (.ifCond .eq 9, 3) := by decide +kernel
theorem dX11_absolves_20 : decode cX11_absolves 20 = .ok (.iinc 1 1, 3) := by decide +kernel
theorem dX11_absolves_23 : decode cX11_absolves 23 = .ok (.goto (-11), 3) := by decide +kernel
theorem dX11_absolves_26 : decode cX11_absolves 26 = .ok (.aload_n 0, 1) := by decide +kernel
theorem dX11_absolves_27 : decode cX11_absolves 27 = .ok (.getfield 18, 3) := by decide +kernel
theorem dX11_absolves_30 : decode cX11_absolves 30 = .ok (.iload_n 1, 1) := by decide +kernel
theorem dX11_absolves_31 : decode cX11_absolves 31 = .ok (.aaload, 1) := by decide +kernel
theorem dX11_absolves_32 : decode cX11_absolves 32 = .ok (.iconst 0, 1) := by decide +kernel
theorem dX11_absolves_33 : decode cX11_absolves 33 = .ok (.iaload, 1) := by decide +kernel
theorem dX11_absolves_34 : decode cX11_absolves 34 = .ok (.istore_n 2, 1) := by decide +kernel
theorem dX11_absolves_35 : decode cX11_absolves 35 = .ok (.aload_n 0, 1) := by decide +kernel
theorem dX11_absolves_36 : decode cX11_absolves 36 = .ok (.getfield 18, 3) := by decide +kernel
theorem dX11_absolves_39 : decode cX11_absolves 39 = .ok (.iload_n 1, 1) := by decide +kernel
theorem dX11_absolves_40 : decode cX11_absolves 40 = .ok (.aaload, 1) := by decide +kernel
theorem dX11_absolves_41 : decode cX11_absolves 41 = .ok (.iconst 1, 1) := by decide +kernel
theorem dX11_absolves_42 : decode cX11_absolves 42 = .ok (.iaload, 1) := by decide +kernel
theorem dX11_absolves_43 : decode cX11_absolves 43 = .ok (.istore_n 3, 1) := by decide +kernel
theorem dX11_absolves_44 : decode cX11_absolves 44 = .ok (.aload_n 0, 1) := by decide +kernel
theorem dX11_absolves_45 : decode cX11_absolves 45 = .ok (.getfield 18, 3) := by decide +kernel
theorem dX11_absolves_48 : decode cX11_absolves 48 = .ok (.iload_n 1, 1) := by decide +kernel
theorem dX11_absolves_49 : decode cX11_absolves 49 = .ok (.aaload, 1) := by decide +kernel
theorem dX11_absolves_50 : decode cX11_absolves 50 = .ok (.iconst 2, 1) := by decide +kernel
theorem dX11_absolves_51 : decode cX11_absolves 51 = .ok (.iaload, 1) := by decide +kernel
theorem dX11_absolves_52 : decode cX11_absolves 52 = .ok (.aload_n 0, 1) := by decide +kernel
theorem dX11_absolves_53 : decode cX11_absolves 53 = .ok (.iload_n 2, 1) := by decide +kernel
theorem dX11_absolves_54 : decode cX11_absolves 54 = .ok (.iload_n 3, 1) := by decide +kernel
theorem dX11_absolves_55 : decode cX11_absolves 55 = .ok (.invokevirtual 62, 3) := by decide +kernel
theorem dX11_absolves_58 : decode cX11_absolves 58 = .ok (.invokestatic 85, 3) := by decide +kernel
theorem dX11_absolves_61 : decode cX11_absolves 61 = .ok (.istore 4, 2) := by decide +kernel
theorem dX11_absolves_63 : decode cX11_absolves 63 = .ok (.iload 4, 2) := by decide +kernel
theorem dX11_absolves_65 : decode cX11_absolves 65 = .ok (.istore 5, 2) := by decide +kernel
theorem dX11_absolves_67 : decode cX11_absolves 67 = .ok (.aload_n 0, 1) := by decide +kernel
theorem dX11_absolves_68 : decode cX11_absolves 68 = .ok (.iload_n 1, 1) := by decide +kernel
theorem dX11_absolves_69 : decode cX11_absolves 69 = .ok (.invokevirtual 90, 3) := by decide +kernel
theorem dX11_absolves_72 : decode cX11_absolves 72 = .ok (.aload_n 0, 1) := by decide +kernel
theorem dX11_absolves_73 : decode cX11_absolves 73 = .ok (.getfield 55, 3) := by decide +kernel
theorem dX11_absolves_76 : decode cX11_absolves 76 = .ok (.iconst 1, 1) := by decide +kernel
theorem dX11_absolves_77 : decode cX11_absolves 77 = .ok (.isub, 1) := by decide +kernel
theorem dX11_absolves_78 : decode cX11_absolves 78 = .ok (.istore 6, 2) := by decide +kernel
theorem dX11_absolves_80 : decode cX11_absolves 80 = .ok (.iload 6, 2) := by decide +kernel
theorem dX11_absolves_82 : decode cX11_absolves 82 = .ok (.ifCond .lt 91, 3) := by decide +kernel
theorem dX11_absolves_85 : decode cX11_absolves 85 = .ok (.iload 4, 2) := by decide +kernel
theorem dX11_absolves_87 : decode cX11_absolves 87 = .ok (.ifCond .le 86, 3) := by decide +kernel
theorem dX11_absolves_90 : decode cX11_absolves 90 = .ok (.aload_n 0, 1) := by decide +kernel
theorem dX11_absolves_91 : decode cX11_absolves 91 = .ok (.getfield 15, 3) := by decide +kernel
theorem dX11_absolves_94 : decode cX11_absolves 94 = .ok (.iload 6, 2) := by decide +kernel
theorem dX11_absolves_96 : decode cX11_absolves 96 = .ok (.aaload, 1) := by decide +kernel
theorem dX11_absolves_97 : decode cX11_absolves 97 = .ok (.iconst 0, 1) := by decide +kernel
theorem dX11_absolves_98 : decode cX11_absolves 98 = .ok (.iaload, 1) := by decide +kernel
theorem dX11_absolves_99 : decode cX11_absolves 99 = .ok (.iload_n 2, 1) := by decide +kernel
theorem dX11_absolves_100 : decode cX11_absolves 100 = .ok (.if_icmp .ne 67, 3) := by decide +kernel
theorem dX11_absolves_103 : decode cX11_absolves 103 = .ok (.aload_n 0, 1) := by decide +kernel
theorem dX11_absolves_104 : decode cX11_absolves 104 = .ok (.getfield 15, 3) := by decide +kernel
theorem dX11_absolves_107 : decode cX11_absolves 107 = .ok (.iload 6, 2) := by decide +kernel
theorem dX11_absolves_109 : decode cX11_absolves 109 = .ok (.aaload, 1) := by decide +kernel
theorem dX11_absolves_110 : decode cX11_absolves 110 = .ok (.iconst 1, 1) := by decide +kernel
theorem dX11_absolves_111 : decode cX11_absolves 111 = .ok (.iaload, 1) := by decide +kernel
theorem dX11_absolves_112 : decode cX11_absolves 112 = .ok (.iload_n 3, 1) := by decide +kernel
theorem dX11_absolves_113 : decode cX11_absolves 113 = .ok (.if_icmp .eq 6, 3) := by decide +kernel
theorem dX11_absolves_116 : decode cX11_absolves 116 = .ok (.goto 51, 3) := by decide +kernel
theorem dX11_absolves_119 : decode cX11_absolves 119 = .ok (.iinc 4 (-1), 3) := by decide +kernel
theorem dX11_absolves_122 : decode cX11_absolves 122 = .ok (.aload_n 0, 1) := by decide +kernel
theorem dX11_absolves_123 : decode cX11_absolves 123 = .ok (.dup, 1) := by decide +kernel
theorem dX11_absolves_124 : decode cX11_absolves 124 = .ok (.getfield 55, 3) := by decide +kernel
theorem dX11_absolves_127 : decode cX11_absolves 127 = .ok (.iconst 1, 1) := by decide +kernel
theorem dX11_absolves_128 : decode cX11_absolves 128 = .ok (.isub, 1) := by decide +kernel
theorem dX11_absolves_129 : decode cX11_absolves 129 = .ok (.putfield 55, 3) := by decide +kernel
theorem dX11_absolves_132 : decode cX11_absolves 132 = .ok (.iload 6, 2) := by decide +kernel
theorem dX11_absolves_134 : decode cX11_absolves 134 = .ok (.istore 7, 2) := by decide +kernel
theorem dX11_absolves_136 : decode cX11_absolves 136 = .ok (.iload 7, 2) := by decide +kernel
theorem dX11_absolves_138 : decode cX11_absolves 138 = .ok (.aload_n 0, 1) := by decide +kernel
theorem dX11_absolves_139 : decode cX11_absolves 139 = .ok (.getfield 55, 3) := by decide +kernel
theorem dX11_absolves_142 : decode cX11_absolves 142 = .ok (.if_icmp .ge 25, 3) := by decide +kernel
theorem dX11_absolves_145 : decode cX11_absolves 145 = .ok (.aload_n 0, 1) := by decide +kernel
theorem dX11_absolves_146 : decode cX11_absolves 146 = .ok (.getfield 15, 3) := by decide +kernel
theorem dX11_absolves_149 : decode cX11_absolves 149 = .ok (.iload 7, 2) := by decide +kernel
theorem dX11_absolves_151 : decode cX11_absolves 151 = .ok (.aload_n 0, 1) := by decide +kernel
theorem dX11_absolves_152 : decode cX11_absolves 152 = .ok (.getfield 15, 3) := by decide +kernel
theorem dX11_absolves_155 : decode cX11_absolves 155 = .ok (.iload 7, 2) := by decide +kernel
theorem dX11_absolves_157 : decode cX11_absolves 157 = .ok (.iconst 1, 1) := by decide +kernel
theorem dX11_absolves_158 : decode cX11_absolves 158 = .ok (.iadd, 1) := by decide +kernel
theorem dX11_absolves_159 : decode cX11_absolves 159 = .ok (.aaload, 1) := by decide +kernel
theorem dX11_absolves_160 : decode cX11_absolves 160 = .ok (.aastore, 1) := by decide +kernel
theorem dX11_absolves_161 : decode cX11_absolves 161 = .ok (.iinc 7 1, 3) := by decide +kernel
theorem dX11_absolves_164 : decode cX11_absolves 164 = .ok (.goto (-28), 3) := by decide +kernel
theorem dX11_absolves_167 : decode cX11_absolves 167 = .ok (.iinc 6 (-1), 3) := by decide +kernel
theorem dX11_absolves_170 : decode cX11_absolves 170 = .ok (.goto (-90), 3) := by decide +kernel
theorem dX11_absolves_173 : decode cX11_absolves 173 = .ok (.aload_n 0, 1) := by decide +kernel
theorem dX11_absolves_174 : decode cX11_absolves 174 = .ok (.iload_n 2, 1) := by decide +kernel
theorem dX11_absolves_175 : decode cX11_absolves 175 = .ok (.iload_n 3, 1) := by decide +kernel
theorem dX11_absolves_176 : decode cX11_absolves 176 = .ok (.iload 5, 2) := by decide +kernel
theorem dX11_absolves_178 : decode cX11_absolves 178 = .ok (.iconst 1, 1) := by decide +kernel
theorem dX11_absolves_179 : decode cX11_absolves 179 = .ok (.invokevirtual 94, 3) := by decide +kernel
theorem dX11_absolves_182 : decode cX11_absolves 182 = .ok (.ireturn, 1) := by decide +kernel
theorem dX11_acts_0 : decode cX11_acts 0 = .ok (.iload_n 1, 1) := by decide +kernel
theorem dX11_acts_1 : decode cX11_acts 1 = .ok (.bipush 16, 2) := by decide +kernel
theorem dX11_acts_3 : decode cX11_acts 3 = .ok (.idiv, 1) := by decide +kernel
theorem dX11_acts_4 : decode cX11_acts 4 = .ok (.istore_n 3, 1) := by decide +kernel
theorem dX11_acts_5 : decode cX11_acts 5 = .ok (.iconst 0, 1) := by decide +kernel
theorem dX11_acts_6 : decode cX11_acts 6 = .ok (.istore 4, 2) := by decide +kernel
theorem dX11_acts_8 : decode cX11_acts 8 = .ok (.iload_n 1, 1) := by decide +kernel
theorem dX11_acts_9 : decode cX11_acts 9 = .ok (.bipush 16, 2) := by decide +kernel
theorem dX11_acts_11 : decode cX11_acts 11 = .ok (.irem, 1) := by decide +kernel
theorem dX11_acts_12 : decode cX11_acts 12 = .ok (.tableswitch 298 0 14 #[76, 76, 76, 76, 76, 76, 76, 76, 124, 124, 129, 129, 134, 183, 279], 76) := by decide +kernel
theorem dX11_acts_88 : decode cX11_acts 88 = .ok (.aload_n 0, 1) := by decide +kernel
theorem dX11_acts_89 : decode cX11_acts 89 = .ok (.getfield 55, 3) := by decide +kernel
theorem dX11_acts_92 : decode cX11_acts 92 = .ok (.iconst 1, 1) := by decide +kernel
theorem dX11_acts_93 : decode cX11_acts 93 = .ok (.iadd, 1) := by decide +kernel
theorem dX11_acts_94 : decode cX11_acts 94 = .ok (.iload_n 3, 1) := by decide +kernel
theorem dX11_acts_95 : decode cX11_acts 95 = .ok (.bipush 16, 2) := by decide +kernel
theorem dX11_acts_97 : decode cX11_acts 97 = .ok (.idiv, 1) := by decide +kernel
theorem dX11_acts_98 : decode cX11_acts 98 = .ok (.bipush 14, 2) := by decide +kernel
theorem dX11_acts_100 : decode cX11_acts 100 = .ok (.irem, 1) := by decide +kernel
theorem dX11_acts_101 : decode cX11_acts 101 = .ok (.iadd, 1) := by decide +kernel
theorem dX11_acts_102 : decode cX11_acts 102 = .ok (.sipush 300, 3) := by decide +kernel
theorem dX11_acts_105 : decode cX11_acts 105 = .ok (.if_icmp .le 8, 3) := by decide +kernel
theorem dX11_acts_108 : decode cX11_acts 108 = .ok (.bipush (-9), 2) := by decide +kernel
theorem dX11_acts_110 : decode cX11_acts 110 = .ok (.goto 25, 3) := by decide +kernel
theorem dX11_acts_113 : decode cX11_acts 113 = .ok (.aload_n 0, 1) := by decide +kernel
theorem dX11_acts_114 : decode cX11_acts 114 = .ok (.iload_n 3, 1) := by decide +kernel
theorem dX11_acts_115 : decode cX11_acts 115 = .ok (.iconst 3, 1) := by decide +kernel
theorem dX11_acts_116 : decode cX11_acts 116 = .ok (.irem, 1) := by decide +kernel
theorem dX11_acts_117 : decode cX11_acts 117 = .ok (.iload_n 3, 1) := by decide +kernel
theorem dX11_acts_118 : decode cX11_acts 118 = .ok (.iconst 4, 1) := by decide +kernel
theorem dX11_acts_119 : decode cX11_acts 119 = .ok (.idiv, 1) := by decide +kernel
theorem dX11_acts_120 : decode cX11_acts 120 = .ok (.iconst 3, 1) := by decide +kernel
theorem dX11_acts_121 : decode cX11_acts 121 = .ok (.irem, 1) := by decide +kernel
theorem dX11_acts_122 : decode cX11_acts 122 = .ok (.iconst 1, 1) := by decide +kernel
theorem dX11_acts_123 : decode cX11_acts 123 = .ok (.iload_n 3, 1) := by decide +kernel
theorem dX11_acts_124 : decode cX11_acts 124 = .ok (.bipush 16, 2) := by decide +kernel
theorem dX11_acts_126 : decode cX11_acts 126 = .ok (.idiv, 1) := by decide +kernel
theorem dX11_acts_127 : decode cX11_acts 127 = .ok (.bipush 14, 2) := by decide +kernel
theorem dX11_acts_129 : decode cX11_acts 129 = .ok (.irem, 1) := by decide +kernel
theorem dX11_acts_130 : decode cX11_acts 130 = .ok (.iadd, 1) := by decide +kernel
theorem dX11_acts_131 : decode cX11_acts 131 = .ok (.iconst 0, 1) := by decide +kernel
theorem dX11_acts_132 : decode cX11_acts 132 = .ok (.invokevirtual 94, 3) := by decide +kernel
theorem dX11_acts_135 : decode cX11_acts 135 = .ok (.ireturn, 1) := by decide +kernel
theorem dX11_acts_136 : decode cX11_acts 136 = .ok (.aload_n 0, 1) := by decide +kernel
theorem dX11_acts_137 : decode cX11_acts 137 = .ok (.invokevirtual 98, 3) := by decide +kernel
theorem dX11_acts_140 : decode cX11_acts 140 = .ok (.ireturn, 1) := by decide +kernel
theorem dX11_acts_141 : decode cX11_acts 141 = .ok (.aload_n 0, 1) := by decide +kernel
theorem dX11_acts_142 : decode cX11_acts 142 = .ok (.invokevirtual 101, 3) := by decide +kernel
theorem dX11_acts_145 : decode cX11_acts 145 = .ok (.ireturn, 1) := by decide +kernel
theorem dX11_acts_146 : decode cX11_acts 146 = .ok (.aload_n 0, 1) := by decide +kernel
theorem dX11_acts_147 : decode cX11_acts 147 = .ok (.getfield 68, 3) := by decide +kernel
theorem dX11_acts_150 : decode cX11_acts 150 = .ok (.iconst 1, 1) := by decide +kernel
theorem dX11_acts_151 : decode cX11_acts 151 = .ok (.isub, 1) := by decide +kernel
theorem dX11_acts_152 : decode cX11_acts 152 = .ok (.istore 5, 2) := by decide +kernel
theorem dX11_acts_154 : decode cX11_acts 154 = .ok (.iload 5, 2) := by decide +kernel
theorem dX11_acts_156 : decode cX11_acts 156 = .ok (.ifCond .lt 36, 3) := by decide +kernel
theorem dX11_acts_159 : decode cX11_acts 159 = .ok (.aload_n 0, 1) := by decide +kernel
theorem dX11_acts_160 : decode cX11_acts 160 = .ok (.getfield 18, 3) := by decide +kernel
theorem dX11_acts_163 : decode cX11_acts 163 = .ok (.iload 5, 2) := by decide +kernel
theorem dX11_acts_165 : decode cX11_acts 165 = .ok (.aaload, 1) := by decide +kernel
theorem dX11_acts_166 : decode cX11_acts 166 = .ok (.iconst 0, 1) := by decide +kernel
theorem dX11_acts_167 : decode cX11_acts 167 = .ok (.iaload, 1) := by decide +kernel
theorem dX11_acts_168 : decode cX11_acts 168 = .ok (.iload_n 3, 1) := by decide +kernel
theorem dX11_acts_169 : decode cX11_acts 169 = .ok (.iconst 3, 1) := by decide +kernel
theorem dX11_acts_170 : decode cX11_acts 170 = .ok (.irem, 1) := by decide +kernel
theorem dX11_acts_171 : decode cX11_acts 171 = .ok (.if_icmp .eq 6, 3) := by decide +kernel
theorem dX11_acts_174 : decode cX11_acts 174 = .ok (.goto 12, 3) := by decide +kernel
theorem dX11_acts_177 : decode cX11_acts 177 = .ok (.aload_n 0, 1) := by decide +kernel
theorem dX11_acts_178 : decode cX11_acts 178 = .ok (.iload 5, 2) := by decide +kernel
theorem dX11_acts_180 : decode cX11_acts 180 = .ok (.invokevirtual 90, 3) := by decide +kernel
theorem dX11_acts_183 : decode cX11_acts 183 = .ok (.iinc 4 1, 3) := by decide +kernel
theorem dX11_acts_186 : decode cX11_acts 186 = .ok (.iinc 5 (-1), 3) := by decide +kernel
theorem dX11_acts_189 : decode cX11_acts 189 = .ok (.goto (-35), 3) := by decide +kernel
theorem dX11_acts_192 : decode cX11_acts 192 = .ok (.iload 4, 2) := by decide +kernel
theorem dX11_acts_194 : decode cX11_acts 194 = .ok (.ireturn, 1) := by decide +kernel
theorem dX11_acts_195 : decode cX11_acts 195 = .ok (.aload_n 0, 1) := by decide +kernel
theorem dX11_acts_196 : decode cX11_acts 196 = .ok (.getfield 9, 3) := by decide +kernel
theorem dX11_acts_199 : decode cX11_acts 199 = .ok (.iload_n 3, 1) := by decide +kernel
theorem dX11_acts_200 : decode cX11_acts 200 = .ok (.iconst 3, 1) := by decide +kernel
theorem dX11_acts_201 : decode cX11_acts 201 = .ok (.irem, 1) := by decide +kernel
theorem dX11_acts_202 : decode cX11_acts 202 = .ok (.aaload, 1) := by decide +kernel
theorem dX11_acts_203 : decode cX11_acts 203 = .ok (.astore 5, 2) := by decide +kernel
theorem dX11_acts_205 : decode cX11_acts 205 = .ok (.iload_n 3, 1) := by decide +kernel
theorem dX11_acts_206 : decode cX11_acts 206 = .ok (.iconst 4, 1) := by decide +kernel
theorem dX11_acts_207 : decode cX11_acts 207 = .ok (.idiv, 1) := by decide +kernel
theorem dX11_acts_208 : decode cX11_acts 208 = .ok (.aload 5, 2) := by decide +kernel
theorem dX11_acts_210 : decode cX11_acts 210 = .ok (.arraylength, 1) := by decide +kernel
theorem dX11_acts_211 : decode cX11_acts 211 = .ok (.irem, 1) := by decide +kernel
theorem dX11_acts_212 : decode cX11_acts 212 = .ok (.istore 6, 2) := by decide +kernel
theorem dX11_acts_214 : decode cX11_acts 214 = .ok (.iconst 0, 1) := by decide +kernel
theorem dX11_acts_215 : decode cX11_acts 215 = .ok (.istore 7, 2) := by decide +kernel
theorem dX11_acts_217 : decode cX11_acts 217 = .ok (.iconst 0, 1) := by decide +kernel
theorem dX11_acts_218 : decode cX11_acts 218 = .ok (.istore 8, 2) := by decide +kernel
theorem dX11_acts_220 : decode cX11_acts 220 = .ok (.iload 8, 2) := by decide +kernel
theorem dX11_acts_222 : decode cX11_acts 222 = .ok (.aload 5, 2) := by decide +kernel
theorem dX11_acts_224 : decode cX11_acts 224 = .ok (.arraylength, 1) := by decide +kernel
theorem dX11_acts_225 : decode cX11_acts 225 = .ok (.if_icmp .ge 36, 3) := by decide +kernel
theorem dX11_acts_228 : decode cX11_acts 228 = .ok (.iload 7, 2) := by decide +kernel
theorem dX11_acts_230 : decode cX11_acts 230 = .ok (.iload 8, 2) := by decide +kernel
theorem dX11_acts_232 : decode cX11_acts 232 = .ok (.iload 6, 2) := by decide +kernel
theorem dX11_acts_234 : decode cX11_acts 234 = .ok (.if_icmp .ne 13, 3) := by decide +kernel
theorem dX11_acts_237 : decode cX11_acts 237 = .ok (.iload_n 3, 1) := by decide +kernel
theorem dX11_acts_238 : decode cX11_acts 238 = .ok (.bipush 64, 2) := by decide +kernel
theorem dX11_acts_240 : decode cX11_acts 240 = .ok (.idiv, 1) := by decide +kernel
theorem dX11_acts_241 : decode cX11_acts 241 = .ok (.bipush 10, 2) := by decide +kernel
theorem dX11_acts_243 : decode cX11_acts 243 = .ok (.irem, 1) := by decide +kernel
theorem dX11_acts_244 : decode cX11_acts 244 = .ok (.goto 8, 3) := by decide +kernel
theorem dX11_acts_247 : decode cX11_acts 247 = .ok (.aload 5, 2) := by decide +kernel
theorem dX11_acts_249 : decode cX11_acts 249 = .ok (.iload 8, 2) := by decide +kernel
theorem dX11_acts_251 : decode cX11_acts 251 = .ok (.iaload, 1) := by decide +kernel
theorem dX11_acts_252 : decode cX11_acts 252 = .ok (.iadd, 1) := by decide +kernel
theorem dX11_acts_253 : decode cX11_acts 253 = .ok (.istore 7, 2) := by decide +kernel
theorem dX11_acts_255 : decode cX11_acts 255 = .ok (.iinc 8 1, 3) := by decide +kernel
theorem dX11_acts_258 : decode cX11_acts 258 = .ok (.goto (-38), 3) := by decide +kernel
theorem dX11_acts_261 : decode cX11_acts 261 = .ok (.iload 7, 2) := by decide +kernel
theorem dX11_acts_263 : decode cX11_acts 263 = .ok (.ifCond .ne 6, 3) := by decide +kernel
theorem dX11_acts_266 : decode cX11_acts 266 = .ok (.bipush (-9), 2) := by decide +kernel
theorem dX11_acts_268 : decode cX11_acts 268 = .ok (.ireturn, 1) := by decide +kernel
theorem dX11_acts_269 : decode cX11_acts 269 = .ok (.aload 5, 2) := by decide +kernel
theorem dX11_acts_271 : decode cX11_acts 271 = .ok (.iload 6, 2) := by decide +kernel
theorem dX11_acts_273 : decode cX11_acts 273 = .ok (.iaload, 1) := by decide +kernel
theorem dX11_acts_274 : decode cX11_acts 274 = .ok (.istore 4, 2) := by decide +kernel
theorem dX11_acts_276 : decode cX11_acts 276 = .ok (.aload 5, 2) := by decide +kernel
theorem dX11_acts_278 : decode cX11_acts 278 = .ok (.iload 6, 2) := by decide +kernel
theorem dX11_acts_280 : decode cX11_acts 280 = .ok (.iload_n 3, 1) := by decide +kernel
theorem dX11_acts_281 : decode cX11_acts 281 = .ok (.bipush 64, 2) := by decide +kernel
theorem dX11_acts_283 : decode cX11_acts 283 = .ok (.idiv, 1) := by decide +kernel
theorem dX11_acts_284 : decode cX11_acts 284 = .ok (.bipush 10, 2) := by decide +kernel
theorem dX11_acts_286 : decode cX11_acts 286 = .ok (.irem, 1) := by decide +kernel
theorem dX11_acts_287 : decode cX11_acts 287 = .ok (.iastore, 1) := by decide +kernel
theorem dX11_acts_288 : decode cX11_acts 288 = .ok (.iload 4, 2) := by decide +kernel
theorem dX11_acts_290 : decode cX11_acts 290 = .ok (.ireturn, 1) := by decide +kernel
theorem dX11_acts_291 : decode cX11_acts 291 = .ok (.aload_n 0, 1) := by decide +kernel
theorem dX11_acts_292 : decode cX11_acts 292 = .ok (.getfield 35, 3) := by decide +kernel
theorem dX11_acts_295 : decode cX11_acts 295 = .ok (.l2i, 1) := by decide +kernel
theorem dX11_acts_296 : decode cX11_acts 296 = .ok (.istore 4, 2) := by decide +kernel
theorem dX11_acts_298 : decode cX11_acts 298 = .ok (.aload_n 0, 1) := by decide +kernel
theorem dX11_acts_299 : decode cX11_acts 299 = .ok (.iload_n 3, 1) := by decide +kernel
theorem dX11_acts_300 : decode cX11_acts 300 = .ok (.ldc 104, 2) := by decide +kernel
theorem dX11_acts_302 : decode cX11_acts 302 = .ok (.irem, 1) := by decide +kernel
theorem dX11_acts_303 : decode cX11_acts 303 = .ok (.i2l, 1) := by decide +kernel
theorem dX11_acts_304 : decode cX11_acts 304 = .ok (.putfield 35, 3) := by decide +kernel
theorem dX11_acts_307 : decode cX11_acts 307 = .ok (.iload 4, 2) := by decide +kernel
theorem dX11_acts_309 : decode cX11_acts 309 = .ok (.ireturn, 1) := by decide +kernel
theorem dX11_acts_310 : decode cX11_acts 310 = .ok (.aload_n 0, 1) := by decide +kernel
theorem dX11_acts_311 : decode cX11_acts 311 = .ok (.iconst 1, 1) := by decide +kernel
theorem dX11_acts_312 : decode cX11_acts 312 = .ok (.iload_n 3, 1) := by decide +kernel
theorem dX11_acts_313 : decode cX11_acts 313 = .ok (.bipush 9, 2) := by decide +kernel
theorem dX11_acts_315 : decode cX11_acts 315 = .ok (.irem, 1) := by decide +kernel
theorem dX11_acts_316 : decode cX11_acts 316 = .ok (.iadd, 1) := by decide +kernel
theorem dX11_acts_317 : decode cX11_acts 317 = .ok (.putfield 41, 3) := by decide +kernel
theorem dX11_acts_320 : decode cX11_acts 320 = .ok (.aload_n 0, 1) := by decide +kernel
theorem dX11_acts_321 : decode cX11_acts 321 = .ok (.iload_n 3, 1) := by decide +kernel
theorem dX11_acts_322 : decode cX11_acts 322 = .ok (.bipush 16, 2) := by decide +kernel
theorem dX11_acts_324 : decode cX11_acts 324 = .ok (.idiv, 1) := by decide +kernel
theorem dX11_acts_325 : decode cX11_acts 325 = .ok (.bipush 14, 2) := by decide +kernel
theorem dX11_acts_327 : decode cX11_acts 327 = .ok (.irem, 1) := by decide +kernel
theorem dX11_acts_328 : decode cX11_acts 328 = .ok (.putfield 47, 3) := by decide +kernel
theorem dX11_acts_331 : decode cX11_acts 331 = .ok (.iconst 0, 1) := by decide +kernel
theorem dX11_acts_332 : decode cX11_acts 332 = .ok (.istore 5, 2) := by decide +kernel
theorem dX11_acts_334 : decode cX11_acts 334 = .ok (.iload 5, 2) := by decide +kernel
theorem dX11_acts_336 : decode cX11_acts 336 = .ok (.iconst 3, 1) := by decide +kernel
theorem dX11_acts_337 : decode cX11_acts 337 = .ok (.if_icmp .ge 38, 3) := by decide +kernel
theorem dX11_acts_340 : decode cX11_acts 340 = .ok (.iconst 0, 1) := by decide +kernel
theorem dX11_acts_341 : decode cX11_acts 341 = .ok (.istore 6, 2) := by decide +kernel
theorem dX11_acts_343 : decode cX11_acts 343 = .ok (.iload 6, 2) := by decide +kernel
theorem dX11_acts_345 : decode cX11_acts 345 = .ok (.iconst 3, 1) := by decide +kernel
theorem dX11_acts_346 : decode cX11_acts 346 = .ok (.if_icmp .ge 23, 3) := by decide +kernel
theorem dX11_acts_349 : decode cX11_acts 349 = .ok (.aload_n 0, 1) := by decide +kernel
theorem dX11_acts_350 : decode cX11_acts 350 = .ok (.iload 5, 2) := by decide +kernel
theorem dX11_acts_352 : decode cX11_acts 352 = .ok (.iload 6, 2) := by decide +kernel
theorem dX11_acts_354 : decode cX11_acts 354 = .ok (.invokevirtual 71, 3) := by decide +kernel
theorem dX11_acts_357 : decode cX11_acts 357 = .ok (.ifCond .eq 6, 3) := by decide +kernel
theorem dX11_acts_360 : decode cX11_acts 360 = .ok (.iinc 4 1, 3) := by decide +kernel
theorem dX11_acts_363 : decode cX11_acts 363 = .ok (.iinc 6 1, 3) := by decide +kernel
theorem dX11_acts_366 : decode cX11_acts 366 = .ok (.goto (-23), 3) := by decide +kernel
theorem dX11_acts_369 : decode cX11_acts 369 = .ok (.iinc 5 1, 3) := by decide +kernel
theorem dX11_acts_372 : decode cX11_acts 372 = .ok (.goto (-38), 3) := by decide +kernel
theorem dX11_acts_375 : decode cX11_acts 375 = .ok (.iload 4, 2) := by decide +kernel
theorem dX11_acts_377 : decode cX11_acts 377 = .ok (.ireturn, 1) := by decide +kernel
theorem dX11_agrees_0 : decode cX11_agrees 0 = .ok (.aload_n 1, 1) := by decide +kernel
theorem dX11_agrees_1 : decode cX11_agrees 1 = .ok (.invokevirtual 31, 3) := by decide +kernel
theorem dX11_agrees_4 : decode cX11_agrees 4 = .ok (.i2l, 1) := by decide +kernel
theorem dX11_agrees_5 : decode cX11_agrees 5 = .ok (.aload_n 0, 1) := by decide +kernel
theorem dX11_agrees_6 : decode cX11_agrees 6 = .ok (.getfield 35, 3) := by decide +kernel
theorem dX11_agrees_9 : decode cX11_agrees 9 = .ok (.lcmp, 1) := by decide +kernel
theorem dX11_agrees_10 : decode cX11_agrees 10 = .ok (.ifCond .ne 47, 3) := by decide +kernel
theorem dX11_agrees_13 : decode cX11_agrees 13 = .ok (.aload_n 1, 1) := by decide +kernel
theorem dX11_agrees_14 : decode cX11_agrees 14 = .ok (.invokevirtual 105, 3) := by decide +kernel
theorem dX11_agrees_17 : decode cX11_agrees 17 = .ok (.aload_n 0, 1) := by decide +kernel
theorem dX11_agrees_18 : decode cX11_agrees 18 = .ok (.getfield 55, 3) := by decide +kernel
theorem dX11_agrees_21 : decode cX11_agrees 21 = .ok (.if_icmp .ne 36, 3) := by decide +kernel
theorem dX11_agrees_24 : decode cX11_agrees 24 = .ok (.aload_n 1, 1) := by decide +kernel
theorem dX11_agrees_25 : decode cX11_agrees 25 = .ok (.invokevirtual 108, 3) := by decide +kernel
theorem dX11_agrees_28 : decode cX11_agrees 28 = .ok (.aload_n 0, 1) := by decide +kernel
theorem dX11_agrees_29 : decode cX11_agrees 29 = .ok (.getfield 68, 3) := by decide +kernel
theorem dX11_agrees_32 : decode cX11_agrees 32 = .ok (.if_icmp .ne 25, 3) := by decide +kernel
theorem dX11_agrees_35 : decode cX11_agrees 35 = .ok (.aload_n 1, 1) := by decide +kernel
theorem dX11_agrees_36 : decode cX11_agrees 36 = .ok (.invokevirtual 38, 3) := by decide +kernel
theorem dX11_agrees_39 : decode cX11_agrees 39 = .ok (.aload_n 0, 1) := by decide +kernel
theorem dX11_agrees_40 : decode cX11_agrees 40 = .ok (.getfield 41, 3) := by decide +kernel
theorem dX11_agrees_43 : decode cX11_agrees 43 = .ok (.if_icmp .ne 14, 3) := by decide +kernel
theorem dX11_agrees_46 : decode cX11_agrees 46 = .ok (.aload_n 1, 1) := by decide +kernel
theorem dX11_agrees_47 : decode cX11_agrees 47 = .ok (.invokevirtual 44, 3) := by decide +kernel
theorem dX11_agrees_50 : decode cX11_agrees 50 = .ok (.aload_n 0, 1) := by decide +kernel
theorem dX11_agrees_51 : decode cX11_agrees 51 = .ok (.getfield 47, 3) := by decide +kernel
theorem dX11_agrees_54 : decode cX11_agrees 54 = .ok (.if_icmp .eq 5, 3) := by decide +kernel
theorem dX11_agrees_57 : decode cX11_agrees 57 = .ok (.iconst 0, 1) := by decide +kernel
theorem dX11_agrees_58 : decode cX11_agrees 58 = .ok (.ireturn, 1) := by decide +kernel
theorem dX11_agrees_59 : decode cX11_agrees 59 = .ok (.iconst 0, 1) := by decide +kernel
theorem dX11_agrees_60 : decode cX11_agrees 60 = .ok (.istore_n 2, 1) := by decide +kernel
theorem dX11_agrees_61 : decode cX11_agrees 61 = .ok (.iload_n 2, 1) := by decide +kernel
theorem dX11_agrees_62 : decode cX11_agrees 62 = .ok (.aload_n 0, 1) := by decide +kernel
theorem dX11_agrees_63 : decode cX11_agrees 63 = .ok (.getfield 55, 3) := by decide +kernel
theorem dX11_agrees_66 : decode cX11_agrees 66 = .ok (.if_icmp .ge 84, 3) := by decide +kernel
theorem dX11_agrees_69 : decode cX11_agrees 69 = .ok (.aload_n 1, 1) := by decide +kernel
theorem dX11_agrees_70 : decode cX11_agrees 70 = .ok (.iload_n 2, 1) := by decide +kernel
theorem dX11_agrees_71 : decode cX11_agrees 71 = .ok (.invokevirtual 111, 3) := by decide +kernel
theorem dX11_agrees_74 : decode cX11_agrees 74 = .ok (.aload_n 0, 1) := by decide +kernel
theorem dX11_agrees_75 : decode cX11_agrees 75 = .ok (.getfield 15, 3) := by decide +kernel
theorem dX11_agrees_78 : decode cX11_agrees 78 = .ok (.iload_n 2, 1) := by decide +kernel
theorem dX11_agrees_79 : decode cX11_agrees 79 = .ok (.aaload, 1) := by decide +kernel
theorem dX11_agrees_80 : decode cX11_agrees 80 = .ok (.iconst 0, 1) := by decide +kernel
theorem dX11_agrees_81 : decode cX11_agrees 81 = .ok (.iaload, 1) := by decide +kernel
theorem dX11_agrees_82 : decode cX11_agrees 82 = .ok (.if_icmp .ne 60, 3) := by decide +kernel
theorem dX11_agrees_85 : decode cX11_agrees 85 = .ok (.aload_n 1, 1) := by decide +kernel
theorem dX11_agrees_86 : decode cX11_agrees 86 = .ok (.iload_n 2, 1) := by decide +kernel
theorem dX11_agrees_87 : decode cX11_agrees 87 = .ok (.invokevirtual 114, 3) := by decide +kernel
theorem dX11_agrees_90 : decode cX11_agrees 90 = .ok (.aload_n 0, 1) := by decide +kernel
theorem dX11_agrees_91 : decode cX11_agrees 91 = .ok (.getfield 15, 3) := by decide +kernel
theorem dX11_agrees_94 : decode cX11_agrees 94 = .ok (.iload_n 2, 1) := by decide +kernel
theorem dX11_agrees_95 : decode cX11_agrees 95 = .ok (.aaload, 1) := by decide +kernel
theorem dX11_agrees_96 : decode cX11_agrees 96 = .ok (.iconst 1, 1) := by decide +kernel
theorem dX11_agrees_97 : decode cX11_agrees 97 = .ok (.iaload, 1) := by decide +kernel
theorem dX11_agrees_98 : decode cX11_agrees 98 = .ok (.if_icmp .ne 44, 3) := by decide +kernel
theorem dX11_agrees_101 : decode cX11_agrees 101 = .ok (.aload_n 1, 1) := by decide +kernel
theorem dX11_agrees_102 : decode cX11_agrees 102 = .ok (.iload_n 2, 1) := by decide +kernel
theorem dX11_agrees_103 : decode cX11_agrees 103 = .ok (.invokevirtual 117, 3) := by decide +kernel
theorem dX11_agrees_106 : decode cX11_agrees 106 = .ok (.aload_n 0, 1) := by decide +kernel
theorem dX11_agrees_107 : decode cX11_agrees 107 = .ok (.getfield 15, 3) := by decide +kernel
theorem dX11_agrees_110 : decode cX11_agrees 110 = .ok (.iload_n 2, 1) := by decide +kernel
theorem dX11_agrees_111 : decode cX11_agrees 111 = .ok (.aaload, 1) := by decide +kernel
theorem dX11_agrees_112 : decode cX11_agrees 112 = .ok (.iconst 2, 1) := by decide +kernel
theorem dX11_agrees_113 : decode cX11_agrees 113 = .ok (.iaload, 1) := by decide +kernel
theorem dX11_agrees_114 : decode cX11_agrees 114 = .ok (.if_icmp .ne 28, 3) := by decide +kernel
theorem dX11_agrees_117 : decode cX11_agrees 117 = .ok (.aload_n 1, 1) := by decide +kernel
theorem dX11_agrees_118 : decode cX11_agrees 118 = .ok (.iload_n 2, 1) := by decide +kernel
theorem dX11_agrees_119 : decode cX11_agrees 119 = .ok (.invokevirtual 120, 3) := by decide +kernel
theorem dX11_agrees_122 : decode cX11_agrees 122 = .ok (.aload_n 0, 1) := by decide +kernel
theorem dX11_agrees_123 : decode cX11_agrees 123 = .ok (.getfield 15, 3) := by decide +kernel
theorem dX11_agrees_126 : decode cX11_agrees 126 = .ok (.iload_n 2, 1) := by decide +kernel
theorem dX11_agrees_127 : decode cX11_agrees 127 = .ok (.aaload, 1) := by decide +kernel
theorem dX11_agrees_128 : decode cX11_agrees 128 = .ok (.iconst 3, 1) := by decide +kernel
theorem dX11_agrees_129 : decode cX11_agrees 129 = .ok (.iaload, 1) := by decide +kernel
theorem dX11_agrees_130 : decode cX11_agrees 130 = .ok (.iconst 1, 1) := by decide +kernel
theorem dX11_agrees_131 : decode cX11_agrees 131 = .ok (.if_icmp .ne 7, 3) := by decide +kernel
theorem dX11_agrees_134 : decode cX11_agrees 134 = .ok (.iconst 1, 1) := by decide +kernel
theorem dX11_agrees_135 : decode cX11_agrees 135 = .ok (.goto 4, 3) := by decide +kernel
theorem dX11_agrees_138 : decode cX11_agrees 138 = .ok (.iconst 0, 1) := by decide +kernel
theorem dX11_agrees_139 : decode cX11_agrees 139 = .ok (.if_icmp .eq 5, 3) := by decide +kernel
theorem dX11_agrees_142 : decode cX11_agrees 142 = .ok (.iconst 0, 1) := by decide +kernel
theorem dX11_agrees_143 : decode cX11_agrees 143 = .ok (.ireturn, 1) := by decide +kernel
theorem dX11_agrees_144 : decode cX11_agrees 144 = .ok (.iinc 2 1, 3) := by decide +kernel
theorem dX11_agrees_147 : decode cX11_agrees 147 = .ok (.goto (-86), 3) := by decide +kernel
theorem dX11_agrees_150 : decode cX11_agrees 150 = .ok (.iconst 0, 1) := by decide +kernel
theorem dX11_agrees_151 : decode cX11_agrees 151 = .ok (.istore_n 2, 1) := by decide +kernel
theorem dX11_agrees_152 : decode cX11_agrees 152 = .ok (.iload_n 2, 1) := by decide +kernel
theorem dX11_agrees_153 : decode cX11_agrees 153 = .ok (.aload_n 0, 1) := by decide +kernel
theorem dX11_agrees_154 : decode cX11_agrees 154 = .ok (.getfield 68, 3) := by decide +kernel
theorem dX11_agrees_157 : decode cX11_agrees 157 = .ok (.if_icmp .ge 65, 3) := by decide +kernel
theorem dX11_agrees_160 : decode cX11_agrees 160 = .ok (.aload_n 0, 1) := by decide +kernel
theorem dX11_agrees_161 : decode cX11_agrees 161 = .ok (.iload_n 2, 1) := by decide +kernel
theorem dX11_agrees_162 : decode cX11_agrees 162 = .ok (.invokevirtual 82, 3) := by decide +kernel
theorem dX11_agrees_165 : decode cX11_agrees 165 = .ok (.istore_n 3, 1) := by decide +kernel
theorem dX11_agrees_166 : decode cX11_agrees 166 = .ok (.aload_n 1, 1) := by decide +kernel
theorem dX11_agrees_167 : decode cX11_agrees 167 = .ok (.iload_n 3, 1) := by decide +kernel
theorem dX11_agrees_168 : decode cX11_agrees 168 = .ok (.invokevirtual 124, 3) := by decide +kernel
theorem dX11_agrees_171 : decode cX11_agrees 171 = .ok (.aload_n 0, 1) := by decide +kernel
theorem dX11_agrees_172 : decode cX11_agrees 172 = .ok (.getfield 18, 3) := by decide +kernel
theorem dX11_agrees_175 : decode cX11_agrees 175 = .ok (.iload_n 2, 1) := by decide +kernel
theorem dX11_agrees_176 : decode cX11_agrees 176 = .ok (.aaload, 1) := by decide +kernel
theorem dX11_agrees_177 : decode cX11_agrees 177 = .ok (.iconst 0, 1) := by decide +kernel
theorem dX11_agrees_178 : decode cX11_agrees 178 = .ok (.iaload, 1) := by decide +kernel
theorem dX11_agrees_179 : decode cX11_agrees 179 = .ok (.if_icmp .ne 35, 3) := by decide +kernel
theorem dX11_agrees_182 : decode cX11_agrees 182 = .ok (.aload_n 1, 1) := by decide +kernel
theorem dX11_agrees_183 : decode cX11_agrees 183 = .ok (.iload_n 3, 1) := by decide +kernel
theorem dX11_agrees_184 : decode cX11_agrees 184 = .ok (.invokevirtual 127, 3) := by decide +kernel
theorem dX11_agrees_187 : decode cX11_agrees 187 = .ok (.aload_n 0, 1) := by decide +kernel
theorem dX11_agrees_188 : decode cX11_agrees 188 = .ok (.getfield 18, 3) := by decide +kernel
theorem dX11_agrees_191 : decode cX11_agrees 191 = .ok (.iload_n 2, 1) := by decide +kernel
theorem dX11_agrees_192 : decode cX11_agrees 192 = .ok (.aaload, 1) := by decide +kernel
theorem dX11_agrees_193 : decode cX11_agrees 193 = .ok (.iconst 1, 1) := by decide +kernel
theorem dX11_agrees_194 : decode cX11_agrees 194 = .ok (.iaload, 1) := by decide +kernel
theorem dX11_agrees_195 : decode cX11_agrees 195 = .ok (.if_icmp .ne 19, 3) := by decide +kernel
theorem dX11_agrees_198 : decode cX11_agrees 198 = .ok (.aload_n 1, 1) := by decide +kernel
theorem dX11_agrees_199 : decode cX11_agrees 199 = .ok (.iload_n 3, 1) := by decide +kernel
theorem dX11_agrees_200 : decode cX11_agrees 200 = .ok (.invokevirtual 130, 3) := by decide +kernel
theorem dX11_agrees_203 : decode cX11_agrees 203 = .ok (.aload_n 0, 1) := by decide +kernel
theorem dX11_agrees_204 : decode cX11_agrees 204 = .ok (.getfield 18, 3) := by decide +kernel
theorem dX11_agrees_207 : decode cX11_agrees 207 = .ok (.iload_n 2, 1) := by decide +kernel
theorem dX11_agrees_208 : decode cX11_agrees 208 = .ok (.aaload, 1) := by decide +kernel
theorem dX11_agrees_209 : decode cX11_agrees 209 = .ok (.iconst 2, 1) := by decide +kernel
theorem dX11_agrees_210 : decode cX11_agrees 210 = .ok (.iaload, 1) := by decide +kernel
theorem dX11_agrees_211 : decode cX11_agrees 211 = .ok (.if_icmp .eq 5, 3) := by decide +kernel
theorem dX11_agrees_214 : decode cX11_agrees 214 = .ok (.iconst 0, 1) := by decide +kernel
theorem dX11_agrees_215 : decode cX11_agrees 215 = .ok (.ireturn, 1) := by decide +kernel
theorem dX11_agrees_216 : decode cX11_agrees 216 = .ok (.iinc 2 1, 3) := by decide +kernel
theorem dX11_agrees_219 : decode cX11_agrees 219 = .ok (.goto (-67), 3) := by decide +kernel
theorem dX11_agrees_222 : decode cX11_agrees 222 = .ok (.iconst 0, 1) := by decide +kernel
theorem dX11_agrees_223 : decode cX11_agrees 223 = .ok (.istore_n 2, 1) := by decide +kernel
theorem dX11_agrees_224 : decode cX11_agrees 224 = .ok (.iload_n 2, 1) := by decide +kernel
theorem dX11_agrees_225 : decode cX11_agrees 225 = .ok (.iconst 3, 1) := by decide +kernel
theorem dX11_agrees_226 : decode cX11_agrees 226 = .ok (.if_icmp .ge 69, 3) := by decide +kernel
theorem dX11_agrees_229 : decode cX11_agrees 229 = .ok (.iconst 0, 1) := by decide +kernel
theorem dX11_agrees_230 : decode cX11_agrees 230 = .ok (.istore_n 3, 1) := by decide +kernel
theorem dX11_agrees_231 : decode cX11_agrees 231 = .ok (.iload_n 3, 1) := by decide +kernel
theorem dX11_agrees_232 : decode cX11_agrees 232 = .ok (.iconst 3, 1) := by decide +kernel
theorem dX11_agrees_233 : decode cX11_agrees 233 = .ok (.if_icmp .ge 56, 3) := by decide +kernel
theorem dX11_agrees_236 : decode cX11_agrees 236 = .ok (.aload_n 1, 1) := by decide +kernel
theorem dX11_agrees_237 : decode cX11_agrees 237 = .ok (.iload_n 2, 1) := by decide +kernel
theorem dX11_agrees_238 : decode cX11_agrees 238 = .ok (.iload_n 3, 1) := by decide +kernel
theorem dX11_agrees_239 : decode cX11_agrees 239 = .ok (.invokevirtual 133, 3) := by decide +kernel
theorem dX11_agrees_242 : decode cX11_agrees 242 = .ok (.aload_n 0, 1) := by decide +kernel
theorem dX11_agrees_243 : decode cX11_agrees 243 = .ok (.iload_n 2, 1) := by decide +kernel
theorem dX11_agrees_244 : decode cX11_agrees 244 = .ok (.iload_n 3, 1) := by decide +kernel
theorem dX11_agrees_245 : decode cX11_agrees 245 = .ok (.invokevirtual 65, 3) := by decide +kernel
theorem dX11_agrees_248 : decode cX11_agrees 248 = .ok (.if_icmp .ne 33, 3) := by decide +kernel
theorem dX11_agrees_251 : decode cX11_agrees 251 = .ok (.aload_n 1, 1) := by decide +kernel
theorem dX11_agrees_252 : decode cX11_agrees 252 = .ok (.iload_n 2, 1) := by decide +kernel
theorem dX11_agrees_253 : decode cX11_agrees 253 = .ok (.iload_n 3, 1) := by decide +kernel
theorem dX11_agrees_254 : decode cX11_agrees 254 = .ok (.invokevirtual 134, 3) := by decide +kernel
theorem dX11_agrees_257 : decode cX11_agrees 257 = .ok (.aload_n 0, 1) := by decide +kernel
theorem dX11_agrees_258 : decode cX11_agrees 258 = .ok (.iload_n 2, 1) := by decide +kernel
theorem dX11_agrees_259 : decode cX11_agrees 259 = .ok (.iload_n 3, 1) := by decide +kernel
theorem dX11_agrees_260 : decode cX11_agrees 260 = .ok (.invokevirtual 71, 3) := by decide +kernel
theorem dX11_agrees_263 : decode cX11_agrees 263 = .ok (.if_icmp .ne 18, 3) := by decide +kernel
theorem dX11_agrees_266 : decode cX11_agrees 266 = .ok (.aload_n 1, 1) := by decide +kernel
theorem dX11_agrees_267 : decode cX11_agrees 267 = .ok (.iload_n 2, 1) := by decide +kernel
theorem dX11_agrees_268 : decode cX11_agrees 268 = .ok (.iload_n 3, 1) := by decide +kernel
theorem dX11_agrees_269 : decode cX11_agrees 269 = .ok (.invokevirtual 137, 3) := by decide +kernel
theorem dX11_agrees_272 : decode cX11_agrees 272 = .ok (.aload_n 0, 1) := by decide +kernel
theorem dX11_agrees_273 : decode cX11_agrees 273 = .ok (.iload_n 2, 1) := by decide +kernel
theorem dX11_agrees_274 : decode cX11_agrees 274 = .ok (.iload_n 3, 1) := by decide +kernel
theorem dX11_agrees_275 : decode cX11_agrees 275 = .ok (.invokevirtual 62, 3) := by decide +kernel
theorem dX11_agrees_278 : decode cX11_agrees 278 = .ok (.if_icmp .eq 5, 3) := by decide +kernel
theorem dX11_agrees_281 : decode cX11_agrees 281 = .ok (.iconst 0, 1) := by decide +kernel
theorem dX11_agrees_282 : decode cX11_agrees 282 = .ok (.ireturn, 1) := by decide +kernel
theorem dX11_agrees_283 : decode cX11_agrees 283 = .ok (.iinc 3 1, 3) := by decide +kernel
theorem dX11_agrees_286 : decode cX11_agrees 286 = .ok (.goto (-55), 3) := by decide +kernel
theorem dX11_agrees_289 : decode cX11_agrees 289 = .ok (.iinc 2 1, 3) := by decide +kernel
theorem dX11_agrees_292 : decode cX11_agrees 292 = .ok (.goto (-68), 3) := by decide +kernel
theorem dX11_agrees_295 : decode cX11_agrees 295 = .ok (.iconst 1, 1) := by decide +kernel
theorem dX11_agrees_296 : decode cX11_agrees 296 = .ok (.ireturn, 1) := by decide +kernel
theorem dJ5_init_a7421_0 : decode cJ5_init_a7421 0 = .ok (.aload_n 0, 1) := by decide +kernel
theorem dJ5_init_a7421_1 : decode cJ5_init_a7421 1 = .ok (.invokespecial 3, 3) := by decide +kernel
theorem dJ5_init_a7421_4 : decode cJ5_init_a7421 4 = .ok (.aload_n 1, 1) := by decide +kernel
theorem dJ5_init_a7421_5 : decode cJ5_init_a7421 5 = .ok (.invokevirtual 32, 3) := by decide +kernel
theorem dJ5_init_a7421_8 : decode cJ5_init_a7421 8 = .ok (.istore_n 2, 1) := by decide +kernel
theorem dJ5_init_a7421_9 : decode cJ5_init_a7421 9 = .ok (.iload_n 2, 1) := by decide +kernel
theorem dJ5_init_a7421_10 : decode cJ5_init_a7421 10 = .ok (.ldc 38, 2) := by decide +kernel
theorem dJ5_init_a7421_12 : decode cJ5_init_a7421 12 = .ok (.if_icmp .ge 10, 3) := by decide +kernel
theorem dJ5_init_a7421_15 : decode cJ5_init_a7421 15 = .ok (.iload_n 2, 1) := by decide +kernel
theorem dJ5_init_a7421_16 : decode cJ5_init_a7421 16 = .ok (.bipush 16, 2) := by decide +kernel
theorem dJ5_init_a7421_18 : decode cJ5_init_a7421 18 = .ok (.iadd, 1) := by decide +kernel
theorem dJ5_init_a7421_19 : decode cJ5_init_a7421 19 = .ok (.goto 5, 3) := by decide +kernel
theorem dJ5_init_a7421_22 : decode cJ5_init_a7421 22 = .ok (.ldc 39, 2) := by decide +kernel
theorem dJ5_init_a7421_24 : decode cJ5_init_a7421 24 = .ok (.istore_n 3, 1) := by decide +kernel
theorem dJ5_init_a7421_25 : decode cJ5_init_a7421 25 = .ok (.aload_n 1, 1) := by decide +kernel
theorem dJ5_init_a7421_26 : decode cJ5_init_a7421 26 = .ok (.invokevirtual 40, 3) := by decide +kernel
theorem dJ5_init_a7421_29 : decode cJ5_init_a7421 29 = .ok (.istore 4, 2) := by decide +kernel
theorem dJ5_init_a7421_31 : decode cJ5_init_a7421 31 = .ok (.aload_n 0, 1) := by decide +kernel
theorem dJ5_init_a7421_32 : decode cJ5_init_a7421 32 = .ok (.iload 4, 2) := by decide +kernel
theorem dJ5_init_a7421_34 : decode cJ5_init_a7421 34 = .ok (.putfield 22, 3) := by decide +kernel
theorem dJ5_init_a7421_37 : decode cJ5_init_a7421 37 = .ok (.aload_n 0, 1) := by decide +kernel
theorem dJ5_init_a7421_38 : decode cJ5_init_a7421 38 = .ok (.iload 4, 2) := by decide +kernel
theorem dJ5_init_a7421_40 : decode cJ5_init_a7421 40 = .ok (.ifCond .ne 9, 3) := by decide +kernel
theorem dJ5_init_a7421_43 : decode cJ5_init_a7421 43 = .ok (.iload_n 3, 1) := by decide +kernel
theorem dJ5_init_a7421_44 : decode cJ5_init_a7421 44 = .ok (.newarray .byte, 2) := by decide +kernel
theorem dJ5_init_a7421_46 : decode cJ5_init_a7421 46 = .ok (.goto 7, 3) := by decide +kernel
theorem dJ5_init_a7421_49 : decode cJ5_init_a7421 49 = .ok (.iload_n 3, 1) := by decide +kernel
theorem dJ5_init_a7421_50 : decode cJ5_init_a7421 50 = .ok (.invokestatic 26, 3) := by decide +kernel
theorem dJ5_init_a7421_53 : decode cJ5_init_a7421 53 = .ok (.putfield 15, 3) := by decide +kernel
theorem dJ5_init_a7421_56 : decode cJ5_init_a7421 56 = .ok (.aload_n 0, 1) := by decide +kernel
theorem dJ5_init_a7421_57 : decode cJ5_init_a7421 57 = .ok (.aload_n 1, 1) := by decide +kernel
theorem dJ5_init_a7421_58 : decode cJ5_init_a7421 58 = .ok (.invokevirtual 43, 3) := by decide +kernel
theorem dJ5_init_a7421_61 : decode cJ5_init_a7421 61 = .ok (.pop, 1) := by decide +kernel
theorem dJ5_init_a7421_62 : decode cJ5_init_a7421 62 = .ok (.return_, 1) := by decide +kernel
theorem dJ5_length_8abf5_0 : decode cJ5_length_8abf5 0 = .ok (.aload_n 0, 1) := by decide +kernel
theorem dJ5_length_8abf5_1 : decode cJ5_length_8abf5 1 = .ok (.getfield 79, 3) := by decide +kernel
theorem dJ5_length_8abf5_4 : decode cJ5_length_8abf5 4 = .ok (.ireturn, 1) := by decide +kernel
theorem dJ5_ensureCapacityInternal_d00df_0 : decode cJ5_ensureCapacityInternal_d00df 0 = .ok (.aload_n 0, 1) := by decide +kernel
theorem dJ5_ensureCapacityInternal_d00df_1 : decode cJ5_ensureCapacityInternal_d00df 1 = .ok (.getfield 15, 3) := by decide +kernel
theorem dJ5_ensureCapacityInternal_d00df_4 : decode cJ5_ensureCapacityInternal_d00df 4 = .ok (.arraylength, 1) := by decide +kernel
theorem dJ5_ensureCapacityInternal_d00df_5 : decode cJ5_ensureCapacityInternal_d00df 5 = .ok (.aload_n 0, 1) := by decide +kernel
theorem dJ5_ensureCapacityInternal_d00df_6 : decode cJ5_ensureCapacityInternal_d00df 6 = .ok (.getfield 22, 3) := by decide +kernel
theorem dJ5_ensureCapacityInternal_d00df_9 : decode cJ5_ensureCapacityInternal_d00df 9 = .ok (.ishr, 1) := by decide +kernel
theorem dJ5_ensureCapacityInternal_d00df_10 : decode cJ5_ensureCapacityInternal_d00df 10 = .ok (.istore_n 2, 1) := by decide +kernel
theorem dJ5_ensureCapacityInternal_d00df_11 : decode cJ5_ensureCapacityInternal_d00df 11 = .ok (.iload_n 1, 1) := by decide +kernel
theorem dJ5_ensureCapacityInternal_d00df_12 : decode cJ5_ensureCapacityInternal_d00df 12 = .ok (.iload_n 2, 1) := by decide +kernel
theorem dJ5_ensureCapacityInternal_d00df_13 : decode cJ5_ensureCapacityInternal_d00df 13 = .ok (.isub, 1) := by decide +kernel
theorem dJ5_ensureCapacityInternal_d00df_14 : decode cJ5_ensureCapacityInternal_d00df 14 = .ok (.ifCond .le 24, 3) := by decide +kernel
theorem dJ5_ensureCapacityInternal_d00df_17 : decode cJ5_ensureCapacityInternal_d00df 17 = .ok (.aload_n 0, 1) := by decide +kernel
theorem dJ5_ensureCapacityInternal_d00df_18 : decode cJ5_ensureCapacityInternal_d00df 18 = .ok (.aload_n 0, 1) := by decide +kernel
theorem dJ5_ensureCapacityInternal_d00df_19 : decode cJ5_ensureCapacityInternal_d00df 19 = .ok (.getfield 15, 3) := by decide +kernel
theorem dJ5_ensureCapacityInternal_d00df_22 : decode cJ5_ensureCapacityInternal_d00df 22 = .ok (.aload_n 0, 1) := by decide +kernel
theorem dJ5_ensureCapacityInternal_d00df_23 : decode cJ5_ensureCapacityInternal_d00df 23 = .ok (.iload_n 1, 1) := by decide +kernel
theorem dJ5_ensureCapacityInternal_d00df_24 : decode cJ5_ensureCapacityInternal_d00df 24 = .ok (.invokevirtual 104, 3) := by decide +kernel
theorem dJ5_ensureCapacityInternal_d00df_27 : decode cJ5_ensureCapacityInternal_d00df 27 = .ok (.aload_n 0, 1) := by decide +kernel
theorem dJ5_ensureCapacityInternal_d00df_28 : decode cJ5_ensureCapacityInternal_d00df 28 = .ok (.getfield 22, 3) := by decide +kernel
theorem dJ5_ensureCapacityInternal_d00df_31 : decode cJ5_ensureCapacityInternal_d00df 31 = .ok (.ishl, 1) := by decide +kernel
theorem dJ5_ensureCapacityInternal_d00df_32 : decode cJ5_ensureCapacityInternal_d00df 32 = .ok (.invokestatic 108, 3) := by decide +kernel
theorem dJ5_ensureCapacityInternal_d00df_35 : decode cJ5_ensureCapacityInternal_d00df 35 = .ok (.putfield 15, 3) := by decide +kernel
theorem dJ5_ensureCapacityInternal_d00df_38 : decode cJ5_ensureCapacityInternal_d00df 38 = .ok (.return_, 1) := by decide +kernel
theorem dJ5_newCapacity_0f7a4_0 : decode cJ5_newCapacity_0f7a4 0 = .ok (.aload_n 0, 1) := by decide +kernel
theorem dJ5_newCapacity_0f7a4_1 : decode cJ5_newCapacity_0f7a4 1 = .ok (.getfield 15, 3) := by decide +kernel
theorem dJ5_newCapacity_0f7a4_4 : decode cJ5_newCapacity_0f7a4 4 = .ok (.arraylength, 1) := by decide +kernel
theorem dJ5_newCapacity_0f7a4_5 : decode cJ5_newCapacity_0f7a4 5 = .ok (.istore_n 2, 1) := by decide +kernel
theorem dJ5_newCapacity_0f7a4_6 : decode cJ5_newCapacity_0f7a4 6 = .ok (.iload_n 1, 1) := by decide +kernel
theorem dJ5_newCapacity_0f7a4_7 : decode cJ5_newCapacity_0f7a4 7 = .ok (.aload_n 0, 1) := by decide +kernel
theorem dJ5_newCapacity_0f7a4_8 : decode cJ5_newCapacity_0f7a4 8 = .ok (.getfield 22, 3) := by decide +kernel
theorem dJ5_newCapacity_0f7a4_11 : decode cJ5_newCapacity_0f7a4 11 = .ok (.ishl, 1) := by decide +kernel
theorem dJ5_newCapacity_0f7a4_12 : decode cJ5_newCapacity_0f7a4 12 = .ok (.istore_n 3, 1) := by decide +kernel
theorem dJ5_newCapacity_0f7a4_13 : decode cJ5_newCapacity_0f7a4 13 = .ok (.iload_n 3, 1) := by decide +kernel
theorem dJ5_newCapacity_0f7a4_14 : decode cJ5_newCapacity_0f7a4 14 = .ok (.iload_n 2, 1) := by decide +kernel
theorem dJ5_newCapacity_0f7a4_15 : decode cJ5_newCapacity_0f7a4 15 = .ok (.isub, 1) := by decide +kernel
theorem dJ5_newCapacity_0f7a4_16 : decode cJ5_newCapacity_0f7a4 16 = .ok (.istore 4, 2) := by decide +kernel
theorem dJ5_newCapacity_0f7a4_18 : decode cJ5_newCapacity_0f7a4 18 = .ok (.iload_n 2, 1) := by decide +kernel
theorem dJ5_newCapacity_0f7a4_19 : decode cJ5_newCapacity_0f7a4 19 = .ok (.iload 4, 2) := by decide +kernel
theorem dJ5_newCapacity_0f7a4_21 : decode cJ5_newCapacity_0f7a4 21 = .ok (.iload_n 2, 1) := by decide +kernel
theorem dJ5_newCapacity_0f7a4_22 : decode cJ5_newCapacity_0f7a4 22 = .ok (.iconst 2, 1) := by decide +kernel
theorem dJ5_newCapacity_0f7a4_23 : decode cJ5_newCapacity_0f7a4 23 = .ok (.aload_n 0, 1) := by decide +kernel
theorem dJ5_newCapacity_0f7a4_24 : decode cJ5_newCapacity_0f7a4 24 = .ok (.getfield 22, 3) := by decide +kernel
theorem dJ5_newCapacity_0f7a4_27 : decode cJ5_newCapacity_0f7a4 27 = .ok (.ishl, 1) := by decide +kernel
theorem dJ5_newCapacity_0f7a4_28 : decode cJ5_newCapacity_0f7a4 28 = .ok (.iadd, 1) := by decide +kernel
theorem dJ5_newCapacity_0f7a4_29 : decode cJ5_newCapacity_0f7a4 29 = .ok (.invokestatic 114, 3) := by decide +kernel
theorem dJ5_newCapacity_0f7a4_32 : decode cJ5_newCapacity_0f7a4 32 = .ok (.istore 5, 2) := by decide +kernel
theorem dJ5_newCapacity_0f7a4_34 : decode cJ5_newCapacity_0f7a4 34 = .ok (.iload 5, 2) := by decide +kernel
theorem dJ5_newCapacity_0f7a4_36 : decode cJ5_newCapacity_0f7a4 36 = .ok (.ldc 39, 2) := by decide +kernel
theorem dJ5_newCapacity_0f7a4_38 : decode cJ5_newCapacity_0f7a4 38 = .ok (.if_icmp .ne 13, 3) := by decide +kernel
theorem dJ5_newCapacity_0f7a4_41 : decode cJ5_newCapacity_0f7a4 41 = .ok (.new 120, 3) := by decide +kernel
theorem dJ5_newCapacity_0f7a4_44 : decode cJ5_newCapacity_0f7a4 44 = .ok (.dup, 1) := by decide +kernel
theorem dJ5_newCapacity_0f7a4_45 : decode cJ5_newCapacity_0f7a4 45 = .ok (.ldc 122, 2) := by decide +kernel
theorem dJ5_newCapacity_0f7a4_47 : decode cJ5_newCapacity_0f7a4 47 = .ok (.invokespecial 124, 3) := by decide +kernel
theorem dJ5_newCapacity_0f7a4_50 : decode cJ5_newCapacity_0f7a4 50 = .ok (.athrow, 1) := by decide +kernel
theorem dJ5_newCapacity_0f7a4_51 : decode cJ5_newCapacity_0f7a4 51 = .ok (.iload 5, 2) := by decide +kernel
theorem dJ5_newCapacity_0f7a4_53 : decode cJ5_newCapacity_0f7a4 53 = .ok (.aload_n 0, 1) := by decide +kernel
theorem dJ5_newCapacity_0f7a4_54 : decode cJ5_newCapacity_0f7a4 54 = .ok (.getfield 22, 3) := by decide +kernel
theorem dJ5_newCapacity_0f7a4_57 : decode cJ5_newCapacity_0f7a4 57 = .ok (.ishr, 1) := by decide +kernel
theorem dJ5_newCapacity_0f7a4_58 : decode cJ5_newCapacity_0f7a4 58 = .ok (.ireturn, 1) := by decide +kernel
theorem dJ5_append_cf1ce_0 : decode cJ5_append_cf1ce 0 = .ok (.aload_n 1, 1) := by decide +kernel
theorem dJ5_append_cf1ce_1 : decode cJ5_append_cf1ce 1 = .ok (.ifnonnull 8, 3) := by decide +kernel
theorem dJ5_append_cf1ce_4 : decode cJ5_append_cf1ce 4 = .ok (.aload_n 0, 1) := by decide +kernel
theorem dJ5_append_cf1ce_5 : decode cJ5_append_cf1ce 5 = .ok (.invokevirtual 204, 3) := by decide +kernel
theorem dJ5_append_cf1ce_8 : decode cJ5_append_cf1ce 8 = .ok (.areturn, 1) := by decide +kernel
theorem dJ5_append_cf1ce_9 : decode cJ5_append_cf1ce 9 = .ok (.aload_n 1, 1) := by decide +kernel
theorem dJ5_append_cf1ce_10 : decode cJ5_append_cf1ce 10 = .ok (.invokevirtual 32, 3) := by decide +kernel
theorem dJ5_append_cf1ce_13 : decode cJ5_append_cf1ce 13 = .ok (.istore_n 2, 1) := by decide +kernel
theorem dJ5_append_cf1ce_14 : decode cJ5_append_cf1ce 14 = .ok (.aload_n 0, 1) := by decide +kernel
theorem dJ5_append_cf1ce_15 : decode cJ5_append_cf1ce 15 = .ok (.aload_n 0, 1) := by decide +kernel
theorem dJ5_append_cf1ce_16 : decode cJ5_append_cf1ce 16 = .ok (.getfield 79, 3) := by decide +kernel
theorem dJ5_append_cf1ce_19 : decode cJ5_append_cf1ce 19 = .ok (.iload_n 2, 1) := by decide +kernel
theorem dJ5_append_cf1ce_20 : decode cJ5_append_cf1ce 20 = .ok (.iadd, 1) := by decide +kernel
theorem dJ5_append_cf1ce_21 : decode cJ5_append_cf1ce 21 = .ok (.invokevirtual 100, 3) := by decide +kernel
theorem dJ5_append_cf1ce_24 : decode cJ5_append_cf1ce 24 = .ok (.aload_n 0, 1) := by decide +kernel
theorem dJ5_append_cf1ce_25 : decode cJ5_append_cf1ce 25 = .ok (.aload_n 0, 1) := by decide +kernel
theorem dJ5_append_cf1ce_26 : decode cJ5_append_cf1ce 26 = .ok (.getfield 79, 3) := by decide +kernel
theorem dJ5_append_cf1ce_29 : decode cJ5_append_cf1ce 29 = .ok (.aload_n 1, 1) := by decide +kernel
theorem dJ5_append_cf1ce_30 : decode cJ5_append_cf1ce 30 = .ok (.invokevirtual 208, 3) := by decide +kernel
theorem dJ5_append_cf1ce_33 : decode cJ5_append_cf1ce 33 = .ok (.aload_n 0, 1) := by decide +kernel
theorem dJ5_append_cf1ce_34 : decode cJ5_append_cf1ce 34 = .ok (.dup, 1) := by decide +kernel
theorem dJ5_append_cf1ce_35 : decode cJ5_append_cf1ce 35 = .ok (.getfield 79, 3) := by decide +kernel
theorem dJ5_append_cf1ce_38 : decode cJ5_append_cf1ce 38 = .ok (.iload_n 2, 1) := by decide +kernel
theorem dJ5_append_cf1ce_39 : decode cJ5_append_cf1ce 39 = .ok (.iadd, 1) := by decide +kernel
theorem dJ5_append_cf1ce_40 : decode cJ5_append_cf1ce 40 = .ok (.putfield 79, 3) := by decide +kernel
theorem dJ5_append_cf1ce_43 : decode cJ5_append_cf1ce 43 = .ok (.aload_n 0, 1) := by decide +kernel
theorem dJ5_append_cf1ce_44 : decode cJ5_append_cf1ce 44 = .ok (.areturn, 1) := by decide +kernel
theorem dJ5_append_3fe6f_0 : decode cJ5_append_3fe6f 0 = .ok (.aload_n 0, 1) := by decide +kernel
theorem dJ5_append_3fe6f_1 : decode cJ5_append_3fe6f 1 = .ok (.aload_n 0, 1) := by decide +kernel
theorem dJ5_append_3fe6f_2 : decode cJ5_append_3fe6f 2 = .ok (.getfield 79, 3) := by decide +kernel
theorem dJ5_append_3fe6f_5 : decode cJ5_append_3fe6f 5 = .ok (.iconst 1, 1) := by decide +kernel
theorem dJ5_append_3fe6f_6 : decode cJ5_append_3fe6f 6 = .ok (.iadd, 1) := by decide +kernel
theorem dJ5_append_3fe6f_7 : decode cJ5_append_3fe6f 7 = .ok (.invokevirtual 100, 3) := by decide +kernel
theorem dJ5_append_3fe6f_10 : decode cJ5_append_3fe6f 10 = .ok (.aload_n 0, 1) := by decide +kernel
theorem dJ5_append_3fe6f_11 : decode cJ5_append_3fe6f 11 = .ok (.invokevirtual 83, 3) := by decide +kernel
theorem dJ5_append_3fe6f_14 : decode cJ5_append_3fe6f 14 = .ok (.ifCond .eq 31, 3) := by decide +kernel
theorem dJ5_append_3fe6f_17 : decode cJ5_append_3fe6f 17 = .ok (.iload_n 1, 1) := by decide +kernel
theorem dJ5_append_3fe6f_18 : decode cJ5_append_3fe6f 18 = .ok (.invokestatic 191, 3) := by decide +kernel
theorem dJ5_append_3fe6f_21 : decode cJ5_append_3fe6f 21 = .ok (.ifCond .eq 24, 3) := by decide +kernel
theorem dJ5_append_3fe6f_24 : decode cJ5_append_3fe6f 24 = .ok (.aload_n 0, 1) := by decide +kernel
theorem dJ5_append_3fe6f_25 : decode cJ5_append_3fe6f 25 = .ok (.getfield 15, 3) := by decide +kernel
theorem dJ5_append_3fe6f_28 : decode cJ5_append_3fe6f 28 = .ok (.aload_n 0, 1) := by decide +kernel
theorem dJ5_append_3fe6f_29 : decode cJ5_append_3fe6f 29 = .ok (.dup, 1) := by decide +kernel
theorem dJ5_append_3fe6f_30 : decode cJ5_append_3fe6f 30 = .ok (.getfield 79, 3) := by decide +kernel
theorem dJ5_append_3fe6f_33 : decode cJ5_append_3fe6f 33 = .ok (.dup_x1, 1) := by decide +kernel
theorem dJ5_append_3fe6f_34 : decode cJ5_append_3fe6f 34 = .ok (.iconst 1, 1) := by decide +kernel
theorem dJ5_append_3fe6f_35 : decode cJ5_append_3fe6f 35 = .ok (.iadd, 1) := by decide +kernel
theorem dJ5_append_3fe6f_36 : decode cJ5_append_3fe6f 36 = .ok (.putfield 79, 3) := by decide +kernel
theorem dJ5_append_3fe6f_39 : decode cJ5_append_3fe6f 39 = .ok (.iload_n 1, 1) := by decide +kernel
theorem dJ5_append_3fe6f_40 : decode cJ5_append_3fe6f 40 = .ok (.i2b, 1) := by decide +kernel
theorem dJ5_append_3fe6f_41 : decode cJ5_append_3fe6f 41 = .ok (.bastore, 1) := by decide +kernel
theorem dJ5_append_3fe6f_42 : decode cJ5_append_3fe6f 42 = .ok (.goto 33, 3) := by decide +kernel
theorem dJ5_append_3fe6f_45 : decode cJ5_append_3fe6f 45 = .ok (.aload_n 0, 1) := by decide +kernel
theorem dJ5_append_3fe6f_46 : decode cJ5_append_3fe6f 46 = .ok (.invokevirtual 83, 3) := by decide +kernel
theorem dJ5_append_3fe6f_49 : decode cJ5_append_3fe6f 49 = .ok (.ifCond .eq 7, 3) := by decide +kernel
theorem dJ5_append_3fe6f_52 : decode cJ5_append_3fe6f 52 = .ok (.aload_n 0, 1) := by decide +kernel
theorem dJ5_append_3fe6f_53 : decode cJ5_append_3fe6f 53 = .ok (.invokevirtual 195, 3) := by decide +kernel
theorem dJ5_append_3fe6f_56 : decode cJ5_append_3fe6f 56 = .ok (.aload_n 0, 1) := by decide +kernel
theorem dJ5_append_3fe6f_57 : decode cJ5_append_3fe6f 57 = .ok (.getfield 15, 3) := by decide +kernel
theorem dJ5_append_3fe6f_60 : decode cJ5_append_3fe6f 60 = .ok (.aload_n 0, 1) := by decide +kernel
theorem dJ5_append_3fe6f_61 : decode cJ5_append_3fe6f 61 = .ok (.dup, 1) := by decide +kernel
theorem dJ5_append_3fe6f_62 : decode cJ5_append_3fe6f 62 = .ok (.getfield 79, 3) := by decide +kernel
theorem dJ5_append_3fe6f_65 : decode cJ5_append_3fe6f 65 = .ok (.dup_x1, 1) := by decide +kernel
theorem dJ5_append_3fe6f_66 : decode cJ5_append_3fe6f 66 = .ok (.iconst 1, 1) := by decide +kernel
theorem dJ5_append_3fe6f_67 : decode cJ5_append_3fe6f 67 = .ok (.iadd, 1) := by decide +kernel
theorem dJ5_append_3fe6f_68 : decode cJ5_append_3fe6f 68 = .ok (.putfield 79, 3) := by decide +kernel
theorem dJ5_append_3fe6f_71 : decode cJ5_append_3fe6f 71 = .ok (.iload_n 1, 1) := by decide +kernel
theorem dJ5_append_3fe6f_72 : decode cJ5_append_3fe6f 72 = .ok (.invokestatic 197, 3) := by decide +kernel
theorem dJ5_append_3fe6f_75 : decode cJ5_append_3fe6f 75 = .ok (.aload_n 0, 1) := by decide +kernel
theorem dJ5_append_3fe6f_76 : decode cJ5_append_3fe6f 76 = .ok (.areturn, 1) := by decide +kernel
theorem dJ5_append_c97b9_0 : decode cJ5_append_c97b9 0 = .ok (.aload_n 0, 1) := by decide +kernel
theorem dJ5_append_c97b9_1 : decode cJ5_append_c97b9 1 = .ok (.getfield 79, 3) := by decide +kernel
theorem dJ5_append_c97b9_4 : decode cJ5_append_c97b9 4 = .ok (.istore_n 2, 1) := by decide +kernel
theorem dJ5_append_c97b9_5 : decode cJ5_append_c97b9 5 = .ok (.iload_n 2, 1) := by decide +kernel
theorem dJ5_append_c97b9_6 : decode cJ5_append_c97b9 6 = .ok (.iload_n 1, 1) := by decide +kernel
theorem dJ5_append_c97b9_7 : decode cJ5_append_c97b9 7 = .ok (.invokestatic 245, 3) := by decide +kernel
theorem dJ5_append_c97b9_10 : decode cJ5_append_c97b9 10 = .ok (.iadd, 1) := by decide +kernel
theorem dJ5_append_c97b9_11 : decode cJ5_append_c97b9 11 = .ok (.istore_n 3, 1) := by decide +kernel
theorem dJ5_append_c97b9_12 : decode cJ5_append_c97b9 12 = .ok (.aload_n 0, 1) := by decide +kernel
theorem dJ5_append_c97b9_13 : decode cJ5_append_c97b9 13 = .ok (.iload_n 3, 1) := by decide +kernel
theorem dJ5_append_c97b9_14 : decode cJ5_append_c97b9 14 = .ok (.invokevirtual 100, 3) := by decide +kernel
theorem dJ5_append_c97b9_17 : decode cJ5_append_c97b9 17 = .ok (.aload_n 0, 1) := by decide +kernel
theorem dJ5_append_c97b9_18 : decode cJ5_append_c97b9 18 = .ok (.invokevirtual 83, 3) := by decide +kernel
theorem dJ5_append_c97b9_21 : decode cJ5_append_c97b9 21 = .ok (.ifCond .eq 16, 3) := by decide +kernel
theorem dJ5_append_c97b9_24 : decode cJ5_append_c97b9 24 = .ok (.iload_n 1, 1) := by decide +kernel
theorem dJ5_append_c97b9_25 : decode cJ5_append_c97b9 25 = .ok (.iload_n 3, 1) := by decide +kernel
theorem dJ5_append_c97b9_26 : decode cJ5_append_c97b9 26 = .ok (.aload_n 0, 1) := by decide +kernel
theorem dJ5_append_c97b9_27 : decode cJ5_append_c97b9 27 = .ok (.getfield 15, 3) := by decide +kernel
theorem dJ5_append_c97b9_30 : decode cJ5_append_c97b9 30 = .ok (.invokestatic 248, 3) := by decide +kernel
theorem dJ5_append_c97b9_33 : decode cJ5_append_c97b9 33 = .ok (.pop, 1) := by decide +kernel
theorem dJ5_append_c97b9_34 : decode cJ5_append_c97b9 34 = .ok (.goto 14, 3) := by decide +kernel
theorem dJ5_append_c97b9_37 : decode cJ5_append_c97b9 37 = .ok (.iload_n 1, 1) := by decide +kernel
theorem dJ5_append_c97b9_38 : decode cJ5_append_c97b9 38 = .ok (.iload_n 2, 1) := by decide +kernel
theorem dJ5_append_c97b9_39 : decode cJ5_append_c97b9 39 = .ok (.iload_n 3, 1) := by decide +kernel
theorem dJ5_append_c97b9_40 : decode cJ5_append_c97b9 40 = .ok (.aload_n 0, 1) := by decide +kernel
theorem dJ5_append_c97b9_41 : decode cJ5_append_c97b9 41 = .ok (.getfield 15, 3) := by decide +kernel
theorem dJ5_append_c97b9_44 : decode cJ5_append_c97b9 44 = .ok (.invokestatic 251, 3) := by decide +kernel
theorem dJ5_append_c97b9_47 : decode cJ5_append_c97b9 47 = .ok (.pop, 1) := by decide +kernel
theorem dJ5_append_c97b9_48 : decode cJ5_append_c97b9 48 = .ok (.aload_n 0, 1) := by decide +kernel
theorem dJ5_append_c97b9_49 : decode cJ5_append_c97b9 49 = .ok (.iload_n 3, 1) := by decide +kernel
theorem dJ5_append_c97b9_50 : decode cJ5_append_c97b9 50 = .ok (.putfield 79, 3) := by decide +kernel
theorem dJ5_append_c97b9_53 : decode cJ5_append_c97b9 53 = .ok (.aload_n 0, 1) := by decide +kernel
theorem dJ5_append_c97b9_54 : decode cJ5_append_c97b9 54 = .ok (.areturn, 1) := by decide +kernel
theorem dJ5_getValue_6d5f1_0 : decode cJ5_getValue_6d5f1 0 = .ok (.aload_n 0, 1) := by decide +kernel
theorem dJ5_getValue_6d5f1_1 : decode cJ5_getValue_6d5f1 1 = .ok (.getfield 15, 3) := by decide +kernel
theorem dJ5_getValue_6d5f1_4 : decode cJ5_getValue_6d5f1 4 = .ok (.areturn, 1) := by decide +kernel
theorem dJ5_isLatin1_aae02_0 : decode cJ5_isLatin1_aae02 0 = .ok (.getstatic 18, 3) := by decide +kernel
theorem dJ5_isLatin1_aae02_3 : decode cJ5_isLatin1_aae02 3 = .ok (.ifCond .eq 14, 3) := by decide +kernel
theorem dJ5_isLatin1_aae02_6 : decode cJ5_isLatin1_aae02 6 = .ok (.aload_n 0, 1) := by decide +kernel
theorem dJ5_isLatin1_aae02_7 : decode cJ5_isLatin1_aae02 7 = .ok (.getfield 22, 3) := by decide +kernel
theorem dJ5_isLatin1_aae02_10 : decode cJ5_isLatin1_aae02 10 = .ok (.ifCond .ne 7, 3) := by decide +kernel
theorem dJ5_isLatin1_aae02_13 : decode cJ5_isLatin1_aae02 13 = .ok (.iconst 1, 1) := by decide +kernel
theorem dJ5_isLatin1_aae02_14 : decode cJ5_isLatin1_aae02 14 = .ok (.goto 4, 3) := by decide +kernel
theorem dJ5_isLatin1_aae02_17 : decode cJ5_isLatin1_aae02 17 = .ok (.iconst 0, 1) := by decide +kernel
theorem dJ5_isLatin1_aae02_18 : decode cJ5_isLatin1_aae02 18 = .ok (.ireturn, 1) := by decide +kernel
theorem dJ5_inflateIfNeededFor_a7421_0 : decode cJ5_inflateIfNeededFor_a7421 0 = .ok (.getstatic 18, 3) := by decide +kernel
theorem dJ5_inflateIfNeededFor_a7421_3 : decode cJ5_inflateIfNeededFor_a7421 3 = .ok (.ifCond .eq 18, 3) := by decide +kernel
theorem dJ5_inflateIfNeededFor_a7421_6 : decode cJ5_inflateIfNeededFor_a7421 6 = .ok (.aload_n 0, 1) := by decide +kernel
theorem dJ5_inflateIfNeededFor_a7421_7 : decode cJ5_inflateIfNeededFor_a7421 7 = .ok (.getfield 22, 3) := by decide +kernel
theorem dJ5_inflateIfNeededFor_a7421_10 : decode cJ5_inflateIfNeededFor_a7421 10 = .ok (.aload_n 1, 1) := by decide +kernel
theorem dJ5_inflateIfNeededFor_a7421_11 : decode cJ5_inflateIfNeededFor_a7421 11 = .ok (.invokevirtual 40, 3) := by decide +kernel
theorem dJ5_inflateIfNeededFor_a7421_14 : decode cJ5_inflateIfNeededFor_a7421 14 = .ok (.if_icmp .eq 7, 3) := by decide +kernel
theorem dJ5_inflateIfNeededFor_a7421_17 : decode cJ5_inflateIfNeededFor_a7421 17 = .ok (.aload_n 0, 1) := by decide +kernel
theorem dJ5_inflateIfNeededFor_a7421_18 : decode cJ5_inflateIfNeededFor_a7421 18 = .ok (.invokevirtual 195, 3) := by decide +kernel
theorem dJ5_inflateIfNeededFor_a7421_21 : decode cJ5_inflateIfNeededFor_a7421 21 = .ok (.return_, 1) := by decide +kernel
theorem dJ5_putStringAt_47b60_0 : decode cJ5_putStringAt_47b60 0 = .ok (.aload_n 0, 1) := by decide +kernel
theorem dJ5_putStringAt_47b60_1 : decode cJ5_putStringAt_47b60 1 = .ok (.aload_n 2, 1) := by decide +kernel
theorem dJ5_putStringAt_47b60_2 : decode cJ5_putStringAt_47b60 2 = .ok (.invokevirtual 397, 3) := by decide +kernel
theorem dJ5_putStringAt_47b60_5 : decode cJ5_putStringAt_47b60 5 = .ok (.aload_n 2, 1) := by decide +kernel
theorem dJ5_putStringAt_47b60_6 : decode cJ5_putStringAt_47b60 6 = .ok (.aload_n 0, 1) := by decide +kernel
theorem dJ5_putStringAt_47b60_7 : decode cJ5_putStringAt_47b60 7 = .ok (.getfield 15, 3) := by decide +kernel
theorem dJ5_putStringAt_47b60_10 : decode cJ5_putStringAt_47b60 10 = .ok (.iload_n 1, 1) := by decide +kernel
theorem dJ5_putStringAt_47b60_11 : decode cJ5_putStringAt_47b60 11 = .ok (.aload_n 0, 1) := by decide +kernel
theorem dJ5_putStringAt_47b60_12 : decode cJ5_putStringAt_47b60 12 = .ok (.getfield 22, 3) := by decide +kernel
theorem dJ5_putStringAt_47b60_15 : decode cJ5_putStringAt_47b60 15 = .ok (.invokevirtual 399, 3) := by decide +kernel
theorem dJ5_putStringAt_47b60_18 : decode cJ5_putStringAt_47b60 18 = .ok (.return_, 1) := by decide +kernel
theorem dJ6_getChars_ba4f3_0 : decode cJ6_getChars_ba4f3 0 = .ok (.iload_n 1, 1) := by decide +kernel
theorem dJ6_getChars_ba4f3_1 : decode cJ6_getChars_ba4f3 1 = .ok (.istore 5, 2) := by decide +kernel
theorem dJ6_getChars_ba4f3_3 : decode cJ6_getChars_ba4f3 3 = .ok (.iload_n 0, 1) := by decide +kernel
theorem dJ6_getChars_ba4f3_4 : decode cJ6_getChars_ba4f3 4 = .ok (.ifCond .ge 7, 3) := by decide +kernel
theorem dJ6_getChars_ba4f3_7 : decode cJ6_getChars_ba4f3 7 = .ok (.iconst 1, 1) := by decide +kernel
theorem dJ6_getChars_ba4f3_8 : decode cJ6_getChars_ba4f3 8 = .ok (.goto 4, 3) := by decide +kernel
theorem dJ6_getChars_ba4f3_11 : decode cJ6_getChars_ba4f3 11 = .ok (.iconst 0, 1) := by decide +kernel
theorem dJ6_getChars_ba4f3_12 : decode cJ6_getChars_ba4f3 12 = .ok (.istore 6, 2) := by decide +kernel
theorem dJ6_getChars_ba4f3_14 : decode cJ6_getChars_ba4f3 14 = .ok (.iload 6, 2) := by decide +kernel
theorem dJ6_getChars_ba4f3_16 : decode cJ6_getChars_ba4f3 16 = .ok (.ifCond .ne 6, 3) := by decide +kernel
theorem dJ6_getChars_ba4f3_19 : decode cJ6_getChars_ba4f3 19 = .ok (.iload_n 0, 1) := by decide +kernel
theorem dJ6_getChars_ba4f3_20 : decode cJ6_getChars_ba4f3 20 = .ok (.ineg, 1) := by decide +kernel
theorem dJ6_getChars_ba4f3_21 : decode cJ6_getChars_ba4f3 21 = .ok (.istore_n 0, 1) := by decide +kernel
theorem dJ6_getChars_ba4f3_22 : decode cJ6_getChars_ba4f3 22 = .ok (.iload_n 0, 1) := by decide +kernel
theorem dJ6_getChars_ba4f3_23 : decode cJ6_getChars_ba4f3 23 = .ok (.bipush (-100), 2) := by decide +kernel
theorem dJ6_getChars_ba4f3_25 : decode cJ6_getChars_ba4f3 25 = .ok (.if_icmp .gt 47, 3) := by decide +kernel
theorem dJ6_getChars_ba4f3_28 : decode cJ6_getChars_ba4f3 28 = .ok (.iload_n 0, 1) := by decide +kernel
theorem dJ6_getChars_ba4f3_29 : decode cJ6_getChars_ba4f3 29 = .ok (.bipush 100, 2) := by decide +kernel
theorem dJ6_getChars_ba4f3_31 : decode cJ6_getChars_ba4f3 31 = .ok (.idiv, 1) := by decide +kernel
theorem dJ6_getChars_ba4f3_32 : decode cJ6_getChars_ba4f3 32 = .ok (.istore_n 3, 1) := by decide +kernel
theorem dJ6_getChars_ba4f3_33 : decode cJ6_getChars_ba4f3 33 = .ok (.iload_n 3, 1) := by decide +kernel
theorem dJ6_getChars_ba4f3_34 : decode cJ6_getChars_ba4f3 34 = .ok (.bipush 100, 2) := by decide +kernel
theorem dJ6_getChars_ba4f3_36 : decode cJ6_getChars_ba4f3 36 = .ok (.imul, 1) := by decide +kernel
theorem dJ6_getChars_ba4f3_37 : decode cJ6_getChars_ba4f3 37 = .ok (.iload_n 0, 1) := by decide +kernel
theorem dJ6_getChars_ba4f3_38 : decode cJ6_getChars_ba4f3 38 = .ok (.isub, 1) := by decide +kernel
theorem dJ6_getChars_ba4f3_39 : decode cJ6_getChars_ba4f3 39 = .ok (.istore 4, 2) := by decide +kernel
theorem dJ6_getChars_ba4f3_41 : decode cJ6_getChars_ba4f3 41 = .ok (.iload_n 3, 1) := by decide +kernel
theorem dJ6_getChars_ba4f3_42 : decode cJ6_getChars_ba4f3 42 = .ok (.istore_n 0, 1) := by decide +kernel
theorem dJ6_getChars_ba4f3_43 : decode cJ6_getChars_ba4f3 43 = .ok (.aload_n 2, 1) := by decide +kernel
theorem dJ6_getChars_ba4f3_44 : decode cJ6_getChars_ba4f3 44 = .ok (.iinc 5 (-1), 3) := by decide +kernel
theorem dJ6_getChars_ba4f3_47 : decode cJ6_getChars_ba4f3 47 = .ok (.iload 5, 2) := by decide +kernel
theorem dJ6_getChars_ba4f3_49 : decode cJ6_getChars_ba4f3 49 = .ok (.getstatic 83, 3) := by decide +kernel
theorem dJ6_getChars_ba4f3_52 : decode cJ6_getChars_ba4f3 52 = .ok (.iload 4, 2) := by decide +kernel
theorem dJ6_getChars_ba4f3_54 : decode cJ6_getChars_ba4f3 54 = .ok (.baload, 1) := by decide +kernel
theorem dJ6_getChars_ba4f3_55 : decode cJ6_getChars_ba4f3 55 = .ok (.bastore, 1) := by decide +kernel
theorem dJ6_getChars_ba4f3_56 : decode cJ6_getChars_ba4f3 56 = .ok (.aload_n 2, 1) := by decide +kernel
theorem dJ6_getChars_ba4f3_57 : decode cJ6_getChars_ba4f3 57 = .ok (.iinc 5 (-1), 3) := by decide +kernel
theorem dJ6_getChars_ba4f3_60 : decode cJ6_getChars_ba4f3 60 = .ok (.iload 5, 2) := by decide +kernel
theorem dJ6_getChars_ba4f3_62 : decode cJ6_getChars_ba4f3 62 = .ok (.getstatic 87, 3) := by decide +kernel
theorem dJ6_getChars_ba4f3_65 : decode cJ6_getChars_ba4f3 65 = .ok (.iload 4, 2) := by decide +kernel
theorem dJ6_getChars_ba4f3_67 : decode cJ6_getChars_ba4f3 67 = .ok (.baload, 1) := by decide +kernel
theorem dJ6_getChars_ba4f3_68 : decode cJ6_getChars_ba4f3 68 = .ok (.bastore, 1) := by decide +kernel
theorem dJ6_getChars_ba4f3_69 : decode cJ6_getChars_ba4f3 69 = .ok (.goto (-47), 3) := by decide +kernel
theorem dJ6_getChars_ba4f3_72 : decode cJ6_getChars_ba4f3 72 = .ok (.aload_n 2, 1) := by decide +kernel
theorem dJ6_getChars_ba4f3_73 : decode cJ6_getChars_ba4f3 73 = .ok (.iinc 5 (-1), 3) := by decide +kernel
theorem dJ6_getChars_ba4f3_76 : decode cJ6_getChars_ba4f3 76 = .ok (.iload 5, 2) := by decide +kernel
theorem dJ6_getChars_ba4f3_78 : decode cJ6_getChars_ba4f3 78 = .ok (.getstatic 83, 3) := by decide +kernel
theorem dJ6_getChars_ba4f3_81 : decode cJ6_getChars_ba4f3 81 = .ok (.iload_n 0, 1) := by decide +kernel
theorem dJ6_getChars_ba4f3_82 : decode cJ6_getChars_ba4f3 82 = .ok (.ineg, 1) := by decide +kernel
theorem dJ6_getChars_ba4f3_83 : decode cJ6_getChars_ba4f3 83 = .ok (.baload, 1) := by decide +kernel
theorem dJ6_getChars_ba4f3_84 : decode cJ6_getChars_ba4f3 84 = .ok (.bastore, 1) := by decide +kernel
theorem dJ6_getChars_ba4f3_85 : decode cJ6_getChars_ba4f3 85 = .ok (.iload_n 0, 1) := by decide +kernel
theorem dJ6_getChars_ba4f3_86 : decode cJ6_getChars_ba4f3 86 = .ok (.bipush (-9), 2) := by decide +kernel
theorem dJ6_getChars_ba4f3_88 : decode cJ6_getChars_ba4f3 88 = .ok (.if_icmp .ge 16, 3) := by decide +kernel
theorem dJ6_getChars_ba4f3_91 : decode cJ6_getChars_ba4f3 91 = .ok (.aload_n 2, 1) := by decide +kernel
theorem dJ6_getChars_ba4f3_92 : decode cJ6_getChars_ba4f3 92 = .ok (.iinc 5 (-1), 3) := by decide +kernel
theorem dJ6_getChars_ba4f3_95 : decode cJ6_getChars_ba4f3 95 = .ok (.iload 5, 2) := by decide +kernel
theorem dJ6_getChars_ba4f3_97 : decode cJ6_getChars_ba4f3 97 = .ok (.getstatic 87, 3) := by decide +kernel
theorem dJ6_getChars_ba4f3_100 : decode cJ6_getChars_ba4f3 100 = .ok (.iload_n 0, 1) := by decide +kernel
theorem dJ6_getChars_ba4f3_101 : decode cJ6_getChars_ba4f3 101 = .ok (.ineg, 1) := by decide +kernel
theorem dJ6_getChars_ba4f3_102 : decode cJ6_getChars_ba4f3 102 = .ok (.baload, 1) := by decide +kernel
theorem dJ6_getChars_ba4f3_103 : decode cJ6_getChars_ba4f3 103 = .ok (.bastore, 1) := by decide +kernel
theorem dJ6_getChars_ba4f3_104 : decode cJ6_getChars_ba4f3 104 = .ok (.iload 6, 2) := by decide +kernel
theorem dJ6_getChars_ba4f3_106 : decode cJ6_getChars_ba4f3 106 = .ok (.ifCond .eq 12, 3) := by decide +kernel
theorem dJ6_getChars_ba4f3_109 : decode cJ6_getChars_ba4f3 109 = .ok (.aload_n 2, 1) := by decide +kernel
theorem dJ6_getChars_ba4f3_110 : decode cJ6_getChars_ba4f3 110 = .ok (.iinc 5 (-1), 3) := by decide +kernel
theorem dJ6_getChars_ba4f3_113 : decode cJ6_getChars_ba4f3 113 = .ok (.iload 5, 2) := by decide +kernel
theorem dJ6_getChars_ba4f3_115 : decode cJ6_getChars_ba4f3 115 = .ok (.bipush 45, 2) := by decide +kernel
theorem dJ6_getChars_ba4f3_117 : decode cJ6_getChars_ba4f3 117 = .ok (.bastore, 1) := by decide +kernel
theorem dJ6_getChars_ba4f3_118 : decode cJ6_getChars_ba4f3 118 = .ok (.iload 5, 2) := by decide +kernel
theorem dJ6_getChars_ba4f3_120 : decode cJ6_getChars_ba4f3 120 = .ok (.ireturn, 1) := by decide +kernel
theorem dJ6_stringSize_0f7a4_0 : decode cJ6_stringSize_0f7a4 0 = .ok (.iconst 1, 1) := by decide +kernel
theorem dJ6_stringSize_0f7a4_1 : decode cJ6_stringSize_0f7a4 1 = .ok (.istore_n 1, 1) := by decide +kernel
theorem dJ6_stringSize_0f7a4_2 : decode cJ6_stringSize_0f7a4 2 = .ok (.iload_n 0, 1) := by decide +kernel
theorem dJ6_stringSize_0f7a4_3 : decode cJ6_stringSize_0f7a4 3 = .ok (.ifCond .lt 8, 3) := by decide +kernel
theorem dJ6_stringSize_0f7a4_6 : decode cJ6_stringSize_0f7a4 6 = .ok (.iconst 0, 1) := by decide +kernel
theorem dJ6_stringSize_0f7a4_7 : decode cJ6_stringSize_0f7a4 7 = .ok (.istore_n 1, 1) := by decide +kernel
theorem dJ6_stringSize_0f7a4_8 : decode cJ6_stringSize_0f7a4 8 = .ok (.iload_n 0, 1) := by decide +kernel
theorem dJ6_stringSize_0f7a4_9 : decode cJ6_stringSize_0f7a4 9 = .ok (.ineg, 1) := by decide +kernel
theorem dJ6_stringSize_0f7a4_10 : decode cJ6_stringSize_0f7a4 10 = .ok (.istore_n 0, 1) := by decide +kernel
theorem dJ6_stringSize_0f7a4_11 : decode cJ6_stringSize_0f7a4 11 = .ok (.bipush (-10), 2) := by decide +kernel
theorem dJ6_stringSize_0f7a4_13 : decode cJ6_stringSize_0f7a4 13 = .ok (.istore_n 2, 1) := by decide +kernel
theorem dJ6_stringSize_0f7a4_14 : decode cJ6_stringSize_0f7a4 14 = .ok (.iconst 1, 1) := by decide +kernel
theorem dJ6_stringSize_0f7a4_15 : decode cJ6_stringSize_0f7a4 15 = .ok (.istore_n 3, 1) := by decide +kernel
theorem dJ6_stringSize_0f7a4_16 : decode cJ6_stringSize_0f7a4 16 = .ok (.iload_n 3, 1) := by decide +kernel
theorem dJ6_stringSize_0f7a4_17 : decode cJ6_stringSize_0f7a4 17 = .ok (.bipush 10, 2) := by decide +kernel
theorem dJ6_stringSize_0f7a4_19 : decode cJ6_stringSize_0f7a4 19 = .ok (.if_icmp .ge 23, 3) := by decide +kernel
theorem dJ6_stringSize_0f7a4_22 : decode cJ6_stringSize_0f7a4 22 = .ok (.iload_n 0, 1) := by decide +kernel
theorem dJ6_stringSize_0f7a4_23 : decode cJ6_stringSize_0f7a4 23 = .ok (.iload_n 2, 1) := by decide +kernel
theorem dJ6_stringSize_0f7a4_24 : decode cJ6_stringSize_0f7a4 24 = .ok (.if_icmp .le 7, 3) := by decide +kernel
theorem dJ6_stringSize_0f7a4_27 : decode cJ6_stringSize_0f7a4 27 = .ok (.iload_n 3, 1) := by decide +kernel
theorem dJ6_stringSize_0f7a4_28 : decode cJ6_stringSize_0f7a4 28 = .ok (.iload_n 1, 1) := by decide +kernel
theorem dJ6_stringSize_0f7a4_29 : decode cJ6_stringSize_0f7a4 29 = .ok (.iadd, 1) := by decide +kernel
theorem dJ6_stringSize_0f7a4_30 : decode cJ6_stringSize_0f7a4 30 = .ok (.ireturn, 1) := by decide +kernel
theorem dJ6_stringSize_0f7a4_31 : decode cJ6_stringSize_0f7a4 31 = .ok (.bipush 10, 2) := by decide +kernel
theorem dJ6_stringSize_0f7a4_33 : decode cJ6_stringSize_0f7a4 33 = .ok (.iload_n 2, 1) := by decide +kernel
theorem dJ6_stringSize_0f7a4_34 : decode cJ6_stringSize_0f7a4 34 = .ok (.imul, 1) := by decide +kernel
theorem dJ6_stringSize_0f7a4_35 : decode cJ6_stringSize_0f7a4 35 = .ok (.istore_n 2, 1) := by decide +kernel
theorem dJ6_stringSize_0f7a4_36 : decode cJ6_stringSize_0f7a4 36 = .ok (.iinc 3 1, 3) := by decide +kernel
theorem dJ6_stringSize_0f7a4_39 : decode cJ6_stringSize_0f7a4 39 = .ok (.goto (-23), 3) := by decide +kernel
theorem dJ6_stringSize_0f7a4_42 : decode cJ6_stringSize_0f7a4 42 = .ok (.bipush 10, 2) := by decide +kernel
theorem dJ6_stringSize_0f7a4_44 : decode cJ6_stringSize_0f7a4 44 = .ok (.iload_n 1, 1) := by decide +kernel
theorem dJ6_stringSize_0f7a4_45 : decode cJ6_stringSize_0f7a4 45 = .ok (.iadd, 1) := by decide +kernel
theorem dJ6_stringSize_0f7a4_46 : decode cJ6_stringSize_0f7a4 46 = .ok (.ireturn, 1) := by decide +kernel
theorem dJ9_max_7cf53_0 : decode cJ9_max_7cf53 0 = .ok (.iload_n 0, 1) := by decide +kernel
theorem dJ9_max_7cf53_1 : decode cJ9_max_7cf53 1 = .ok (.iload_n 1, 1) := by decide +kernel
theorem dJ9_max_7cf53_2 : decode cJ9_max_7cf53 2 = .ok (.if_icmp .lt 7, 3) := by decide +kernel
theorem dJ9_max_7cf53_5 : decode cJ9_max_7cf53 5 = .ok (.iload_n 0, 1) := by decide +kernel
theorem dJ9_max_7cf53_6 : decode cJ9_max_7cf53 6 = .ok (.goto 4, 3) := by decide +kernel
theorem dJ9_max_7cf53_9 : decode cJ9_max_7cf53 9 = .ok (.iload_n 1, 1) := by decide +kernel
theorem dJ9_max_7cf53_10 : decode cJ9_max_7cf53 10 = .ok (.ireturn, 1) := by decide +kernel
theorem dJ9_min_7cf53_0 : decode cJ9_min_7cf53 0 = .ok (.iload_n 0, 1) := by decide +kernel
theorem dJ9_min_7cf53_1 : decode cJ9_min_7cf53 1 = .ok (.iload_n 1, 1) := by decide +kernel
theorem dJ9_min_7cf53_2 : decode cJ9_min_7cf53 2 = .ok (.if_icmp .gt 7, 3) := by decide +kernel
theorem dJ9_min_7cf53_5 : decode cJ9_min_7cf53 5 = .ok (.iload_n 0, 1) := by decide +kernel
theorem dJ9_min_7cf53_6 : decode cJ9_min_7cf53 6 = .ok (.goto 4, 3) := by decide +kernel
theorem dJ9_min_7cf53_9 : decode cJ9_min_7cf53 9 = .ok (.iload_n 1, 1) := by decide +kernel
theorem dJ9_min_7cf53_10 : decode cJ9_min_7cf53 10 = .ok (.ireturn, 1) := by decide +kernel
theorem dJ0_init_81219_0 : decode cJ0_init_81219 0 = .ok (.aload_n 0, 1) := by decide +kernel
theorem dJ0_init_81219_1 : decode cJ0_init_81219 1 = .ok (.aload_n 1, 1) := by decide +kernel
theorem dJ0_init_81219_2 : decode cJ0_init_81219 2 = .ok (.aconst_null, 1) := by decide +kernel
theorem dJ0_init_81219_3 : decode cJ0_init_81219 3 = .ok (.invokespecial 489, 3) := by decide +kernel
theorem dJ0_init_81219_6 : decode cJ0_init_81219 6 = .ok (.return_, 1) := by decide +kernel
theorem dJ0_length_8abf5_0 : decode cJ0_length_8abf5 0 = .ok (.aload_n 0, 1) := by decide +kernel
theorem dJ0_length_8abf5_1 : decode cJ0_length_8abf5 1 = .ok (.getfield 9, 3) := by decide +kernel
theorem dJ0_length_8abf5_4 : decode cJ0_length_8abf5 4 = .ok (.arraylength, 1) := by decide +kernel
theorem dJ0_length_8abf5_5 : decode cJ0_length_8abf5 5 = .ok (.aload_n 0, 1) := by decide +kernel
theorem dJ0_length_8abf5_6 : decode cJ0_length_8abf5 6 = .ok (.invokevirtual 335, 3) := by decide +kernel
theorem dJ0_length_8abf5_9 : decode cJ0_length_8abf5 9 = .ok (.ishr, 1) := by decide +kernel
theorem dJ0_length_8abf5_10 : decode cJ0_length_8abf5 10 = .ok (.ireturn, 1) := by decide +kernel
theorem dJ0_charAt_5068e_0 : decode cJ0_charAt_5068e 0 = .ok (.aload_n 0, 1) := by decide +kernel
theorem dJ0_charAt_5068e_1 : decode cJ0_charAt_5068e 1 = .ok (.invokevirtual 492, 3) := by decide +kernel
theorem dJ0_charAt_5068e_4 : decode cJ0_charAt_5068e 4 = .ok (.ifCond .eq 12, 3) := by decide +kernel
theorem dJ0_charAt_5068e_7 : decode cJ0_charAt_5068e 7 = .ok (.aload_n 0, 1) := by decide +kernel
theorem dJ0_charAt_5068e_8 : decode cJ0_charAt_5068e 8 = .ok (.getfield 9, 3) := by decide +kernel
theorem dJ0_charAt_5068e_11 : decode cJ0_charAt_5068e 11 = .ok (.iload_n 1, 1) := by decide +kernel
theorem dJ0_charAt_5068e_12 : decode cJ0_charAt_5068e 12 = .ok (.invokestatic 495, 3) := by decide +kernel
theorem dJ0_charAt_5068e_15 : decode cJ0_charAt_5068e 15 = .ok (.ireturn, 1) := by decide +kernel
theorem dJ0_charAt_5068e_16 : decode cJ0_charAt_5068e 16 = .ok (.aload_n 0, 1) := by decide +kernel
theorem dJ0_charAt_5068e_17 : decode cJ0_charAt_5068e 17 = .ok (.getfield 9, 3) := by decide +kernel
theorem dJ0_charAt_5068e_20 : decode cJ0_charAt_5068e 20 = .ok (.iload_n 1, 1) := by decide +kernel
theorem dJ0_charAt_5068e_21 : decode cJ0_charAt_5068e 21 = .ok (.invokestatic 498, 3) := by decide +kernel
theorem dJ0_charAt_5068e_24 : decode cJ0_charAt_5068e 24 = .ok (.ireturn, 1) := by decide +kernel
theorem dJ0_getBytes_840e7_0 : decode cJ0_getBytes_840e7 0 = .ok (.aload_n 0, 1) := by decide +kernel
theorem dJ0_getBytes_840e7_1 : decode cJ0_getBytes_840e7 1 = .ok (.invokevirtual 335, 3) := by decide +kernel
theorem dJ0_getBytes_840e7_4 : decode cJ0_getBytes_840e7 4 = .ok (.iload_n 3, 1) := by decide +kernel
theorem dJ0_getBytes_840e7_5 : decode cJ0_getBytes_840e7 5 = .ok (.if_icmp .ne 23, 3) := by decide +kernel
theorem dJ0_getBytes_840e7_8 : decode cJ0_getBytes_840e7 8 = .ok (.aload_n 0, 1) := by decide +kernel
theorem dJ0_getBytes_840e7_9 : decode cJ0_getBytes_840e7 9 = .ok (.getfield 9, 3) := by decide +kernel
theorem dJ0_getBytes_840e7_12 : decode cJ0_getBytes_840e7 12 = .ok (.iconst 0, 1) := by decide +kernel
theorem dJ0_getBytes_840e7_13 : decode cJ0_getBytes_840e7 13 = .ok (.aload_n 1, 1) := by decide +kernel
theorem dJ0_getBytes_840e7_14 : decode cJ0_getBytes_840e7 14 = .ok (.iload_n 2, 1) := by decide +kernel
theorem dJ0_getBytes_840e7_15 : decode cJ0_getBytes_840e7 15 = .ok (.iload_n 3, 1) := by decide +kernel
theorem dJ0_getBytes_840e7_16 : decode cJ0_getBytes_840e7 16 = .ok (.ishl, 1) := by decide +kernel
theorem dJ0_getBytes_840e7_17 : decode cJ0_getBytes_840e7 17 = .ok (.aload_n 0, 1) := by decide +kernel
theorem dJ0_getBytes_840e7_18 : decode cJ0_getBytes_840e7 18 = .ok (.getfield 9, 3) := by decide +kernel
theorem dJ0_getBytes_840e7_21 : decode cJ0_getBytes_840e7 21 = .ok (.arraylength, 1) := by decide +kernel
theorem dJ0_getBytes_840e7_22 : decode cJ0_getBytes_840e7 22 = .ok (.invokestatic 212, 3) := by decide +kernel
theorem dJ0_getBytes_840e7_25 : decode cJ0_getBytes_840e7 25 = .ok (.goto 18, 3) := by decide +kernel
theorem dJ0_getBytes_840e7_28 : decode cJ0_getBytes_840e7 28 = .ok (.aload_n 0, 1) := by decide +kernel
theorem dJ0_getBytes_840e7_29 : decode cJ0_getBytes_840e7 29 = .ok (.getfield 9, 3) := by decide +kernel
theorem dJ0_getBytes_840e7_32 : decode cJ0_getBytes_840e7 32 = .ok (.iconst 0, 1) := by decide +kernel
theorem dJ0_getBytes_840e7_33 : decode cJ0_getBytes_840e7 33 = .ok (.aload_n 1, 1) := by decide +kernel
theorem dJ0_getBytes_840e7_34 : decode cJ0_getBytes_840e7 34 = .ok (.iload_n 2, 1) := by decide +kernel
theorem dJ0_getBytes_840e7_35 : decode cJ0_getBytes_840e7 35 = .ok (.aload_n 0, 1) := by decide +kernel
theorem dJ0_getBytes_840e7_36 : decode cJ0_getBytes_840e7 36 = .ok (.getfield 9, 3) := by decide +kernel
theorem dJ0_getBytes_840e7_39 : decode cJ0_getBytes_840e7 39 = .ok (.arraylength, 1) := by decide +kernel
theorem dJ0_getBytes_840e7_40 : decode cJ0_getBytes_840e7 40 = .ok (.invokestatic 106, 3) := by decide +kernel
theorem dJ0_getBytes_840e7_43 : decode cJ0_getBytes_840e7 43 = .ok (.return_, 1) := by decide +kernel
theorem dJ0_init_db425_0 : decode cJ0_init_db425 0 = .ok (.aload_n 0, 1) := by decide +kernel
theorem dJ0_init_db425_1 : decode cJ0_init_db425 1 = .ok (.invokespecial 1, 3) := by decide +kernel
theorem dJ0_init_db425_4 : decode cJ0_init_db425 4 = .ok (.aload_n 1, 1) := by decide +kernel
theorem dJ0_init_db425_5 : decode cJ0_init_db425 5 = .ok (.invokevirtual 552, 3) := by decide +kernel
theorem dJ0_init_db425_8 : decode cJ0_init_db425 8 = .ok (.astore_n 3, 1) := by decide +kernel
theorem dJ0_init_db425_9 : decode cJ0_init_db425 9 = .ok (.aload_n 1, 1) := by decide +kernel
theorem dJ0_init_db425_10 : decode cJ0_init_db425 10 = .ok (.invokevirtual 549, 3) := by decide +kernel
theorem dJ0_init_db425_13 : decode cJ0_init_db425 13 = .ok (.istore 4, 2) := by decide +kernel
theorem dJ0_init_db425_15 : decode cJ0_init_db425 15 = .ok (.aload_n 1, 1) := by decide +kernel
theorem dJ0_init_db425_16 : decode cJ0_init_db425 16 = .ok (.invokevirtual 1047, 3) := by decide +kernel
theorem dJ0_init_db425_19 : decode cJ0_init_db425 19 = .ok (.ifCond .eq 22, 3) := by decide +kernel
theorem dJ0_init_db425_22 : decode cJ0_init_db425 22 = .ok (.aload_n 0, 1) := by decide +kernel
theorem dJ0_init_db425_23 : decode cJ0_init_db425 23 = .ok (.iconst 0, 1) := by decide +kernel
theorem dJ0_init_db425_24 : decode cJ0_init_db425 24 = .ok (.putfield 15, 3) := by decide +kernel
theorem dJ0_init_db425_27 : decode cJ0_init_db425 27 = .ok (.aload_n 0, 1) := by decide +kernel
theorem dJ0_init_db425_28 : decode cJ0_init_db425 28 = .ok (.aload_n 3, 1) := by decide +kernel
theorem dJ0_init_db425_29 : decode cJ0_init_db425 29 = .ok (.iconst 0, 1) := by decide +kernel
theorem dJ0_init_db425_30 : decode cJ0_init_db425 30 = .ok (.iload 4, 2) := by decide +kernel
theorem dJ0_init_db425_32 : decode cJ0_init_db425 32 = .ok (.invokestatic 54, 3) := by decide +kernel
theorem dJ0_init_db425_35 : decode cJ0_init_db425 35 = .ok (.putfield 9, 3) := by decide +kernel
theorem dJ0_init_db425_38 : decode cJ0_init_db425 38 = .ok (.goto 59, 3) := by decide +kernel
theorem dJ0_init_db425_41 : decode cJ0_init_db425 41 = .ok (.getstatic 38, 3) := by decide +kernel
theorem dJ0_init_db425_44 : decode cJ0_init_db425 44 = .ok (.ifCond .eq 35, 3) := by decide +kernel
theorem dJ0_init_db425_47 : decode cJ0_init_db425 47 = .ok (.aload_n 1, 1) := by decide +kernel
theorem dJ0_init_db425_48 : decode cJ0_init_db425 48 = .ok (.getfield 1048, 3) := by decide +kernel
theorem dJ0_init_db425_51 : decode cJ0_init_db425 51 = .ok (.ifCond .eq 28, 3) := by decide +kernel
theorem dJ0_init_db425_54 : decode cJ0_init_db425 54 = .ok (.aload_n 0, 1) := by decide +kernel
theorem dJ0_init_db425_55 : decode cJ0_init_db425 55 = .ok (.aload_n 3, 1) := by decide +kernel
theorem dJ0_init_db425_56 : decode cJ0_init_db425 56 = .ok (.iconst 0, 1) := by decide +kernel
theorem dJ0_init_db425_57 : decode cJ0_init_db425 57 = .ok (.iload 4, 2) := by decide +kernel
theorem dJ0_init_db425_59 : decode cJ0_init_db425 59 = .ok (.invokestatic 1051, 3) := by decide +kernel
theorem dJ0_init_db425_62 : decode cJ0_init_db425 62 = .ok (.putfield 9, 3) := by decide +kernel
theorem dJ0_init_db425_65 : decode cJ0_init_db425 65 = .ok (.aload_n 0, 1) := by decide +kernel
theorem dJ0_init_db425_66 : decode cJ0_init_db425 66 = .ok (.aload_n 0, 1) := by decide +kernel
theorem dJ0_init_db425_67 : decode cJ0_init_db425 67 = .ok (.getfield 9, 3) := by decide +kernel
theorem dJ0_init_db425_70 : decode cJ0_init_db425 70 = .ok (.iload 4, 2) := by decide +kernel
theorem dJ0_init_db425_72 : decode cJ0_init_db425 72 = .ok (.invokestatic 47, 3) := by decide +kernel
theorem dJ0_init_db425_75 : decode cJ0_init_db425 75 = .ok (.putfield 15, 3) := by decide +kernel
theorem dJ0_init_db425_78 : decode cJ0_init_db425 78 = .ok (.return_, 1) := by decide +kernel
theorem dJ0_init_db425_79 : decode cJ0_init_db425 79 = .ok (.aload_n 0, 1) := by decide +kernel
theorem dJ0_init_db425_80 : decode cJ0_init_db425 80 = .ok (.iconst 1, 1) := by decide +kernel
theorem dJ0_init_db425_81 : decode cJ0_init_db425 81 = .ok (.putfield 15, 3) := by decide +kernel
theorem dJ0_init_db425_84 : decode cJ0_init_db425 84 = .ok (.aload_n 0, 1) := by decide +kernel
theorem dJ0_init_db425_85 : decode cJ0_init_db425 85 = .ok (.aload_n 3, 1) := by decide +kernel
theorem dJ0_init_db425_86 : decode cJ0_init_db425 86 = .ok (.iconst 0, 1) := by decide +kernel
theorem dJ0_init_db425_87 : decode cJ0_init_db425 87 = .ok (.iload 4, 2) := by decide +kernel
theorem dJ0_init_db425_89 : decode cJ0_init_db425 89 = .ok (.iconst 1, 1) := by decide +kernel
theorem dJ0_init_db425_90 : decode cJ0_init_db425 90 = .ok (.ishl, 1) := by decide +kernel
theorem dJ0_init_db425_91 : decode cJ0_init_db425 91 = .ok (.invokestatic 54, 3) := by decide +kernel
theorem dJ0_init_db425_94 : decode cJ0_init_db425 94 = .ok (.putfield 9, 3) := by decide +kernel
theorem dJ0_init_db425_97 : decode cJ0_init_db425 97 = .ok (.return_, 1) := by decide +kernel
theorem dJ0_coder_7d493_0 : decode cJ0_coder_7d493 0 = .ok (.getstatic 38, 3) := by decide +kernel
theorem dJ0_coder_7d493_3 : decode cJ0_coder_7d493 3 = .ok (.ifCond .eq 10, 3) := by decide +kernel
theorem dJ0_coder_7d493_6 : decode cJ0_coder_7d493 6 = .ok (.aload_n 0, 1) := by decide +kernel
theorem dJ0_coder_7d493_7 : decode cJ0_coder_7d493 7 = .ok (.getfield 15, 3) := by decide +kernel
theorem dJ0_coder_7d493_10 : decode cJ0_coder_7d493 10 = .ok (.goto 4, 3) := by decide +kernel
theorem dJ0_coder_7d493_13 : decode cJ0_coder_7d493 13 = .ok (.iconst 1, 1) := by decide +kernel
theorem dJ0_coder_7d493_14 : decode cJ0_coder_7d493 14 = .ok (.ireturn, 1) := by decide +kernel
theorem dJ0_isLatin1_aae02_0 : decode cJ0_isLatin1_aae02 0 = .ok (.getstatic 38, 3) := by decide +kernel
theorem dJ0_isLatin1_aae02_3 : decode cJ0_isLatin1_aae02 3 = .ok (.ifCond .eq 14, 3) := by decide +kernel
theorem dJ0_isLatin1_aae02_6 : decode cJ0_isLatin1_aae02 6 = .ok (.aload_n 0, 1) := by decide +kernel
theorem dJ0_isLatin1_aae02_7 : decode cJ0_isLatin1_aae02 7 = .ok (.getfield 15, 3) := by decide +kernel
theorem dJ0_isLatin1_aae02_10 : decode cJ0_isLatin1_aae02 10 = .ok (.ifCond .ne 7, 3) := by decide +kernel
theorem dJ0_isLatin1_aae02_13 : decode cJ0_isLatin1_aae02 13 = .ok (.iconst 1, 1) := by decide +kernel
theorem dJ0_isLatin1_aae02_14 : decode cJ0_isLatin1_aae02 14 = .ok (.goto 4, 3) := by decide +kernel
theorem dJ0_isLatin1_aae02_17 : decode cJ0_isLatin1_aae02 17 = .ok (.iconst 0, 1) := by decide +kernel
theorem dJ0_isLatin1_aae02_18 : decode cJ0_isLatin1_aae02 18 = .ok (.ireturn, 1) := by decide +kernel
theorem dJ0_checkIndex_df160_0 : decode cJ0_checkIndex_df160 0 = .ok (.iload_n 0, 1) := by decide +kernel
theorem dJ0_checkIndex_df160_1 : decode cJ0_checkIndex_df160 1 = .ok (.iload_n 1, 1) := by decide +kernel
theorem dJ0_checkIndex_df160_2 : decode cJ0_checkIndex_df160 2 = .ok (.getstatic 1053, 3) := by decide +kernel
theorem dJ0_checkIndex_df160_5 : decode cJ0_checkIndex_df160 5 = .ok (.invokestatic 1059, 3) := by decide +kernel
theorem dJ0_checkIndex_df160_8 : decode cJ0_checkIndex_df160 8 = .ok (.pop, 1) := by decide +kernel
theorem dJ0_checkIndex_df160_9 : decode cJ0_checkIndex_df160 9 = .ok (.return_, 1) := by decide +kernel
theorem dJ4_init_a7421_0 : decode cJ4_init_a7421 0 = .ok (.aload_n 0, 1) := by decide +kernel
theorem dJ4_init_a7421_1 : decode cJ4_init_a7421 1 = .ok (.aload_n 1, 1) := by decide +kernel
theorem dJ4_init_a7421_2 : decode cJ4_init_a7421 2 = .ok (.invokespecial 7, 3) := by decide +kernel
theorem dJ4_init_a7421_5 : decode cJ4_init_a7421 5 = .ok (.return_, 1) := by decide +kernel
theorem dJ4_append_15ec4_0 : decode cJ4_append_15ec4 0 = .ok (.aload_n 0, 1) := by decide +kernel
theorem dJ4_append_15ec4_1 : decode cJ4_append_15ec4 1 = .ok (.aload_n 1, 1) := by decide +kernel
theorem dJ4_append_15ec4_2 : decode cJ4_append_15ec4 2 = .ok (.invokespecial 29, 3) := by decide +kernel
theorem dJ4_append_15ec4_5 : decode cJ4_append_15ec4 5 = .ok (.pop, 1) := by decide +kernel
theorem dJ4_append_15ec4_6 : decode cJ4_append_15ec4 6 = .ok (.aload_n 0, 1) := by decide +kernel
theorem dJ4_append_15ec4_7 : decode cJ4_append_15ec4 7 = .ok (.areturn, 1) := by decide +kernel
theorem dJ4_append_cf468_0 : decode cJ4_append_cf468 0 = .ok (.aload_n 0, 1) := by decide +kernel
theorem dJ4_append_cf468_1 : decode cJ4_append_cf468 1 = .ok (.iload_n 1, 1) := by decide +kernel
theorem dJ4_append_cf468_2 : decode cJ4_append_cf468 2 = .ok (.invokespecial 50, 3) := by decide +kernel
theorem dJ4_append_cf468_5 : decode cJ4_append_cf468 5 = .ok (.pop, 1) := by decide +kernel
theorem dJ4_append_cf468_6 : decode cJ4_append_cf468 6 = .ok (.aload_n 0, 1) := by decide +kernel
theorem dJ4_append_cf468_7 : decode cJ4_append_cf468 7 = .ok (.areturn, 1) := by decide +kernel
theorem dJ4_append_bf812_0 : decode cJ4_append_bf812 0 = .ok (.aload_n 0, 1) := by decide +kernel
theorem dJ4_append_bf812_1 : decode cJ4_append_bf812 1 = .ok (.iload_n 1, 1) := by decide +kernel
theorem dJ4_append_bf812_2 : decode cJ4_append_bf812 2 = .ok (.invokespecial 53, 3) := by decide +kernel
theorem dJ4_append_bf812_5 : decode cJ4_append_bf812 5 = .ok (.pop, 1) := by decide +kernel
theorem dJ4_append_bf812_6 : decode cJ4_append_bf812 6 = .ok (.aload_n 0, 1) := by decide +kernel
theorem dJ4_append_bf812_7 : decode cJ4_append_bf812 7 = .ok (.areturn, 1) := by decide +kernel
theorem dJ4_toString_0e30d_0 : decode cJ4_toString_0e30d 0 = .ok (.new 18, 3) := by decide +kernel
theorem dJ4_toString_0e30d_3 : decode cJ4_toString_0e30d 3 = .ok (.dup, 1) := by decide +kernel
theorem dJ4_toString_0e30d_4 : decode cJ4_toString_0e30d 4 = .ok (.aload_n 0, 1) := by decide +kernel
theorem dJ4_toString_0e30d_5 : decode cJ4_toString_0e30d 5 = .ok (.invokespecial 137, 3) := by decide +kernel
theorem dJ4_toString_0e30d_8 : decode cJ4_toString_0e30d 8 = .ok (.areturn, 1) := by decide +kernel
theorem dJ4_append_cf1ce_0 : decode cJ4_append_cf1ce 0 = .ok (.aload_n 0, 1) := by decide +kernel
theorem dJ4_append_cf1ce_1 : decode cJ4_append_cf1ce 1 = .ok (.aload_n 1, 1) := by decide +kernel
theorem dJ4_append_cf1ce_2 : decode cJ4_append_cf1ce 2 = .ok (.invokevirtual 23, 3) := by decide +kernel
theorem dJ4_append_cf1ce_5 : decode cJ4_append_cf1ce 5 = .ok (.areturn, 1) := by decide +kernel
theorem dJ4_length_8abf5_0 : decode cJ4_length_8abf5 0 = .ok (.aload_n 0, 1) := by decide +kernel
theorem dJ4_length_8abf5_1 : decode cJ4_length_8abf5 1 = .ok (.invokespecial 343, 3) := by decide +kernel
theorem dJ4_length_8abf5_4 : decode cJ4_length_8abf5 4 = .ok (.ireturn, 1) := by decide +kernel
theorem dJ1_charAt_3b067_0 : decode cJ1_charAt_3b067 0 = .ok (.iload_n 1, 1) := by decide +kernel
theorem dJ1_charAt_3b067_1 : decode cJ1_charAt_3b067 1 = .ok (.aload_n 0, 1) := by decide +kernel
theorem dJ1_charAt_3b067_2 : decode cJ1_charAt_3b067 2 = .ok (.arraylength, 1) := by decide +kernel
theorem dJ1_charAt_3b067_3 : decode cJ1_charAt_3b067 3 = .ok (.invokestatic 9, 3) := by decide +kernel
theorem dJ1_charAt_3b067_6 : decode cJ1_charAt_3b067 6 = .ok (.aload_n 0, 1) := by decide +kernel
theorem dJ1_charAt_3b067_7 : decode cJ1_charAt_3b067 7 = .ok (.iload_n 1, 1) := by decide +kernel
theorem dJ1_charAt_3b067_8 : decode cJ1_charAt_3b067 8 = .ok (.baload, 1) := by decide +kernel
theorem dJ1_charAt_3b067_9 : decode cJ1_charAt_3b067 9 = .ok (.sipush 255, 3) := by decide +kernel
theorem dJ1_charAt_3b067_12 : decode cJ1_charAt_3b067 12 = .ok (.iand, 1) := by decide +kernel
theorem dJ1_charAt_3b067_13 : decode cJ1_charAt_3b067 13 = .ok (.i2c, 1) := by decide +kernel
theorem dJ1_charAt_3b067_14 : decode cJ1_charAt_3b067 14 = .ok (.ireturn, 1) := by decide +kernel
theorem dJ1_canEncode_fc78d_0 : decode cJ1_canEncode_fc78d 0 = .ok (.iload_n 0, 1) := by decide +kernel
theorem dJ1_canEncode_fc78d_1 : decode cJ1_canEncode_fc78d 1 = .ok (.sipush 255, 3) := by decide +kernel
theorem dJ1_canEncode_fc78d_4 : decode cJ1_canEncode_fc78d 4 = .ok (.if_icmp .gt 7, 3) := by decide +kernel
theorem dJ1_canEncode_fc78d_7 : decode cJ1_canEncode_fc78d 7 = .ok (.iconst 1, 1) := by decide +kernel
theorem dJ1_canEncode_fc78d_8 : decode cJ1_canEncode_fc78d 8 = .ok (.goto 4, 3) := by decide +kernel
theorem dJ1_canEncode_fc78d_11 : decode cJ1_canEncode_fc78d 11 = .ok (.iconst 0, 1) := by decide +kernel
theorem dJ1_canEncode_fc78d_12 : decode cJ1_canEncode_fc78d 12 = .ok (.ireturn, 1) := by decide +kernel
theorem dJ7_fill_53178_0 : decode cJ7_fill_53178 0 = .ok (.iconst 0, 1) := by decide +kernel
theorem dJ7_fill_53178_1 : decode cJ7_fill_53178 1 = .ok (.istore_n 2, 1) := by decide +kernel
theorem dJ7_fill_53178_2 : decode cJ7_fill_53178 2 = .ok (.aload_n 0, 1) := by decide +kernel
theorem dJ7_fill_53178_3 : decode cJ7_fill_53178 3 = .ok (.arraylength, 1) := by decide +kernel
theorem dJ7_fill_53178_4 : decode cJ7_fill_53178 4 = .ok (.istore_n 3, 1) := by decide +kernel
theorem dJ7_fill_53178_5 : decode cJ7_fill_53178 5 = .ok (.iload_n 2, 1) := by decide +kernel
theorem dJ7_fill_53178_6 : decode cJ7_fill_53178 6 = .ok (.iload_n 3, 1) := by decide +kernel
theorem dJ7_fill_53178_7 : decode cJ7_fill_53178 7 = .ok (.if_icmp .ge 13, 3) := by decide +kernel
theorem dJ7_fill_53178_10 : decode cJ7_fill_53178 10 = .ok (.aload_n 0, 1) := by decide +kernel
theorem dJ7_fill_53178_11 : decode cJ7_fill_53178 11 = .ok (.iload_n 2, 1) := by decide +kernel
theorem dJ7_fill_53178_12 : decode cJ7_fill_53178 12 = .ok (.iload_n 1, 1) := by decide +kernel
theorem dJ7_fill_53178_13 : decode cJ7_fill_53178 13 = .ok (.iastore, 1) := by decide +kernel
theorem dJ7_fill_53178_14 : decode cJ7_fill_53178 14 = .ok (.iinc 2 1, 3) := by decide +kernel
theorem dJ7_fill_53178_17 : decode cJ7_fill_53178 17 = .ok (.goto (-12), 3) := by decide +kernel
theorem dJ7_fill_53178_20 : decode cJ7_fill_53178 20 = .ok (.return_, 1) := by decide +kernel
theorem dJ7_copyOf_9075b_0 : decode cJ7_copyOf_9075b 0 = .ok (.iload_n 1, 1) := by decide +kernel
theorem dJ7_copyOf_9075b_1 : decode cJ7_copyOf_9075b 1 = .ok (.aload_n 0, 1) := by decide +kernel
theorem dJ7_copyOf_9075b_2 : decode cJ7_copyOf_9075b 2 = .ok (.arraylength, 1) := by decide +kernel
theorem dJ7_copyOf_9075b_3 : decode cJ7_copyOf_9075b 3 = .ok (.if_icmp .ne 11, 3) := by decide +kernel
theorem dJ7_copyOf_9075b_6 : decode cJ7_copyOf_9075b 6 = .ok (.aload_n 0, 1) := by decide +kernel
theorem dJ7_copyOf_9075b_7 : decode cJ7_copyOf_9075b 7 = .ok (.invokevirtual 310, 3) := by decide +kernel
theorem dJ7_copyOf_9075b_10 : decode cJ7_copyOf_9075b 10 = .ok (.checkcast 311, 3) := by decide +kernel
theorem dJ7_copyOf_9075b_13 : decode cJ7_copyOf_9075b 13 = .ok (.areturn, 1) := by decide +kernel
theorem dJ7_copyOf_9075b_14 : decode cJ7_copyOf_9075b 14 = .ok (.iload_n 1, 1) := by decide +kernel
theorem dJ7_copyOf_9075b_15 : decode cJ7_copyOf_9075b 15 = .ok (.newarray .byte, 2) := by decide +kernel
theorem dJ7_copyOf_9075b_17 : decode cJ7_copyOf_9075b 17 = .ok (.astore_n 2, 1) := by decide +kernel
theorem dJ7_copyOf_9075b_18 : decode cJ7_copyOf_9075b 18 = .ok (.aload_n 0, 1) := by decide +kernel
theorem dJ7_copyOf_9075b_19 : decode cJ7_copyOf_9075b 19 = .ok (.iconst 0, 1) := by decide +kernel
theorem dJ7_copyOf_9075b_20 : decode cJ7_copyOf_9075b 20 = .ok (.aload_n 2, 1) := by decide +kernel
theorem dJ7_copyOf_9075b_21 : decode cJ7_copyOf_9075b 21 = .ok (.iconst 0, 1) := by decide +kernel
theorem dJ7_copyOf_9075b_22 : decode cJ7_copyOf_9075b 22 = .ok (.aload_n 0, 1) := by decide +kernel
theorem dJ7_copyOf_9075b_23 : decode cJ7_copyOf_9075b 23 = .ok (.arraylength, 1) := by decide +kernel
theorem dJ7_copyOf_9075b_24 : decode cJ7_copyOf_9075b 24 = .ok (.iload_n 1, 1) := by decide +kernel
theorem dJ7_copyOf_9075b_25 : decode cJ7_copyOf_9075b 25 = .ok (.invokestatic 304, 3) := by decide +kernel
theorem dJ7_copyOf_9075b_28 : decode cJ7_copyOf_9075b 28 = .ok (.invokestatic 150, 3) := by decide +kernel
theorem dJ7_copyOf_9075b_31 : decode cJ7_copyOf_9075b 31 = .ok (.aload_n 2, 1) := by decide +kernel
theorem dJ7_copyOf_9075b_32 : decode cJ7_copyOf_9075b 32 = .ok (.areturn, 1) := by decide +kernel
theorem dJ7_checkLength_df160_0 : decode cJ7_checkLength_df160 0 = .ok (.iload_n 1, 1) := by decide +kernel
theorem dJ7_checkLength_df160_1 : decode cJ7_checkLength_df160 1 = .ok (.iload_n 0, 1) := by decide +kernel
theorem dJ7_checkLength_df160_2 : decode cJ7_checkLength_df160 2 = .ok (.if_icmp .ge 35, 3) := by decide +kernel
theorem dJ7_checkLength_df160_5 : decode cJ7_checkLength_df160 5 = .ok (.new 43, 3) := by decide +kernel
theorem dJ7_checkLength_df160_8 : decode cJ7_checkLength_df160 8 = .ok (.dup, 1) := by decide +kernel
theorem dJ7_checkLength_df160_9 : decode cJ7_checkLength_df160 9 = .ok (.new 45, 3) := by decide +kernel
theorem dJ7_checkLength_df160_12 : decode cJ7_checkLength_df160 12 = .ok (.dup, 1) := by decide +kernel
theorem dJ7_checkLength_df160_13 : decode cJ7_checkLength_df160 13 = .ok (.invokespecial 47, 3) := by decide +kernel
theorem dJ7_checkLength_df160_16 : decode cJ7_checkLength_df160 16 = .ok (.iload_n 0, 1) := by decide +kernel
theorem dJ7_checkLength_df160_17 : decode cJ7_checkLength_df160 17 = .ok (.invokevirtual 54, 3) := by decide +kernel
theorem dJ7_checkLength_df160_20 : decode cJ7_checkLength_df160 20 = .ok (.ldc_w 337, 3) := by decide +kernel
theorem dJ7_checkLength_df160_23 : decode cJ7_checkLength_df160 23 = .ok (.invokevirtual 50, 3) := by decide +kernel
theorem dJ7_checkLength_df160_26 : decode cJ7_checkLength_df160 26 = .ok (.iload_n 1, 1) := by decide +kernel
theorem dJ7_checkLength_df160_27 : decode cJ7_checkLength_df160 27 = .ok (.invokevirtual 54, 3) := by decide +kernel
theorem dJ7_checkLength_df160_30 : decode cJ7_checkLength_df160 30 = .ok (.invokevirtual 61, 3) := by decide +kernel
theorem dJ7_checkLength_df160_33 : decode cJ7_checkLength_df160 33 = .ok (.invokespecial 65, 3) := by decide +kernel
theorem dJ7_checkLength_df160_36 : decode cJ7_checkLength_df160 36 = .ok (.athrow, 1) := by decide +kernel
theorem dJ7_checkLength_df160_37 : decode cJ7_checkLength_df160 37 = .ok (.return_, 1) := by decide +kernel
theorem dJ7_copyOfRange_39247_0 : decode cJ7_copyOfRange_39247 0 = .ok (.iload_n 1, 1) := by decide +kernel
theorem dJ7_copyOfRange_39247_1 : decode cJ7_copyOfRange_39247 1 = .ok (.ifCond .ne 9, 3) := by decide +kernel
theorem dJ7_copyOfRange_39247_4 : decode cJ7_copyOfRange_39247 4 = .ok (.iload_n 2, 1) := by decide +kernel
theorem dJ7_copyOfRange_39247_5 : decode cJ7_copyOfRange_39247 5 = .ok (.aload_n 0, 1) := by decide +kernel
theorem dJ7_copyOfRange_39247_6 : decode cJ7_copyOfRange_39247 6 = .ok (.arraylength, 1) := by decide +kernel
theorem dJ7_copyOfRange_39247_7 : decode cJ7_copyOfRange_39247 7 = .ok (.if_icmp .eq 10, 3) := by decide +kernel
theorem dJ7_copyOfRange_39247_10 : decode cJ7_copyOfRange_39247 10 = .ok (.aload_n 0, 1) := by decide +kernel
theorem dJ7_copyOfRange_39247_11 : decode cJ7_copyOfRange_39247 11 = .ok (.iload_n 1, 1) := by decide +kernel
theorem dJ7_copyOfRange_39247_12 : decode cJ7_copyOfRange_39247 12 = .ok (.iload_n 2, 1) := by decide +kernel
theorem dJ7_copyOfRange_39247_13 : decode cJ7_copyOfRange_39247 13 = .ok (.invokestatic 339, 3) := by decide +kernel
theorem dJ7_copyOfRange_39247_16 : decode cJ7_copyOfRange_39247 16 = .ok (.areturn, 1) := by decide +kernel
theorem dJ7_copyOfRange_39247_17 : decode cJ7_copyOfRange_39247 17 = .ok (.aload_n 0, 1) := by decide +kernel
theorem dJ7_copyOfRange_39247_18 : decode cJ7_copyOfRange_39247 18 = .ok (.invokevirtual 310, 3) := by decide +kernel
theorem dJ7_copyOfRange_39247_21 : decode cJ7_copyOfRange_39247 21 = .ok (.checkcast 311, 3) := by decide +kernel
theorem dJ7_copyOfRange_39247_24 : decode cJ7_copyOfRange_39247 24 = .ok (.areturn, 1) := by decide +kernel
theorem dJ7_copyOfRangeByte_39247_0 : decode cJ7_copyOfRangeByte_39247 0 = .ok (.iload_n 1, 1) := by decide +kernel
theorem dJ7_copyOfRangeByte_39247_1 : decode cJ7_copyOfRangeByte_39247 1 = .ok (.iload_n 2, 1) := by decide +kernel
theorem dJ7_copyOfRangeByte_39247_2 : decode cJ7_copyOfRangeByte_39247 2 = .ok (.invokestatic 343, 3) := by decide +kernel
theorem dJ7_copyOfRangeByte_39247_5 : decode cJ7_copyOfRangeByte_39247 5 = .ok (.iload_n 2, 1) := by decide +kernel
theorem dJ7_copyOfRangeByte_39247_6 : decode cJ7_copyOfRangeByte_39247 6 = .ok (.iload_n 1, 1) := by decide +kernel
theorem dJ7_copyOfRangeByte_39247_7 : decode cJ7_copyOfRangeByte_39247 7 = .ok (.isub, 1) := by decide +kernel
theorem dJ7_copyOfRangeByte_39247_8 : decode cJ7_copyOfRangeByte_39247 8 = .ok (.istore_n 3, 1) := by decide +kernel
theorem dJ7_copyOfRangeByte_39247_9 : decode cJ7_copyOfRangeByte_39247 9 = .ok (.iload_n 3, 1) := by decide +kernel
theorem dJ7_copyOfRangeByte_39247_10 : decode cJ7_copyOfRangeByte_39247 10 = .ok (.newarray .byte, 2) := by decide +kernel
theorem dJ7_copyOfRangeByte_39247_12 : decode cJ7_copyOfRangeByte_39247 12 = .ok (.astore 4, 2) := by decide +kernel
theorem dJ7_copyOfRangeByte_39247_14 : decode cJ7_copyOfRangeByte_39247 14 = .ok (.aload_n 0, 1) := by decide +kernel
theorem dJ7_copyOfRangeByte_39247_15 : decode cJ7_copyOfRangeByte_39247 15 = .ok (.iload_n 1, 1) := by decide +kernel
theorem dJ7_copyOfRangeByte_39247_16 : decode cJ7_copyOfRangeByte_39247 16 = .ok (.aload 4, 2) := by decide +kernel
theorem dJ7_copyOfRangeByte_39247_18 : decode cJ7_copyOfRangeByte_39247 18 = .ok (.iconst 0, 1) := by decide +kernel
theorem dJ7_copyOfRangeByte_39247_19 : decode cJ7_copyOfRangeByte_39247 19 = .ok (.aload_n 0, 1) := by decide +kernel
theorem dJ7_copyOfRangeByte_39247_20 : decode cJ7_copyOfRangeByte_39247 20 = .ok (.arraylength, 1) := by decide +kernel
theorem dJ7_copyOfRangeByte_39247_21 : decode cJ7_copyOfRangeByte_39247 21 = .ok (.iload_n 1, 1) := by decide +kernel
theorem dJ7_copyOfRangeByte_39247_22 : decode cJ7_copyOfRangeByte_39247 22 = .ok (.isub, 1) := by decide +kernel
theorem dJ7_copyOfRangeByte_39247_23 : decode cJ7_copyOfRangeByte_39247 23 = .ok (.iload_n 3, 1) := by decide +kernel
theorem dJ7_copyOfRangeByte_39247_24 : decode cJ7_copyOfRangeByte_39247 24 = .ok (.invokestatic 304, 3) := by decide +kernel
theorem dJ7_copyOfRangeByte_39247_27 : decode cJ7_copyOfRangeByte_39247 27 = .ok (.invokestatic 150, 3) := by decide +kernel
theorem dJ7_copyOfRangeByte_39247_30 : decode cJ7_copyOfRangeByte_39247 30 = .ok (.aload 4, 2) := by decide +kernel
theorem dJ7_copyOfRangeByte_39247_32 : decode cJ7_copyOfRangeByte_39247 32 = .ok (.areturn, 1) := by decide +kernel
theorem dJ8_newLength_cabcc_0 : decode cJ8_newLength_cabcc 0 = .ok (.iload_n 0, 1) := by decide +kernel
theorem dJ8_newLength_cabcc_1 : decode cJ8_newLength_cabcc 1 = .ok (.iload_n 1, 1) := by decide +kernel
theorem dJ8_newLength_cabcc_2 : decode cJ8_newLength_cabcc 2 = .ok (.iload_n 2, 1) := by decide +kernel
theorem dJ8_newLength_cabcc_3 : decode cJ8_newLength_cabcc 3 = .ok (.invokestatic 194, 3) := by decide +kernel
theorem dJ8_newLength_cabcc_6 : decode cJ8_newLength_cabcc 6 = .ok (.iadd, 1) := by decide +kernel
theorem dJ8_newLength_cabcc_7 : decode cJ8_newLength_cabcc 7 = .ok (.istore_n 3, 1) := by decide +kernel
theorem dJ8_newLength_cabcc_8 : decode cJ8_newLength_cabcc 8 = .ok (.iconst 0, 1) := by decide +kernel
theorem dJ8_newLength_cabcc_9 : decode cJ8_newLength_cabcc 9 = .ok (.iload_n 3, 1) := by decide +kernel
theorem dJ8_newLength_cabcc_10 : decode cJ8_newLength_cabcc 10 = .ok (.if_icmp .ge 11, 3) := by decide +kernel
theorem dJ8_newLength_cabcc_13 : decode cJ8_newLength_cabcc 13 = .ok (.iload_n 3, 1) := by decide +kernel
theorem dJ8_newLength_cabcc_14 : decode cJ8_newLength_cabcc 14 = .ok (.ldc 200, 2) := by decide +kernel
theorem dJ8_newLength_cabcc_16 : decode cJ8_newLength_cabcc 16 = .ok (.if_icmp .gt 5, 3) := by decide +kernel
theorem dJ8_newLength_cabcc_19 : decode cJ8_newLength_cabcc 19 = .ok (.iload_n 3, 1) := by decide +kernel
theorem dJ8_newLength_cabcc_20 : decode cJ8_newLength_cabcc 20 = .ok (.ireturn, 1) := by decide +kernel
theorem dJ8_newLength_cabcc_21 : decode cJ8_newLength_cabcc 21 = .ok (.iload_n 0, 1) := by decide +kernel
theorem dJ8_newLength_cabcc_22 : decode cJ8_newLength_cabcc 22 = .ok (.iload_n 1, 1) := by decide +kernel
theorem dJ8_newLength_cabcc_23 : decode cJ8_newLength_cabcc 23 = .ok (.invokestatic 201, 3) := by decide +kernel
theorem dJ8_newLength_cabcc_26 : decode cJ8_newLength_cabcc 26 = .ok (.ireturn, 1) := by decide +kernel
theorem dJ3_checkIndex_8e157_0 : decode cJ3_checkIndex_8e157 0 = .ok (.iload_n 0, 1) := by decide +kernel
theorem dJ3_checkIndex_8e157_1 : decode cJ3_checkIndex_8e157 1 = .ok (.ifCond .lt 8, 3) := by decide +kernel
theorem dJ3_checkIndex_8e157_4 : decode cJ3_checkIndex_8e157 4 = .ok (.iload_n 0, 1) := by decide +kernel
theorem dJ3_checkIndex_8e157_5 : decode cJ3_checkIndex_8e157 5 = .ok (.iload_n 1, 1) := by decide +kernel
theorem dJ3_checkIndex_8e157_6 : decode cJ3_checkIndex_8e157 6 = .ok (.if_icmp .lt 10, 3) := by decide +kernel
theorem dJ3_checkIndex_8e157_9 : decode cJ3_checkIndex_8e157 9 = .ok (.aload_n 2, 1) := by decide +kernel
theorem dJ3_checkIndex_8e157_10 : decode cJ3_checkIndex_8e157 10 = .ok (.iload_n 0, 1) := by decide +kernel
theorem dJ3_checkIndex_8e157_11 : decode cJ3_checkIndex_8e157 11 = .ok (.iload_n 1, 1) := by decide +kernel
theorem dJ3_checkIndex_8e157_12 : decode cJ3_checkIndex_8e157 12 = .ok (.invokestatic 95, 3) := by decide +kernel
theorem dJ3_checkIndex_8e157_15 : decode cJ3_checkIndex_8e157 15 = .ok (.athrow, 1) := by decide +kernel
theorem dJ3_checkIndex_8e157_16 : decode cJ3_checkIndex_8e157 16 = .ok (.iload_n 0, 1) := by decide +kernel
theorem dJ3_checkIndex_8e157_17 : decode cJ3_checkIndex_8e157 17 = .ok (.ireturn, 1) := by decide +kernel
theorem dL_cell_0 : decode cL_cell 0 = .ok (.iload_n 1, 1) := by decide +kernel
theorem dL_cell_1 : decode cL_cell 1 = .ok (.aload_n 0, 1) := by decide +kernel
theorem dL_cell_2 : decode cL_cell 2 = .ok (.arraylength, 1) := by decide +kernel
theorem dL_cell_3 : decode cL_cell 3 = .ok (.if_icmp .ge 12, 3) := by decide +kernel
theorem dL_cell_6 : decode cL_cell 6 = .ok (.aload_n 0, 1) := by decide +kernel
theorem dL_cell_7 : decode cL_cell 7 = .ok (.iload_n 1, 1) := by decide +kernel
theorem dL_cell_8 : decode cL_cell 8 = .ok (.iaload, 1) := by decide +kernel
theorem dL_cell_9 : decode cL_cell 9 = .ok (.ldc 7, 2) := by decide +kernel
theorem dL_cell_11 : decode cL_cell 11 = .ok (.iand, 1) := by decide +kernel
theorem dL_cell_12 : decode cL_cell 12 = .ok (.goto 4, 3) := by decide +kernel
theorem dL_cell_15 : decode cL_cell 15 = .ok (.iconst 0, 1) := by decide +kernel
theorem dL_cell_16 : decode cL_cell 16 = .ok (.ireturn, 1) := by decide +kernel
theorem dL_says_0 : decode cL_says 0 = .ok (.iconst 0, 1) := by decide +kernel
theorem dL_says_1 : decode cL_says 1 = .ok (.istore_n 2, 1) := by decide +kernel
theorem dL_says_2 : decode cL_says 2 = .ok (.iload_n 2, 1) := by decide +kernel
theorem dL_says_3 : decode cL_says 3 = .ok (.aload_n 1, 1) := by decide +kernel
theorem dL_says_4 : decode cL_says 4 = .ok (.invokevirtual 8, 3) := by decide +kernel
theorem dL_says_7 : decode cL_says 7 = .ok (.if_icmp .ge 89, 3) := by decide +kernel
theorem dL_says_10 : decode cL_says 10 = .ok (.iconst 5, 1) := by decide +kernel
theorem dL_says_11 : decode cL_says 11 = .ok (.newarray .int, 2) := by decide +kernel
theorem dL_says_13 : decode cL_says 13 = .ok (.astore_n 3, 1) := by decide +kernel
theorem dL_says_14 : decode cL_says 14 = .ok (.iconst 0, 1) := by decide +kernel
theorem dL_says_15 : decode cL_says 15 = .ok (.istore 4, 2) := by decide +kernel
theorem dL_says_17 : decode cL_says 17 = .ok (.iload 4, 2) := by decide +kernel
theorem dL_says_19 : decode cL_says 19 = .ok (.bipush 20, 2) := by decide +kernel
theorem dL_says_21 : decode cL_says 21 = .ok (.if_icmp .ge 49, 3) := by decide +kernel
theorem dL_says_24 : decode cL_says 24 = .ok (.aload_n 3, 1) := by decide +kernel
theorem dL_says_25 : decode cL_says 25 = .ok (.iload 4, 2) := by decide +kernel
theorem dL_says_27 : decode cL_says 27 = .ok (.iconst 4, 1) := by decide +kernel
theorem dL_says_28 : decode cL_says 28 = .ok (.idiv, 1) := by decide +kernel
theorem dL_says_29 : decode cL_says 29 = .ok (.aload_n 3, 1) := by decide +kernel
theorem dL_says_30 : decode cL_says 30 = .ok (.iload 4, 2) := by decide +kernel
theorem dL_says_32 : decode cL_says 32 = .ok (.iconst 4, 1) := by decide +kernel
theorem dL_says_33 : decode cL_says 33 = .ok (.idiv, 1) := by decide +kernel
theorem dL_says_34 : decode cL_says 34 = .ok (.iaload, 1) := by decide +kernel
theorem dL_says_35 : decode cL_says 35 = .ok (.bipush 8, 2) := by decide +kernel
theorem dL_says_37 : decode cL_says 37 = .ok (.ishl, 1) := by decide +kernel
theorem dL_says_38 : decode cL_says 38 = .ok (.iload_n 2, 1) := by decide +kernel
theorem dL_says_39 : decode cL_says 39 = .ok (.iload 4, 2) := by decide +kernel
theorem dL_says_41 : decode cL_says 41 = .ok (.iadd, 1) := by decide +kernel
theorem dL_says_42 : decode cL_says 42 = .ok (.aload_n 1, 1) := by decide +kernel
theorem dL_says_43 : decode cL_says 43 = .ok (.invokevirtual 8, 3) := by decide +kernel
theorem dL_says_46 : decode cL_says 46 = .ok (.if_icmp .ge 14, 3) := by decide +kernel
theorem dL_says_49 : decode cL_says 49 = .ok (.aload_n 1, 1) := by decide +kernel
theorem dL_says_50 : decode cL_says 50 = .ok (.iload_n 2, 1) := by decide +kernel
theorem dL_says_51 : decode cL_says 51 = .ok (.iload 4, 2) := by decide +kernel
theorem dL_says_53 : decode cL_says 53 = .ok (.iadd, 1) := by decide +kernel
theorem dL_says_54 : decode cL_says 54 = .ok (.invokevirtual 14, 3) := by decide +kernel
theorem dL_says_57 : decode cL_says 57 = .ok (.goto 5, 3) := by decide +kernel
theorem dL_says_60 : decode cL_says 60 = .ok (.bipush 32, 2) := by decide +kernel
theorem dL_says_62 : decode cL_says 62 = .ok (.ior, 1) := by decide +kernel
theorem dL_says_63 : decode cL_says 63 = .ok (.iastore, 1) := by decide +kernel
theorem dL_says_64 : decode cL_says 64 = .ok (.iinc 4 1, 3) := by decide +kernel
theorem dL_says_67 : decode cL_says 67 = .ok (.goto (-50), 3) := by decide +kernel
theorem dL_says_70 : decode cL_says 70 = .ok (.aload_n 0, 1) := by decide +kernel
theorem dL_says_71 : decode cL_says 71 = .ok (.aload_n 3, 1) := by decide +kernel
theorem dL_says_72 : decode cL_says 72 = .ok (.iconst 0, 1) := by decide +kernel
theorem dL_says_73 : decode cL_says 73 = .ok (.iaload, 1) := by decide +kernel
theorem dL_says_74 : decode cL_says 74 = .ok (.aload_n 3, 1) := by decide +kernel
theorem dL_says_75 : decode cL_says 75 = .ok (.iconst 1, 1) := by decide +kernel
theorem dL_says_76 : decode cL_says 76 = .ok (.iaload, 1) := by decide +kernel
theorem dL_says_77 : decode cL_says 77 = .ok (.aload_n 3, 1) := by decide +kernel
theorem dL_says_78 : decode cL_says 78 = .ok (.iconst 2, 1) := by decide +kernel
theorem dL_says_79 : decode cL_says 79 = .ok (.iaload, 1) := by decide +kernel
theorem dL_says_80 : decode cL_says 80 = .ok (.aload_n 3, 1) := by decide +kernel
theorem dL_says_81 : decode cL_says 81 = .ok (.iconst 3, 1) := by decide +kernel
theorem dL_says_82 : decode cL_says 82 = .ok (.iaload, 1) := by decide +kernel
theorem dL_says_83 : decode cL_says 83 = .ok (.aload_n 3, 1) := by decide +kernel
theorem dL_says_84 : decode cL_says 84 = .ok (.iconst 4, 1) := by decide +kernel
theorem dL_says_85 : decode cL_says 85 = .ok (.iaload, 1) := by decide +kernel
theorem dL_says_86 : decode cL_says 86 = .ok (.invokevirtual 18, 3) := by decide +kernel
theorem dL_says_89 : decode cL_says 89 = .ok (.pop, 1) := by decide +kernel
theorem dL_says_90 : decode cL_says 90 = .ok (.iinc 2 20, 3) := by decide +kernel
theorem dL_says_93 : decode cL_says 93 = .ok (.goto (-91), 3) := by decide +kernel
theorem dL_says_96 : decode cL_says 96 = .ok (.aload_n 0, 1) := by decide +kernel
theorem dL_says_97 : decode cL_says 97 = .ok (.aload_n 1, 1) := by decide +kernel
theorem dL_says_98 : decode cL_says 98 = .ok (.invokevirtual 8, 3) := by decide +kernel
theorem dL_says_101 : decode cL_says 101 = .ok (.invokevirtual 24, 3) := by decide +kernel
theorem dL_says_104 : decode cL_says 104 = .ok (.pop, 1) := by decide +kernel
theorem dL_says_105 : decode cL_says 105 = .ok (.return_, 1) := by decide +kernel
theorem dL_loaded_0 : decode cL_loaded 0 = .ok (.aload_n 0, 1) := by decide +kernel
theorem dL_loaded_1 : decode cL_loaded 1 = .ok (.invokevirtual 28, 3) := by decide +kernel
theorem dL_loaded_4 : decode cL_loaded 4 = .ok (.ireturn, 1) := by decide +kernel
theorem dL_loaded_5 : decode cL_loaded 5 = .ok (.astore_n 1, 1) := by decide +kernel
theorem dL_loaded_6 : decode cL_loaded 6 = .ok (.bipush (-9), 2) := by decide +kernel
theorem dL_loaded_8 : decode cL_loaded 8 = .ok (.ireturn, 1) := by decide +kernel
theorem dL_text_0 : decode cL_text 0 = .ok (.aload_n 0, 1) := by decide +kernel
theorem dL_text_1 : decode cL_text 1 = .ok (.iconst 0, 1) := by decide +kernel
theorem dL_text_2 : decode cL_text 2 = .ok (.invokestatic 33, 3) := by decide +kernel
theorem dL_text_5 : decode cL_text 5 = .ok (.istore_n 1, 1) := by decide +kernel
theorem dL_text_6 : decode cL_text 6 = .ok (.new 39, 3) := by decide +kernel
theorem dL_text_9 : decode cL_text 9 = .ok (.dup, 1) := by decide +kernel
theorem dL_text_10 : decode cL_text 10 = .ok (.ldc 41, 2) := by decide +kernel
theorem dL_text_12 : decode cL_text 12 = .ok (.invokespecial 43, 3) := by decide +kernel
theorem dL_text_15 : decode cL_text 15 = .ok (.iload_n 1, 1) := by decide +kernel
theorem dL_text_16 : decode cL_text 16 = .ok (.ldc 46, 2) := by decide +kernel
theorem dL_text_18 : decode cL_text 18 = .ok (.irem, 1) := by decide +kernel
theorem dL_text_19 : decode cL_text 19 = .ok (.invokevirtual 47, 3) := by decide +kernel
theorem dL_text_22 : decode cL_text 22 = .ok (.bipush 32, 2) := by decide +kernel
theorem dL_text_24 : decode cL_text 24 = .ok (.invokevirtual 51, 3) := by decide +kernel
theorem dL_text_27 : decode cL_text 27 = .ok (.iconst 1, 1) := by decide +kernel
theorem dL_text_28 : decode cL_text 28 = .ok (.iload_n 1, 1) := by decide +kernel
theorem dL_text_29 : decode cL_text 29 = .ok (.ldc 54, 2) := by decide +kernel
theorem dL_text_31 : decode cL_text 31 = .ok (.idiv, 1) := by decide +kernel
theorem dL_text_32 : decode cL_text 32 = .ok (.bipush 8, 2) := by decide +kernel
theorem dL_text_34 : decode cL_text 34 = .ok (.irem, 1) := by decide +kernel
theorem dL_text_35 : decode cL_text 35 = .ok (.iadd, 1) := by decide +kernel
theorem dL_text_36 : decode cL_text 36 = .ok (.invokevirtual 47, 3) := by decide +kernel
theorem dL_text_39 : decode cL_text 39 = .ok (.bipush 32, 2) := by decide +kernel
theorem dL_text_41 : decode cL_text 41 = .ok (.invokevirtual 51, 3) := by decide +kernel
theorem dL_text_44 : decode cL_text 44 = .ok (.iload_n 1, 1) := by decide +kernel
theorem dL_text_45 : decode cL_text 45 = .ok (.ldc 55, 2) := by decide +kernel
theorem dL_text_47 : decode cL_text 47 = .ok (.idiv, 1) := by decide +kernel
theorem dL_text_48 : decode cL_text 48 = .ok (.bipush 12, 2) := by decide +kernel
theorem dL_text_50 : decode cL_text 50 = .ok (.irem, 1) := by decide +kernel
theorem dL_text_51 : decode cL_text 51 = .ok (.invokevirtual 47, 3) := by decide +kernel
theorem dL_text_54 : decode cL_text 54 = .ok (.bipush 59, 2) := by decide +kernel
theorem dL_text_56 : decode cL_text 56 = .ok (.invokevirtual 51, 3) := by decide +kernel
theorem dL_text_59 : decode cL_text 59 = .ok (.astore_n 2, 1) := by decide +kernel
theorem dL_text_60 : decode cL_text 60 = .ok (.iconst 0, 1) := by decide +kernel
theorem dL_text_61 : decode cL_text 61 = .ok (.istore_n 3, 1) := by decide +kernel
theorem dL_text_62 : decode cL_text 62 = .ok (.iload_n 3, 1) := by decide +kernel
theorem dL_text_63 : decode cL_text 63 = .ok (.iconst 3, 1) := by decide +kernel
theorem dL_text_64 : decode cL_text 64 = .ok (.if_icmp .ge 132, 3) := by decide +kernel
theorem dL_text_67 : decode cL_text 67 = .ok (.aload_n 0, 1) := by decide +kernel
theorem dL_text_68 : decode cL_text 68 = .ok (.iconst 1, 1) := by decide +kernel
theorem dL_text_69 : decode cL_text 69 = .ok (.iload_n 3, 1) := by decide +kernel
theorem dL_text_70 : decode cL_text 70 = .ok (.iadd, 1) := by decide +kernel
theorem dL_text_71 : decode cL_text 71 = .ok (.invokestatic 33, 3) := by decide +kernel
theorem dL_text_74 : decode cL_text 74 = .ok (.istore 4, 2) := by decide +kernel
theorem dL_text_76 : decode cL_text 76 = .ok (.aload_n 2, 1) := by decide +kernel
theorem dL_text_77 : decode cL_text 77 = .ok (.ldc 56, 2) := by decide +kernel
theorem dL_text_79 : decode cL_text 79 = .ok (.invokevirtual 58, 3) := by decide +kernel
theorem dL_text_82 : decode cL_text 82 = .ok (.pop, 1) := by decide +kernel
theorem dL_text_83 : decode cL_text 83 = .ok (.iconst 2, 1) := by decide +kernel
theorem dL_text_84 : decode cL_text 84 = .ok (.iload 4, 2) := by decide +kernel
theorem dL_text_86 : decode cL_text 86 = .ok (.iconst 5, 1) := by decide +kernel
theorem dL_text_87 : decode cL_text 87 = .ok (.irem, 1) := by decide +kernel
theorem dL_text_88 : decode cL_text 88 = .ok (.iadd, 1) := by decide +kernel
theorem dL_text_89 : decode cL_text 89 = .ok (.istore 5, 2) := by decide +kernel
theorem dL_text_91 : decode cL_text 91 = .ok (.iconst 0, 1) := by decide +kernel
theorem dL_text_92 : decode cL_text 92 = .ok (.istore 6, 2) := by decide +kernel
theorem dL_text_94 : decode cL_text 94 = .ok (.iload 6, 2) := by decide +kernel
theorem dL_text_96 : decode cL_text 96 = .ok (.iload 5, 2) := by decide +kernel
theorem dL_text_98 : decode cL_text 98 = .ok (.if_icmp .ge 85, 3) := by decide +kernel
theorem dL_text_101 : decode cL_text 101 = .ok (.aload_n 2, 1) := by decide +kernel
theorem dL_text_102 : decode cL_text 102 = .ok (.bipush 32, 2) := by decide +kernel
theorem dL_text_104 : decode cL_text 104 = .ok (.invokevirtual 51, 3) := by decide +kernel
theorem dL_text_107 : decode cL_text 107 = .ok (.iload 6, 2) := by decide +kernel
theorem dL_text_109 : decode cL_text 109 = .ok (.iload 4, 2) := by decide +kernel
theorem dL_text_111 : decode cL_text 111 = .ok (.bipush 8, 2) := by decide +kernel
theorem dL_text_113 : decode cL_text 113 = .ok (.idiv, 1) := by decide +kernel
theorem dL_text_114 : decode cL_text 114 = .ok (.iload 5, 2) := by decide +kernel
theorem dL_text_116 : decode cL_text 116 = .ok (.irem, 1) := by decide +kernel
theorem dL_text_117 : decode cL_text 117 = .ok (.if_icmp .ne 16, 3) := by decide +kernel
theorem dL_text_120 : decode cL_text 120 = .ok (.iconst 1, 1) := by decide +kernel
theorem dL_text_121 : decode cL_text 121 = .ok (.iload 4, 2) := by decide +kernel
theorem dL_text_123 : decode cL_text 123 = .ok (.bipush 64, 2) := by decide +kernel
theorem dL_text_125 : decode cL_text 125 = .ok (.idiv, 1) := by decide +kernel
theorem dL_text_126 : decode cL_text 126 = .ok (.bipush 9, 2) := by decide +kernel
theorem dL_text_128 : decode cL_text 128 = .ok (.irem, 1) := by decide +kernel
theorem dL_text_129 : decode cL_text 129 = .ok (.iadd, 1) := by decide +kernel
theorem dL_text_130 : decode cL_text 130 = .ok (.goto 43, 3) := by decide +kernel
theorem dL_text_133 : decode cL_text 133 = .ok (.iload 4, 2) := by decide +kernel
theorem dL_text_135 : decode cL_text 135 = .ok (.sipush 512, 3) := by decide +kernel
theorem dL_text_138 : decode cL_text 138 = .ok (.iconst 3, 1) := by decide +kernel
theorem dL_text_139 : decode cL_text 139 = .ok (.iload 6, 2) := by decide +kernel
theorem dL_text_141 : decode cL_text 141 = .ok (.imul, 1) := by decide +kernel
theorem dL_text_142 : decode cL_text 142 = .ok (.bipush 12, 2) := by decide +kernel
theorem dL_text_144 : decode cL_text 144 = .ok (.irem, 1) := by decide +kernel
theorem dL_text_145 : decode cL_text 145 = .ok (.ishl, 1) := by decide +kernel
theorem dL_text_146 : decode cL_text 146 = .ok (.idiv, 1) := by decide +kernel
theorem dL_text_147 : decode cL_text 147 = .ok (.bipush 8, 2) := by decide +kernel
theorem dL_text_149 : decode cL_text 149 = .ok (.irem, 1) := by decide +kernel
theorem dL_text_150 : decode cL_text 150 = .ok (.ifCond .ne 7, 3) := by decide +kernel
theorem dL_text_153 : decode cL_text 153 = .ok (.iconst 0, 1) := by decide +kernel
theorem dL_text_154 : decode cL_text 154 = .ok (.goto 19, 3) := by decide +kernel
theorem dL_text_157 : decode cL_text 157 = .ok (.iload 4, 2) := by decide +kernel
theorem dL_text_159 : decode cL_text 159 = .ok (.sipush 512, 3) := by decide +kernel
theorem dL_text_162 : decode cL_text 162 = .ok (.iconst 3, 1) := by decide +kernel
theorem dL_text_163 : decode cL_text 163 = .ok (.iload 6, 2) := by decide +kernel
theorem dL_text_165 : decode cL_text 165 = .ok (.imul, 1) := by decide +kernel
theorem dL_text_166 : decode cL_text 166 = .ok (.bipush 12, 2) := by decide +kernel
theorem dL_text_168 : decode cL_text 168 = .ok (.irem, 1) := by decide +kernel
theorem dL_text_169 : decode cL_text 169 = .ok (.ishl, 1) := by decide +kernel
theorem dL_text_170 : decode cL_text 170 = .ok (.idiv, 1) := by decide +kernel
theorem dL_text_171 : decode cL_text 171 = .ok (.iconst 4, 1) := by decide +kernel
theorem dL_text_172 : decode cL_text 172 = .ok (.irem, 1) := by decide +kernel
theorem dL_text_173 : decode cL_text 173 = .ok (.invokevirtual 47, 3) := by decide +kernel
theorem dL_text_176 : decode cL_text 176 = .ok (.pop, 1) := by decide +kernel
theorem dL_text_177 : decode cL_text 177 = .ok (.iinc 6 1, 3) := by decide +kernel
theorem dL_text_180 : decode cL_text 180 = .ok (.goto (-86), 3) := by decide +kernel
theorem dL_text_183 : decode cL_text 183 = .ok (.aload_n 2, 1) := by decide +kernel
theorem dL_text_184 : decode cL_text 184 = .ok (.bipush 59, 2) := by decide +kernel
theorem dL_text_186 : decode cL_text 186 = .ok (.invokevirtual 51, 3) := by decide +kernel
theorem dL_text_189 : decode cL_text 189 = .ok (.pop, 1) := by decide +kernel
theorem dL_text_190 : decode cL_text 190 = .ok (.iinc 3 1, 3) := by decide +kernel
theorem dL_text_193 : decode cL_text 193 = .ok (.goto (-131), 3) := by decide +kernel
theorem dL_text_196 : decode cL_text 196 = .ok (.aload_n 2, 1) := by decide +kernel
theorem dL_text_197 : decode cL_text 197 = .ok (.ldc 61, 2) := by decide +kernel
theorem dL_text_199 : decode cL_text 199 = .ok (.invokevirtual 58, 3) := by decide +kernel
theorem dL_text_202 : decode cL_text 202 = .ok (.invokevirtual 63, 3) := by decide +kernel
theorem dL_text_205 : decode cL_text 205 = .ok (.areturn, 1) := by decide +kernel
theorem dL_acts_0 : decode cL_acts 0 = .ok (.iload_n 1, 1) := by decide +kernel
theorem dL_acts_1 : decode cL_acts 1 = .ok (.bipush 16, 2) := by decide +kernel
theorem dL_acts_3 : decode cL_acts 3 = .ok (.idiv, 1) := by decide +kernel
theorem dL_acts_4 : decode cL_acts 4 = .ok (.istore_n 2, 1) := by decide +kernel
theorem dL_acts_5 : decode cL_acts 5 = .ok (.iload_n 1, 1) := by decide +kernel
theorem dL_acts_6 : decode cL_acts 6 = .ok (.bipush 16, 2) := by decide +kernel
theorem dL_acts_8 : decode cL_acts 8 = .ok (.irem, 1) := by decide +kernel
theorem dL_acts_9 : decode cL_acts 9 = .ok (.tableswitch 152 0 14 #[75, 75, 75, 75, 75, 75, 75, 75, 97, 97, 102, 102, 107, 115, 143], 75) := by decide +kernel
theorem dL_acts_84 : decode cL_acts 84 = .ok (.aload_n 0, 1) := by decide +kernel
theorem dL_acts_85 : decode cL_acts 85 = .ok (.iload_n 2, 1) := by decide +kernel
theorem dL_acts_86 : decode cL_acts 86 = .ok (.iconst 3, 1) := by decide +kernel
theorem dL_acts_87 : decode cL_acts 87 = .ok (.irem, 1) := by decide +kernel
theorem dL_acts_88 : decode cL_acts 88 = .ok (.iload_n 2, 1) := by decide +kernel
theorem dL_acts_89 : decode cL_acts 89 = .ok (.iconst 4, 1) := by decide +kernel
theorem dL_acts_90 : decode cL_acts 90 = .ok (.idiv, 1) := by decide +kernel
theorem dL_acts_91 : decode cL_acts 91 = .ok (.iconst 3, 1) := by decide +kernel
theorem dL_acts_92 : decode cL_acts 92 = .ok (.irem, 1) := by decide +kernel
theorem dL_acts_93 : decode cL_acts 93 = .ok (.iconst 1, 1) := by decide +kernel
theorem dL_acts_94 : decode cL_acts 94 = .ok (.iload_n 2, 1) := by decide +kernel
theorem dL_acts_95 : decode cL_acts 95 = .ok (.bipush 16, 2) := by decide +kernel
theorem dL_acts_97 : decode cL_acts 97 = .ok (.idiv, 1) := by decide +kernel
theorem dL_acts_98 : decode cL_acts 98 = .ok (.bipush 14, 2) := by decide +kernel
theorem dL_acts_100 : decode cL_acts 100 = .ok (.irem, 1) := by decide +kernel
theorem dL_acts_101 : decode cL_acts 101 = .ok (.iadd, 1) := by decide +kernel
theorem dL_acts_102 : decode cL_acts 102 = .ok (.invokevirtual 67, 3) := by decide +kernel
theorem dL_acts_105 : decode cL_acts 105 = .ok (.ireturn, 1) := by decide +kernel
theorem dL_acts_106 : decode cL_acts 106 = .ok (.aload_n 0, 1) := by decide +kernel
theorem dL_acts_107 : decode cL_acts 107 = .ok (.invokevirtual 71, 3) := by decide +kernel
theorem dL_acts_110 : decode cL_acts 110 = .ok (.ireturn, 1) := by decide +kernel
theorem dL_acts_111 : decode cL_acts 111 = .ok (.aload_n 0, 1) := by decide +kernel
theorem dL_acts_112 : decode cL_acts 112 = .ok (.invokevirtual 74, 3) := by decide +kernel
theorem dL_acts_115 : decode cL_acts 115 = .ok (.ireturn, 1) := by decide +kernel
theorem dL_acts_116 : decode cL_acts 116 = .ok (.aload_n 0, 1) := by decide +kernel
theorem dL_acts_117 : decode cL_acts 117 = .ok (.iload_n 2, 1) := by decide +kernel
theorem dL_acts_118 : decode cL_acts 118 = .ok (.iconst 3, 1) := by decide +kernel
theorem dL_acts_119 : decode cL_acts 119 = .ok (.irem, 1) := by decide +kernel
theorem dL_acts_120 : decode cL_acts 120 = .ok (.invokevirtual 77, 3) := by decide +kernel
theorem dL_acts_123 : decode cL_acts 123 = .ok (.ireturn, 1) := by decide +kernel
theorem dL_acts_124 : decode cL_acts 124 = .ok (.aload_n 0, 1) := by decide +kernel
theorem dL_acts_125 : decode cL_acts 125 = .ok (.iload_n 2, 1) := by decide +kernel
theorem dL_acts_126 : decode cL_acts 126 = .ok (.iconst 3, 1) := by decide +kernel
theorem dL_acts_127 : decode cL_acts 127 = .ok (.irem, 1) := by decide +kernel
theorem dL_acts_128 : decode cL_acts 128 = .ok (.iconst 1, 1) := by decide +kernel
theorem dL_acts_129 : decode cL_acts 129 = .ok (.iload_n 2, 1) := by decide +kernel
theorem dL_acts_130 : decode cL_acts 130 = .ok (.iconst 4, 1) := by decide +kernel
theorem dL_acts_131 : decode cL_acts 131 = .ok (.idiv, 1) := by decide +kernel
theorem dL_acts_132 : decode cL_acts 132 = .ok (.aload_n 0, 1) := by decide +kernel
theorem dL_acts_133 : decode cL_acts 133 = .ok (.iload_n 2, 1) := by decide +kernel
theorem dL_acts_134 : decode cL_acts 134 = .ok (.iconst 3, 1) := by decide +kernel
theorem dL_acts_135 : decode cL_acts 135 = .ok (.irem, 1) := by decide +kernel
theorem dL_acts_136 : decode cL_acts 136 = .ok (.invokevirtual 80, 3) := by decide +kernel
theorem dL_acts_139 : decode cL_acts 139 = .ok (.irem, 1) := by decide +kernel
theorem dL_acts_140 : decode cL_acts 140 = .ok (.iadd, 1) := by decide +kernel
theorem dL_acts_141 : decode cL_acts 141 = .ok (.iload_n 2, 1) := by decide +kernel
theorem dL_acts_142 : decode cL_acts 142 = .ok (.bipush 64, 2) := by decide +kernel
theorem dL_acts_144 : decode cL_acts 144 = .ok (.idiv, 1) := by decide +kernel
theorem dL_acts_145 : decode cL_acts 145 = .ok (.bipush 10, 2) := by decide +kernel
theorem dL_acts_147 : decode cL_acts 147 = .ok (.irem, 1) := by decide +kernel
theorem dL_acts_148 : decode cL_acts 148 = .ok (.invokevirtual 83, 3) := by decide +kernel
theorem dL_acts_151 : decode cL_acts 151 = .ok (.ireturn, 1) := by decide +kernel
theorem dL_acts_152 : decode cL_acts 152 = .ok (.aload_n 0, 1) := by decide +kernel
theorem dL_acts_153 : decode cL_acts 153 = .ok (.iload_n 2, 1) := by decide +kernel
theorem dL_acts_154 : decode cL_acts 154 = .ok (.ldc 46, 2) := by decide +kernel
theorem dL_acts_156 : decode cL_acts 156 = .ok (.irem, 1) := by decide +kernel
theorem dL_acts_157 : decode cL_acts 157 = .ok (.invokevirtual 86, 3) := by decide +kernel
theorem dL_acts_160 : decode cL_acts 160 = .ok (.ireturn, 1) := by decide +kernel
theorem dL_acts_161 : decode cL_acts 161 = .ok (.aload_n 0, 1) := by decide +kernel
theorem dL_acts_162 : decode cL_acts 162 = .ok (.iconst 1, 1) := by decide +kernel
theorem dL_acts_163 : decode cL_acts 163 = .ok (.iload_n 2, 1) := by decide +kernel
theorem dL_acts_164 : decode cL_acts 164 = .ok (.bipush 9, 2) := by decide +kernel
theorem dL_acts_166 : decode cL_acts 166 = .ok (.irem, 1) := by decide +kernel
theorem dL_acts_167 : decode cL_acts 167 = .ok (.iadd, 1) := by decide +kernel
theorem dL_acts_168 : decode cL_acts 168 = .ok (.iload_n 2, 1) := by decide +kernel
theorem dL_acts_169 : decode cL_acts 169 = .ok (.bipush 16, 2) := by decide +kernel
theorem dL_acts_171 : decode cL_acts 171 = .ok (.idiv, 1) := by decide +kernel
theorem dL_acts_172 : decode cL_acts 172 = .ok (.bipush 14, 2) := by decide +kernel
theorem dL_acts_174 : decode cL_acts 174 = .ok (.irem, 1) := by decide +kernel
theorem dL_acts_175 : decode cL_acts 175 = .ok (.invokevirtual 89, 3) := by decide +kernel
theorem dL_acts_178 : decode cL_acts 178 = .ok (.ireturn, 1) := by decide +kernel
theorem dL_acts_179 : decode cL_acts 179 = .ok (.astore_n 3, 1) := by decide +kernel
theorem dL_acts_180 : decode cL_acts 180 = .ok (.bipush (-9), 2) := by decide +kernel
theorem dL_acts_182 : decode cL_acts 182 = .ok (.ireturn, 1) := by decide +kernel
theorem dL_law_0 : decode cL_law 0 = .ok (.new 19, 3) := by decide +kernel
theorem dL_law_3 : decode cL_law 3 = .ok (.dup, 1) := by decide +kernel
theorem dL_law_4 : decode cL_law 4 = .ok (.invokespecial 95, 3) := by decide +kernel
theorem dL_law_7 : decode cL_law 7 = .ok (.astore_n 1, 1) := by decide +kernel
theorem dL_law_8 : decode cL_law 8 = .ok (.aload_n 1, 1) := by decide +kernel
theorem dL_law_9 : decode cL_law 9 = .ok (.aload_n 0, 1) := by decide +kernel
theorem dL_law_10 : decode cL_law 10 = .ok (.invokestatic 96, 3) := by decide +kernel
theorem dL_law_13 : decode cL_law 13 = .ok (.invokestatic 100, 3) := by decide +kernel
theorem dL_law_16 : decode cL_law 16 = .ok (.aload_n 1, 1) := by decide +kernel
theorem dL_law_17 : decode cL_law 17 = .ok (.invokestatic 104, 3) := by decide +kernel
theorem dL_law_20 : decode cL_law 20 = .ok (.ifCond .ne 18, 3) := by decide +kernel
theorem dL_law_23 : decode cL_law 23 = .ok (.aload_n 1, 1) := by decide +kernel
theorem dL_law_24 : decode cL_law 24 = .ok (.invokevirtual 108, 3) := by decide +kernel
theorem dL_law_27 : decode cL_law 27 = .ok (.ifCond .ne 11, 3) := by decide +kernel
theorem dL_law_30 : decode cL_law 30 = .ok (.aload_n 1, 1) := by decide +kernel
theorem dL_law_31 : decode cL_law 31 = .ok (.invokevirtual 111, 3) := by decide +kernel
theorem dL_law_34 : decode cL_law 34 = .ok (.iconst 3, 1) := by decide +kernel
theorem dL_law_35 : decode cL_law 35 = .ok (.if_icmp .eq 5, 3) := by decide +kernel
theorem dL_law_38 : decode cL_law 38 = .ok (.iconst 0, 1) := by decide +kernel
theorem dL_law_39 : decode cL_law 39 = .ok (.ireturn, 1) := by decide +kernel
theorem dL_law_40 : decode cL_law 40 = .ok (.new 114, 3) := by decide +kernel
theorem dL_law_43 : decode cL_law 43 = .ok (.dup, 1) := by decide +kernel
theorem dL_law_44 : decode cL_law 44 = .ok (.aload_n 1, 1) := by decide +kernel
theorem dL_law_45 : decode cL_law 45 = .ok (.invokespecial 116, 3) := by decide +kernel
theorem dL_law_48 : decode cL_law 48 = .ok (.astore_n 2, 1) := by decide +kernel
theorem dL_law_49 : decode cL_law 49 = .ok (.iconst 4, 1) := by decide +kernel
theorem dL_law_50 : decode cL_law 50 = .ok (.istore_n 3, 1) := by decide +kernel
theorem dL_law_51 : decode cL_law 51 = .ok (.iload_n 3, 1) := by decide +kernel
theorem dL_law_52 : decode cL_law 52 = .ok (.bipush 30, 2) := by decide +kernel
theorem dL_law_54 : decode cL_law 54 = .ok (.if_icmp .ge 60, 3) := by decide +kernel
theorem dL_law_57 : decode cL_law 57 = .ok (.aload_n 0, 1) := by decide +kernel
theorem dL_law_58 : decode cL_law 58 = .ok (.iload_n 3, 1) := by decide +kernel
theorem dL_law_59 : decode cL_law 59 = .ok (.invokestatic 33, 3) := by decide +kernel
theorem dL_law_62 : decode cL_law 62 = .ok (.istore 4, 2) := by decide +kernel
theorem dL_law_64 : decode cL_law 64 = .ok (.aload_n 2, 1) := by decide +kernel
theorem dL_law_65 : decode cL_law 65 = .ok (.iload 4, 2) := by decide +kernel
theorem dL_law_67 : decode cL_law 67 = .ok (.aload_n 1, 1) := by decide +kernel
theorem dL_law_68 : decode cL_law 68 = .ok (.invokevirtual 119, 3) := by decide +kernel
theorem dL_law_71 : decode cL_law 71 = .ok (.istore 5, 2) := by decide +kernel
theorem dL_law_73 : decode cL_law 73 = .ok (.aload_n 1, 1) := by decide +kernel
theorem dL_law_74 : decode cL_law 74 = .ok (.iload 4, 2) := by decide +kernel
theorem dL_law_76 : decode cL_law 76 = .ok (.invokestatic 123, 3) := by decide +kernel
theorem dL_law_79 : decode cL_law 79 = .ok (.iload 5, 2) := by decide +kernel
theorem dL_law_81 : decode cL_law 81 = .ok (.if_icmp .ne 25, 3) := by decide +kernel
theorem dL_law_84 : decode cL_law 84 = .ok (.aload_n 2, 1) := by decide +kernel
theorem dL_law_85 : decode cL_law 85 = .ok (.aload_n 1, 1) := by decide +kernel
theorem dL_law_86 : decode cL_law 86 = .ok (.invokevirtual 126, 3) := by decide +kernel
theorem dL_law_89 : decode cL_law 89 = .ok (.ifCond .eq 17, 3) := by decide +kernel
theorem dL_law_92 : decode cL_law 92 = .ok (.aload_n 1, 1) := by decide +kernel
theorem dL_law_93 : decode cL_law 93 = .ok (.invokevirtual 130, 3) := by decide +kernel
theorem dL_law_96 : decode cL_law 96 = .ok (.ifCond .ne 10, 3) := by decide +kernel
theorem dL_law_99 : decode cL_law 99 = .ok (.aload_n 1, 1) := by decide +kernel
theorem dL_law_100 : decode cL_law 100 = .ok (.invokevirtual 133, 3) := by decide +kernel
theorem dL_law_103 : decode cL_law 103 = .ok (.ifCond .eq 5, 3) := by decide +kernel
theorem dL_law_106 : decode cL_law 106 = .ok (.iconst 0, 1) := by decide +kernel
theorem dL_law_107 : decode cL_law 107 = .ok (.ireturn, 1) := by decide +kernel
theorem dL_law_108 : decode cL_law 108 = .ok (.iinc 3 1, 3) := by decide +kernel
theorem dL_law_111 : decode cL_law 111 = .ok (.goto (-60), 3) := by decide +kernel
theorem dL_law_114 : decode cL_law 114 = .ok (.iconst 1, 1) := by decide +kernel
theorem dL_law_115 : decode cL_law 115 = .ok (.ireturn, 1) := by decide +kernel
abbrev vwCl : List vw_C := [(RJ0, TJ0, 4), (RJ4, TJ4, 4), (RX0, TX0, 3), (RX1, TX1, 3), (RX2, TX2, 7), (RX3, TX3, 3), (RX4, TX4, 3), (RX5, TX5, 5), (RX6, TX6, 3), (RX7, TX7, 3), (RX8, TX8, 2), (RX9, TX9, 5), (RX10, TX10, 8), (RX11, TX11, 8)]
