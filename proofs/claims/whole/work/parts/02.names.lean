def RX0 : String := "DiceAudit$Dice"
def TX0 : u_T := fun k => match k with
  | 0 => ("DiceAudit$Dice", "faceCounts", "[I", true)
  | 1 => ("DiceAudit$Dice", "weights", "[I", true)
  | _ => ("DiceAudit$Dice", "count", "I", false)
def tyX0 : Nat → FieldType := fun k => match k with
  | 0 => .array .int
  | 1 => .array .int
  | _ => .int
abbrev wsX00 : List Cond := u_ws RX0 TX0 3
theorem nmX0 : ∀ a, a < 3 → ∀ b, b < 3 → a ≠ b → (TX0 a).2.1 ≠ (TX0 b).2.1 := by decide +kernel
theorem tyX0_ok : ∀ k, k < 3 → parseFieldDescriptor (TX0 k).2.2.1 = some (tyX0 k) := by decide +kernel
abbrev cX0_init : ByteArray := prog_2_method_1_code
def yX0_init : MethodName := ⟨RX0, "<init>", "()V"⟩
abbrev cX0_clear : ByteArray := prog_2_method_2_code
def yX0_clear : MethodName := ⟨RX0, "clear", "()V"⟩
abbrev cX0_copyFrom : ByteArray := prog_2_method_3_code
def yX0_copyFrom : MethodName := ⟨RX0, "copyFrom", "(LDiceAudit$Dice;)V"⟩
abbrev cX0_add : ByteArray := prog_2_method_4_code
def yX0_add : MethodName := ⟨RX0, "add", "(I)V"⟩
abbrev cX0_faceCount : ByteArray := prog_2_method_5_code
def yX0_faceCount : MethodName := ⟨RX0, "faceCount", "(I)I"⟩
abbrev cX0_weight : ByteArray := prog_2_method_6_code
def yX0_weight : MethodName := ⟨RX0, "weight", "(II)I"⟩
abbrev cX0_putWeight : ByteArray := prog_2_method_7_code
def yX0_putWeight : MethodName := ⟨RX0, "putWeight", "(III)V"⟩
abbrev cX0_weightSum : ByteArray := prog_2_method_8_code
def yX0_weightSum : MethodName := ⟨RX0, "weightSum", "(I)I"⟩
abbrev cX0_hasEqualWeights : ByteArray := prog_2_method_9_code
def yX0_hasEqualWeights : MethodName := ⟨RX0, "hasEqualWeights", "(I)Z"⟩
abbrev cX0_faceShown : ByteArray := prog_2_method_10_code
def yX0_faceShown : MethodName := ⟨RX0, "faceShown", "(II)I"⟩
abbrev cX0_fairFaceShown : ByteArray := prog_2_method_11_code
def yX0_fairFaceShown : MethodName := ⟨RX0, "fairFaceShown", "(II)I"⟩
def RX1 : String := "DiceAudit$Forecast"
def TX1 : u_T := fun k => match k with
  | 0 => ("DiceAudit$Forecast", "frequencies", "[I", true)
  | 1 => ("DiceAudit$Forecast", "die", "I", false)
  | _ => ("DiceAudit$Forecast", "seed", "I", false)
def tyX1 : Nat → FieldType := fun k => match k with
  | 0 => .array .int
  | 1 => .int
  | _ => .int
abbrev wsX10 : List Cond := u_ws RX1 TX1 3
theorem nmX1 : ∀ a, a < 3 → ∀ b, b < 3 → a ≠ b → (TX1 a).2.1 ≠ (TX1 b).2.1 := by decide +kernel
theorem tyX1_ok : ∀ k, k < 3 → parseFieldDescriptor (TX1 k).2.2.1 = some (tyX1 k) := by decide +kernel
abbrev cX1_init : ByteArray := prog_3_method_1_code
def yX1_init : MethodName := ⟨RX1, "<init>", "()V"⟩
abbrev cX1_begin : ByteArray := prog_3_method_2_code
def yX1_begin : MethodName := ⟨RX1, "begin", "(LDiceAudit$Hall;II)V"⟩
abbrev cX1_throwOnce : ByteArray := prog_3_method_3_code
def yX1_throwOnce : MethodName := ⟨RX1, "throwOnce", "(LDiceAudit$Hall;)V"⟩
abbrev cX1_made : ByteArray := prog_3_method_4_code
def yX1_made : MethodName := ⟨RX1, "made", "()I"⟩
abbrev cX1_presentScore : ByteArray := prog_3_method_5_code
def yX1_presentScore : MethodName := ⟨RX1, "presentScore", "(LDiceAudit$Hall;)I"⟩
def RX2 : String := "DiceAudit$Hall"
def TX2 : u_T := fun k => match k with
  | 0 => ("DiceAudit$Hall", "dice", "LDiceAudit$Dice;", true)
  | 1 => ("DiceAudit$Hall", "players", "LDiceAudit$Players;", true)
  | 2 => ("DiceAudit$Hall", "ledger", "LDiceAudit$Ledger;", true)
  | 3 => ("DiceAudit$Hall", "offences", "LDiceAudit$Offences;", true)
  | 4 => ("DiceAudit$Hall", "seed", "I", false)
  | 5 => ("DiceAudit$Hall", "minimum", "I", false)
  | _ => ("DiceAudit$Hall", "threshold", "I", false)
def tyX2 : Nat → FieldType := fun k => match k with
  | 0 => .object "DiceAudit$Dice"
  | 1 => .object "DiceAudit$Players"
  | 2 => .object "DiceAudit$Ledger"
  | 3 => .object "DiceAudit$Offences"
  | 4 => .int
  | 5 => .int
  | _ => .int
abbrev wsX20 : List Cond := u_ws RX2 TX2 7
theorem nmX2 : ∀ a, a < 7 → ∀ b, b < 7 → a ≠ b → (TX2 a).2.1 ≠ (TX2 b).2.1 := by decide +kernel
theorem tyX2_ok : ∀ k, k < 7 → parseFieldDescriptor (TX2 k).2.2.1 = some (tyX2 k) := by decide +kernel
abbrev cX2_init : ByteArray := prog_4_method_1_code
def yX2_init : MethodName := ⟨RX2, "<init>", "()V"⟩
abbrev cX2_begin : ByteArray := prog_4_method_2_code
def yX2_begin : MethodName := ⟨RX2, "begin", "(III)V"⟩
abbrev cX2_copyFrom : ByteArray := prog_4_method_3_code
def yX2_copyFrom : MethodName := ⟨RX2, "copyFrom", "(LDiceAudit$Hall;)V"⟩
abbrev cX2_makeThrows : ByteArray := prog_4_method_4_code
def yX2_makeThrows : MethodName := ⟨RX2, "makeThrows", "(IIZ)I"⟩
abbrev cX2_pairScore : ByteArray := prog_4_method_5_code
def yX2_pairScore : MethodName := ⟨RX2, "pairScore", "(I)I"⟩
abbrev cX2_exceedsLimits : ByteArray := prog_4_method_6_code
def yX2_exceedsLimits : MethodName := ⟨RX2, "exceedsLimits", "(II)Z"⟩
abbrev cX2_isPairSuspicious : ByteArray := prog_4_method_7_code
def yX2_isPairSuspicious : MethodName := ⟨RX2, "isPairSuspicious", "(I)Z"⟩
abbrev cX2_countSuspicious : ByteArray := prog_4_method_8_code
def yX2_countSuspicious : MethodName := ⟨RX2, "countSuspicious", "()I"⟩
abbrev cX2_pairWithGreatestScore : ByteArray := prog_4_method_9_code
def yX2_pairWithGreatestScore : MethodName := ⟨RX2, "pairWithGreatestScore", "()I"⟩
abbrev cX2_holdAudit : ByteArray := prog_4_method_10_code
def yX2_holdAudit : MethodName := ⟨RX2, "holdAudit", "()I"⟩
abbrev cX2_penanceSize : ByteArray := prog_4_method_11_code
def yX2_penanceSize : MethodName := ⟨RX2, "penanceSize", "()I"⟩
abbrev cX2_doPenance : ByteArray := prog_4_method_12_code
def yX2_doPenance : MethodName := ⟨RX2, "doPenance", "()I"⟩
abbrev cX2_placeByTotal : ByteArray := prog_4_method_13_code
def yX2_placeByTotal : MethodName := ⟨RX2, "placeByTotal", "(I)I"⟩
abbrev cX2_ranksBefore : ByteArray := prog_4_method_14_code
def yX2_ranksBefore : MethodName := ⟨RX2, "ranksBefore", "(II)Z"⟩
def RX3 : String := "DiceAudit$History"
def TX3 : u_T := fun k => match k with
  | 0 => ("DiceAudit$History", "rows", "[LDiceAudit$Hall;", true)
  | 1 => ("DiceAudit$History", "next", "I", false)
  | _ => ("DiceAudit$History", "depth", "I", false)
def tyX3 : Nat → FieldType := fun k => match k with
  | 0 => .array (.object "DiceAudit$Hall")
  | 1 => .int
  | _ => .int
abbrev wsX30 : List Cond := u_ws RX3 TX3 3
theorem nmX3 : ∀ a, a < 3 → ∀ b, b < 3 → a ≠ b → (TX3 a).2.1 ≠ (TX3 b).2.1 := by decide +kernel
theorem tyX3_ok : ∀ k, k < 3 → parseFieldDescriptor (TX3 k).2.2.1 = some (tyX3 k) := by decide +kernel
abbrev cX3_init : ByteArray := prog_5_method_1_code
def yX3_init : MethodName := ⟨RX3, "<init>", "()V"⟩
abbrev cX3_remember : ByteArray := prog_5_method_2_code
def yX3_remember : MethodName := ⟨RX3, "remember", "(LDiceAudit$Hall;)V"⟩
abbrev cX3_bringBack : ByteArray := prog_5_method_3_code
def yX3_bringBack : MethodName := ⟨RX3, "bringBack", "(LDiceAudit$Hall;)V"⟩
def RX4 : String := "DiceAudit$Ledger"
def TX4 : u_T := fun k => match k with
  | 0 => ("DiceAudit$Ledger", "entries", "[I", true)
  | 1 => ("DiceAudit$Ledger", "frequencies", "[I", true)
  | _ => ("DiceAudit$Ledger", "count", "I", false)
def tyX4 : Nat → FieldType := fun k => match k with
  | 0 => .array .int
  | 1 => .array .int
  | _ => .int
abbrev wsX40 : List Cond := u_ws RX4 TX4 3
theorem nmX4 : ∀ a, a < 3 → ∀ b, b < 3 → a ≠ b → (TX4 a).2.1 ≠ (TX4 b).2.1 := by decide +kernel
theorem tyX4_ok : ∀ k, k < 3 → parseFieldDescriptor (TX4 k).2.2.1 = some (tyX4 k) := by decide +kernel
abbrev cX4_init : ByteArray := prog_6_method_1_code
def yX4_init : MethodName := ⟨RX4, "<init>", "()V"⟩
abbrev cX4_clear : ByteArray := prog_6_method_2_code
def yX4_clear : MethodName := ⟨RX4, "clear", "()V"⟩
abbrev cX4_copyFrom : ByteArray := prog_6_method_3_code
def yX4_copyFrom : MethodName := ⟨RX4, "copyFrom", "(LDiceAudit$Ledger;)V"⟩
abbrev cX4_add : ByteArray := prog_6_method_4_code
def yX4_add : MethodName := ⟨RX4, "add", "(IIZ)V"⟩
abbrev cX4_pairIn : ByteArray := prog_6_method_5_code
def yX4_pairIn : MethodName := ⟨RX4, "pairIn", "(I)I"⟩
abbrev cX4_faceIn : ByteArray := prog_6_method_6_code
def yX4_faceIn : MethodName := ⟨RX4, "faceIn", "(I)I"⟩
abbrev cX4_isMarked : ByteArray := prog_6_method_7_code
def yX4_isMarked : MethodName := ⟨RX4, "isMarked", "(I)Z"⟩
abbrev cX4_removeLatest : ByteArray := prog_6_method_8_code
def yX4_removeLatest : MethodName := ⟨RX4, "removeLatest", "(II)V"⟩
abbrev cX4_pairThrows : ByteArray := prog_6_method_9_code
def yX4_pairThrows : MethodName := ⟨RX4, "pairThrows", "(I)I"⟩
abbrev cX4_distinctFaces : ByteArray := prog_6_method_10_code
def yX4_distinctFaces : MethodName := ⟨RX4, "distinctFaces", "(I)I"⟩
abbrev cX4_latestOf : ByteArray := prog_6_method_11_code
def yX4_latestOf : MethodName := ⟨RX4, "latestOf", "(I)I"⟩
abbrev cX4_playerThrows : ByteArray := prog_6_method_12_code
def yX4_playerThrows : MethodName := ⟨RX4, "playerThrows", "(I)I"⟩
abbrev cX4_playerTotal : ByteArray := prog_6_method_13_code
def yX4_playerTotal : MethodName := ⟨RX4, "playerTotal", "(I)I"⟩
abbrev cX4_longestStreak : ByteArray := prog_6_method_14_code
def yX4_longestStreak : MethodName := ⟨RX4, "longestStreak", "(I)I"⟩
abbrev cX4_frequencySum : ByteArray := prog_6_method_15_code
def yX4_frequencySum : MethodName := ⟨RX4, "frequencySum", "()I"⟩
abbrev cX4_faceSum : ByteArray := prog_6_method_16_code
def yX4_faceSum : MethodName := ⟨RX4, "faceSum", "()I"⟩
abbrev cX4_markedThrows : ByteArray := prog_6_method_17_code
def yX4_markedThrows : MethodName := ⟨RX4, "markedThrows", "()I"⟩
def RX5 : String := "DiceAudit$Loader"
def TX5 : u_T := fun k => match k with
  | 0 => ("DiceAudit$Loader", "text", "LDiceAudit$Text;", true)
  | 1 => ("DiceAudit$Loader", "tokens", "LDiceAudit$Tokens;", true)
  | 2 => ("DiceAudit$Loader", "draft", "LDiceAudit$Hall;", true)
  | 3 => ("DiceAudit$Loader", "error", "I", false)
  | _ => ("DiceAudit$Loader", "errorOffset", "I", false)
def tyX5 : Nat → FieldType := fun k => match k with
  | 0 => .object "DiceAudit$Text"
  | 1 => .object "DiceAudit$Tokens"
  | 2 => .object "DiceAudit$Hall"
  | 3 => .int
  | _ => .int
abbrev wsX50 : List Cond := u_ws RX5 TX5 5
theorem nmX5 : ∀ a, a < 5 → ∀ b, b < 5 → a ≠ b → (TX5 a).2.1 ≠ (TX5 b).2.1 := by decide +kernel
theorem tyX5_ok : ∀ k, k < 5 → parseFieldDescriptor (TX5 k).2.2.1 = some (tyX5 k) := by decide +kernel
abbrev cX5_init : ByteArray := prog_7_method_1_code
def yX5_init : MethodName := ⟨RX5, "<init>", "(LDiceAudit$Text;)V"⟩
abbrev cX5_parse : ByteArray := prog_7_method_2_code
def yX5_parse : MethodName := ⟨RX5, "parse", "()Z"⟩
abbrev cX5_hasMore : ByteArray := prog_7_method_3_code
def yX5_hasMore : MethodName := ⟨RX5, "hasMore", "()Z"⟩
abbrev cX5_readHall : ByteArray := prog_7_method_4_code
def yX5_readHall : MethodName := ⟨RX5, "readHall", "()V"⟩
abbrev cX5_readStatement : ByteArray := prog_7_method_5_code
def yX5_readStatement : MethodName := ⟨RX5, "readStatement", "()V"⟩
abbrev cX5_readDie : ByteArray := prog_7_method_6_code
def yX5_readDie : MethodName := ⟨RX5, "readDie", "()V"⟩
abbrev cX5_readPlayer : ByteArray := prog_7_method_7_code
def yX5_readPlayer : MethodName := ⟨RX5, "readPlayer", "()V"⟩
abbrev cX5_takeNewName : ByteArray := prog_7_method_8_code
def yX5_takeNewName : MethodName := ⟨RX5, "takeNewName", "()V"⟩
abbrev cX5_readThrow : ByteArray := prog_7_method_9_code
def yX5_readThrow : MethodName := ⟨RX5, "readThrow", "()V"⟩
abbrev cX5_readAudit : ByteArray := prog_7_method_10_code
def yX5_readAudit : MethodName := ⟨RX5, "readAudit", "()V"⟩
abbrev cX5_readAbsolve : ByteArray := prog_7_method_11_code
def yX5_readAbsolve : MethodName := ⟨RX5, "readAbsolve", "()V"⟩
abbrev cX5_readForgive : ByteArray := prog_7_method_12_code
def yX5_readForgive : MethodName := ⟨RX5, "readForgive", "()V"⟩
abbrev cX5_takeKnownName : ByteArray := prog_7_method_13_code
def yX5_takeKnownName : MethodName := ⟨RX5, "takeKnownName", "()I"⟩
abbrev cX5_takeKeyword : ByteArray := prog_7_method_14_code
def yX5_takeKeyword : MethodName := ⟨RX5, "takeKeyword", "(I)V"⟩
abbrev cX5_isNumberIn : ByteArray := prog_7_method_15_code
def yX5_isNumberIn : MethodName := ⟨RX5, "isNumberIn", "(II)Z"⟩
abbrev cX5_takeNumber : ByteArray := prog_7_method_16_code
def yX5_takeNumber : MethodName := ⟨RX5, "takeNumber", "(II)I"⟩
abbrev cX5_takeSemicolon : ByteArray := prog_7_method_17_code
def yX5_takeSemicolon : MethodName := ⟨RX5, "takeSemicolon", "(I)V"⟩
abbrev cX5_fail : ByteArray := prog_7_method_18_code
def yX5_fail : MethodName := ⟨RX5, "fail", "(I)V"⟩
def RX6 : String := "DiceAudit$Offences"
def TX6 : u_T := fun k => match k with
  | 0 => ("DiceAudit$Offences", "pairs", "[I", true)
  | 1 => ("DiceAudit$Offences", "scores", "[I", true)
  | _ => ("DiceAudit$Offences", "count", "I", false)
def tyX6 : Nat → FieldType := fun k => match k with
  | 0 => .array .int
  | 1 => .array .int
  | _ => .int
abbrev wsX60 : List Cond := u_ws RX6 TX6 3
theorem nmX6 : ∀ a, a < 3 → ∀ b, b < 3 → a ≠ b → (TX6 a).2.1 ≠ (TX6 b).2.1 := by decide +kernel
theorem tyX6_ok : ∀ k, k < 3 → parseFieldDescriptor (TX6 k).2.2.1 = some (tyX6 k) := by decide +kernel
abbrev cX6_init : ByteArray := prog_8_method_1_code
def yX6_init : MethodName := ⟨RX6, "<init>", "()V"⟩
abbrev cX6_clear : ByteArray := prog_8_method_2_code
def yX6_clear : MethodName := ⟨RX6, "clear", "()V"⟩
abbrev cX6_copyFrom : ByteArray := prog_8_method_3_code
def yX6_copyFrom : MethodName := ⟨RX6, "copyFrom", "(LDiceAudit$Offences;)V"⟩
abbrev cX6_has : ByteArray := prog_8_method_4_code
def yX6_has : MethodName := ⟨RX6, "has", "(I)Z"⟩
abbrev cX6_add : ByteArray := prog_8_method_5_code
def yX6_add : MethodName := ⟨RX6, "add", "(II)V"⟩
abbrev cX6_goesBefore : ByteArray := prog_8_method_6_code
def yX6_goesBefore : MethodName := ⟨RX6, "goesBefore", "(III)Z"⟩
abbrev cX6_set : ByteArray := prog_8_method_7_code
def yX6_set : MethodName := ⟨RX6, "set", "(III)V"⟩
abbrev cX6_removeFirst : ByteArray := prog_8_method_8_code
def yX6_removeFirst : MethodName := ⟨RX6, "removeFirst", "()V"⟩
abbrev cX6_removeAllOf : ByteArray := prog_8_method_9_code
def yX6_removeAllOf : MethodName := ⟨RX6, "removeAllOf", "(I)I"⟩
abbrev cX6_countOf : ByteArray := prog_8_method_10_code
def yX6_countOf : MethodName := ⟨RX6, "countOf", "(I)I"⟩
def RX7 : String := "DiceAudit$Players"
def TX7 : u_T := fun k => match k with
  | 0 => ("DiceAudit$Players", "lengths", "[I", true)
  | 1 => ("DiceAudit$Players", "letters", "[I", true)
  | _ => ("DiceAudit$Players", "count", "I", false)
def tyX7 : Nat → FieldType := fun k => match k with
  | 0 => .array .int
  | 1 => .array .int
  | _ => .int
abbrev wsX70 : List Cond := u_ws RX7 TX7 3
theorem nmX7 : ∀ a, a < 3 → ∀ b, b < 3 → a ≠ b → (TX7 a).2.1 ≠ (TX7 b).2.1 := by decide +kernel
theorem tyX7_ok : ∀ k, k < 3 → parseFieldDescriptor (TX7 k).2.2.1 = some (tyX7 k) := by decide +kernel
abbrev cX7_init : ByteArray := prog_9_method_1_code
def yX7_init : MethodName := ⟨RX7, "<init>", "()V"⟩
abbrev cX7_clear : ByteArray := prog_9_method_2_code
def yX7_clear : MethodName := ⟨RX7, "clear", "()V"⟩
abbrev cX7_copyFrom : ByteArray := prog_9_method_3_code
def yX7_copyFrom : MethodName := ⟨RX7, "copyFrom", "(LDiceAudit$Players;)V"⟩
abbrev cX7_add : ByteArray := prog_9_method_4_code
def yX7_add : MethodName := ⟨RX7, "add", "(LDiceAudit$Text;II)V"⟩
abbrev cX7_nameLength : ByteArray := prog_9_method_5_code
def yX7_nameLength : MethodName := ⟨RX7, "nameLength", "(I)I"⟩
abbrev cX7_letter : ByteArray := prog_9_method_6_code
def yX7_letter : MethodName := ⟨RX7, "letter", "(II)I"⟩
abbrev cX7_find : ByteArray := prog_9_method_7_code
def yX7_find : MethodName := ⟨RX7, "find", "(LDiceAudit$Text;II)I"⟩
abbrev cX7_isNamed : ByteArray := prog_9_method_8_code
def yX7_isNamed : MethodName := ⟨RX7, "isNamed", "(ILDiceAudit$Text;II)Z"⟩
abbrev cX7_comesBefore : ByteArray := prog_9_method_9_code
def yX7_comesBefore : MethodName := ⟨RX7, "comesBefore", "(II)Z"⟩
abbrev cX7_playerInPlace : ByteArray := prog_9_method_10_code
def yX7_playerInPlace : MethodName := ⟨RX7, "playerInPlace", "(I)I"⟩
abbrev cX7_placeByName : ByteArray := prog_9_method_11_code
def yX7_placeByName : MethodName := ⟨RX7, "placeByName", "(I)I"⟩
def RX8 : String := "DiceAudit$Text"
def TX8 : u_T := fun k => match k with
  | 0 => ("DiceAudit$Text", "bytes", "[I", true)
  | _ => ("DiceAudit$Text", "length", "I", false)
def tyX8 : Nat → FieldType := fun k => match k with
  | 0 => .array .int
  | _ => .int
abbrev wsX80 : List Cond := u_ws RX8 TX8 2
theorem nmX8 : ∀ a, a < 2 → ∀ b, b < 2 → a ≠ b → (TX8 a).2.1 ≠ (TX8 b).2.1 := by decide +kernel
theorem tyX8_ok : ∀ k, k < 2 → parseFieldDescriptor (TX8 k).2.2.1 = some (tyX8 k) := by decide +kernel
abbrev cX8_init : ByteArray := prog_10_method_1_code
def yX8_init : MethodName := ⟨RX8, "<init>", "()V"⟩
abbrev cX8_byteIn : ByteArray := prog_10_method_2_code
def yX8_byteIn : MethodName := ⟨RX8, "byteIn", "(I)I"⟩
abbrev cX8_append : ByteArray := prog_10_method_3_code
def yX8_append : MethodName := ⟨RX8, "append", "(I)V"⟩
abbrev cX8_appendWord : ByteArray := prog_10_method_4_code
def yX8_appendWord : MethodName := ⟨RX8, "appendWord", "(I)V"⟩
abbrev cX8_appendString : ByteArray := prog_10_method_5_code
def yX8_appendString : MethodName := ⟨RX8, "appendString", "(Ljava/lang/String;)V"⟩
abbrev cX8_appendSeparator : ByteArray := prog_10_method_6_code
def yX8_appendSeparator : MethodName := ⟨RX8, "appendSeparator", "(I)V"⟩
abbrev cX8_appendNumber : ByteArray := prog_10_method_7_code
def yX8_appendNumber : MethodName := ⟨RX8, "appendNumber", "(I)V"⟩
abbrev cX8_cutTo : ByteArray := prog_10_method_8_code
def yX8_cutTo : MethodName := ⟨RX8, "cutTo", "(I)V"⟩
def RX9 : String := "DiceAudit$Tokens"
def TX9 : u_T := fun k => match k with
  | 0 => ("DiceAudit$Tokens", "text", "LDiceAudit$Text;", true)
  | 1 => ("DiceAudit$Tokens", "kind", "I", false)
  | 2 => ("DiceAudit$Tokens", "start", "I", false)
  | 3 => ("DiceAudit$Tokens", "end", "I", false)
  | _ => ("DiceAudit$Tokens", "value", "I", false)
def tyX9 : Nat → FieldType := fun k => match k with
  | 0 => .object "DiceAudit$Text"
  | 1 => .int
  | 2 => .int
  | 3 => .int
  | _ => .int
abbrev wsX90 : List Cond := u_ws RX9 TX9 5
theorem nmX9 : ∀ a, a < 5 → ∀ b, b < 5 → a ≠ b → (TX9 a).2.1 ≠ (TX9 b).2.1 := by decide +kernel
theorem tyX9_ok : ∀ k, k < 5 → parseFieldDescriptor (TX9 k).2.2.1 = some (tyX9 k) := by decide +kernel
abbrev cX9_init : ByteArray := prog_11_method_1_code
def yX9_init : MethodName := ⟨RX9, "<init>", "(LDiceAudit$Text;)V"⟩
abbrev cX9_rewind : ByteArray := prog_11_method_2_code
def yX9_rewind : MethodName := ⟨RX9, "rewind", "()V"⟩
abbrev cX9_advance : ByteArray := prog_11_method_3_code
def yX9_advance : MethodName := ⟨RX9, "advance", "()V"⟩
abbrev cX9_passLetters : ByteArray := prog_11_method_4_code
def yX9_passLetters : MethodName := ⟨RX9, "passLetters", "()V"⟩
abbrev cX9_passDigits : ByteArray := prog_11_method_5_code
def yX9_passDigits : MethodName := ⟨RX9, "passDigits", "()V"⟩
abbrev cX9_isWord : ByteArray := prog_11_method_6_code
def yX9_isWord : MethodName := ⟨RX9, "isWord", "(Ljava/lang/String;)Z"⟩
abbrev cX9_isSemicolon : ByteArray := prog_11_method_7_code
def yX9_isSemicolon : MethodName := ⟨RX9, "isSemicolon", "()Z"⟩
abbrev cX9_isBlank : ByteArray := prog_11_method_8_code
def yX9_isBlank : MethodName := ⟨RX9, "isBlank", "(I)Z"⟩
abbrev cX9_isLetter : ByteArray := prog_11_method_9_code
def yX9_isLetter : MethodName := ⟨RX9, "isLetter", "(I)Z"⟩
abbrev cX9_isDigit : ByteArray := prog_11_method_10_code
def yX9_isDigit : MethodName := ⟨RX9, "isDigit", "(I)Z"⟩
def RX10 : String := "DiceAudit"
def TX10 : u_T := fun k => match k with
  | 0 => ("DiceAudit", "input", "LDiceAudit$Text;", true)
  | 1 => ("DiceAudit", "loader", "LDiceAudit$Loader;", true)
  | 2 => ("DiceAudit", "output", "LDiceAudit$Text;", true)
  | 3 => ("DiceAudit", "hall", "LDiceAudit$Hall;", true)
  | 4 => ("DiceAudit", "forecast", "LDiceAudit$Forecast;", true)
  | 5 => ("DiceAudit", "history", "LDiceAudit$History;", true)
  | 6 => ("DiceAudit", "slots", "[LDiceAudit$Hall;", true)
  | _ => ("DiceAudit", "slotsInUse", "[I", true)
def tyX10 : Nat → FieldType := fun k => match k with
  | 0 => .object "DiceAudit$Text"
  | 1 => .object "DiceAudit$Loader"
  | 2 => .object "DiceAudit$Text"
  | 3 => .object "DiceAudit$Hall"
  | 4 => .object "DiceAudit$Forecast"
  | 5 => .object "DiceAudit$History"
  | 6 => .array (.object "DiceAudit$Hall")
  | _ => .array .int
abbrev wsX100 : List Cond := u_ws RX10 TX10 8
theorem nmX10 : ∀ a, a < 8 → ∀ b, b < 8 → a ≠ b → (TX10 a).2.1 ≠ (TX10 b).2.1 := by decide +kernel
theorem tyX10_ok : ∀ k, k < 8 → parseFieldDescriptor (TX10 k).2.2.1 = some (tyX10 k) := by decide +kernel
abbrev cX10_init : ByteArray := prog_1_method_1_code
def yX10_init : MethodName := ⟨RX10, "<init>", "()V"⟩
abbrev cX10_appendInput : ByteArray := prog_1_method_2_code
def yX10_appendInput : MethodName := ⟨RX10, "appendInput", "(IIIII)I"⟩
abbrev cX10_truncateInput : ByteArray := prog_1_method_3_code
def yX10_truncateInput : MethodName := ⟨RX10, "truncateInput", "(I)I"⟩
abbrev cX10_load : ByteArray := prog_1_method_4_code
def yX10_load : MethodName := ⟨RX10, "load", "()I"⟩
abbrev cX10_errorCode : ByteArray := prog_1_method_5_code
def yX10_errorCode : MethodName := ⟨RX10, "errorCode", "()I"⟩
abbrev cX10_errorPosition : ByteArray := prog_1_method_6_code
def yX10_errorPosition : MethodName := ⟨RX10, "errorPosition", "()I"⟩
abbrev cX10_seed : ByteArray := prog_1_method_7_code
def yX10_seed : MethodName := ⟨RX10, "seed", "()I"⟩
abbrev cX10_minimum : ByteArray := prog_1_method_8_code
def yX10_minimum : MethodName := ⟨RX10, "minimum", "()I"⟩
abbrev cX10_threshold : ByteArray := prog_1_method_9_code
def yX10_threshold : MethodName := ⟨RX10, "threshold", "()I"⟩
abbrev cX10_dieCount : ByteArray := prog_1_method_10_code
def yX10_dieCount : MethodName := ⟨RX10, "dieCount", "()I"⟩
abbrev cX10_playerCount : ByteArray := prog_1_method_11_code
def yX10_playerCount : MethodName := ⟨RX10, "playerCount", "()I"⟩
abbrev cX10_throwCount : ByteArray := prog_1_method_12_code
def yX10_throwCount : MethodName := ⟨RX10, "throwCount", "()I"⟩
abbrev cX10_faces : ByteArray := prog_1_method_13_code
def yX10_faces : MethodName := ⟨RX10, "faces", "(I)I"⟩
abbrev cX10_weightOf : ByteArray := prog_1_method_14_code
def yX10_weightOf : MethodName := ⟨RX10, "weightOf", "(II)I"⟩
abbrev cX10_isBalanced : ByteArray := prog_1_method_15_code
def yX10_isBalanced : MethodName := ⟨RX10, "isBalanced", "(I)Z"⟩
abbrev cX10_heaviestFace : ByteArray := prog_1_method_16_code
def yX10_heaviestFace : MethodName := ⟨RX10, "heaviestFace", "(I)I"⟩
abbrev cX10_nameByte : ByteArray := prog_1_method_17_code
def yX10_nameByte : MethodName := ⟨RX10, "nameByte", "(II)I"⟩
abbrev cX10_playerAt : ByteArray := prog_1_method_18_code
def yX10_playerAt : MethodName := ⟨RX10, "playerAt", "(I)I"⟩
abbrev cX10_dieAt : ByteArray := prog_1_method_19_code
def yX10_dieAt : MethodName := ⟨RX10, "dieAt", "(I)I"⟩
abbrev cX10_faceAt : ByteArray := prog_1_method_20_code
def yX10_faceAt : MethodName := ⟨RX10, "faceAt", "(I)I"⟩
abbrev cX10_isFairAt : ByteArray := prog_1_method_21_code
def yX10_isFairAt : MethodName := ⟨RX10, "isFairAt", "(I)Z"⟩
abbrev cX10_throwsOf : ByteArray := prog_1_method_22_code
def yX10_throwsOf : MethodName := ⟨RX10, "throwsOf", "(I)I"⟩
abbrev cX10_total : ByteArray := prog_1_method_23_code
def yX10_total : MethodName := ⟨RX10, "total", "(I)I"⟩
abbrev cX10_meanFace : ByteArray := prog_1_method_24_code
def yX10_meanFace : MethodName := ⟨RX10, "meanFace", "(I)D"⟩
abbrev cX10_rankOf : ByteArray := prog_1_method_25_code
def yX10_rankOf : MethodName := ⟨RX10, "rankOf", "(I)I"⟩
abbrev cX10_playerWithRank : ByteArray := prog_1_method_26_code
def yX10_playerWithRank : MethodName := ⟨RX10, "playerWithRank", "(I)I"⟩
abbrev cX10_longestRun : ByteArray := prog_1_method_27_code
def yX10_longestRun : MethodName := ⟨RX10, "longestRun", "(I)I"⟩
abbrev cX10_findPlayer : ByteArray := prog_1_method_28_code
def yX10_findPlayer : MethodName := ⟨RX10, "findPlayer", "()I"⟩
abbrev cX10_throwsOfPair : ByteArray := prog_1_method_29_code
def yX10_throwsOfPair : MethodName := ⟨RX10, "throwsOfPair", "(II)I"⟩
abbrev cX10_frequency : ByteArray := prog_1_method_30_code
def yX10_frequency : MethodName := ⟨RX10, "frequency", "(III)I"⟩
abbrev cX10_commonFace : ByteArray := prog_1_method_31_code
def yX10_commonFace : MethodName := ⟨RX10, "commonFace", "(II)I"⟩
abbrev cX10_facesSeen : ByteArray := prog_1_method_32_code
def yX10_facesSeen : MethodName := ⟨RX10, "facesSeen", "(II)I"⟩
abbrev cX10_latestThrow : ByteArray := prog_1_method_33_code
def yX10_latestThrow : MethodName := ⟨RX10, "latestThrow", "(II)I"⟩
abbrev cX10_score : ByteArray := prog_1_method_34_code
def yX10_score : MethodName := ⟨RX10, "score", "(II)I"⟩
abbrev cX10_isSuspicious : ByteArray := prog_1_method_35_code
def yX10_isSuspicious : MethodName := ⟨RX10, "isSuspicious", "(II)Z"⟩
abbrev cX10_suspiciousPairs : ByteArray := prog_1_method_36_code
def yX10_suspiciousPairs : MethodName := ⟨RX10, "suspiciousPairs", "()I"⟩
abbrev cX10_worstPair : ByteArray := prog_1_method_37_code
def yX10_worstPair : MethodName := ⟨RX10, "worstPair", "()I"⟩
abbrev cX10_offenceCount : ByteArray := prog_1_method_38_code
def yX10_offenceCount : MethodName := ⟨RX10, "offenceCount", "()I"⟩
abbrev cX10_offencePlayer : ByteArray := prog_1_method_39_code
def yX10_offencePlayer : MethodName := ⟨RX10, "offencePlayer", "(I)I"⟩
abbrev cX10_offenceDie : ByteArray := prog_1_method_40_code
def yX10_offenceDie : MethodName := ⟨RX10, "offenceDie", "(I)I"⟩
abbrev cX10_offenceScore : ByteArray := prog_1_method_41_code
def yX10_offenceScore : MethodName := ⟨RX10, "offenceScore", "(I)I"⟩
abbrev cX10_offencesOf : ByteArray := prog_1_method_42_code
def yX10_offencesOf : MethodName := ⟨RX10, "offencesOf", "(I)I"⟩
abbrev cX10_nextFace : ByteArray := prog_1_method_43_code
def yX10_nextFace : MethodName := ⟨RX10, "nextFace", "(I)I"⟩
abbrev cX10_faceAfter : ByteArray := prog_1_method_44_code
def yX10_faceAfter : MethodName := ⟨RX10, "faceAfter", "(II)I"⟩
abbrev cX10_throwsUntil : ByteArray := prog_1_method_45_code
def yX10_throwsUntil : MethodName := ⟨RX10, "throwsUntil", "(II)I"⟩
abbrev cX10_scoreAfter : ByteArray := prog_1_method_46_code
def yX10_scoreAfter : MethodName := ⟨RX10, "scoreAfter", "(III)I"⟩
abbrev cX10_throwsUntilSuspicious : ByteArray := prog_1_method_47_code
def yX10_throwsUntilSuspicious : MethodName := ⟨RX10, "throwsUntilSuspicious", "(II)I"⟩
abbrev cX10_penanceNow : ByteArray := prog_1_method_48_code
def yX10_penanceNow : MethodName := ⟨RX10, "penanceNow", "()I"⟩
abbrev cX10_frequencyDifference : ByteArray := prog_1_method_49_code
def yX10_frequencyDifference : MethodName := ⟨RX10, "frequencyDifference", "()I"⟩
abbrev cX10_totalDifference : ByteArray := prog_1_method_50_code
def yX10_totalDifference : MethodName := ⟨RX10, "totalDifference", "()I"⟩
abbrev cX10_fairShare : ByteArray := prog_1_method_51_code
def yX10_fairShare : MethodName := ⟨RX10, "fairShare", "()F"⟩
abbrev cX10_throwDie : ByteArray := prog_1_method_52_code
def yX10_throwDie : MethodName := ⟨RX10, "throwDie", "(III)I"⟩
abbrev cX10_audit : ByteArray := prog_1_method_53_code
def yX10_audit : MethodName := ⟨RX10, "audit", "()I"⟩
abbrev cX10_absolve : ByteArray := prog_1_method_54_code
def yX10_absolve : MethodName := ⟨RX10, "absolve", "()I"⟩
abbrev cX10_forgive : ByteArray := prog_1_method_55_code
def yX10_forgive : MethodName := ⟨RX10, "forgive", "(I)I"⟩
abbrev cX10_setWeight : ByteArray := prog_1_method_56_code
def yX10_setWeight : MethodName := ⟨RX10, "setWeight", "(III)I"⟩
abbrev cX10_setSeed : ByteArray := prog_1_method_57_code
def yX10_setSeed : MethodName := ⟨RX10, "setSeed", "(I)I"⟩
abbrev cX10_setLimits : ByteArray := prog_1_method_58_code
def yX10_setLimits : MethodName := ⟨RX10, "setLimits", "(II)I"⟩
abbrev cX10_writeRecords : ByteArray := prog_1_method_59_code
def yX10_writeRecords : MethodName := ⟨RX10, "writeRecords", "()I"⟩
abbrev cX10_writeFaces : ByteArray := prog_1_method_60_code
def yX10_writeFaces : MethodName := ⟨RX10, "writeFaces", "(I)I"⟩
abbrev cX10_outputByte : ByteArray := prog_1_method_61_code
def yX10_outputByte : MethodName := ⟨RX10, "outputByte", "(I)I"⟩
abbrev cX10_save : ByteArray := prog_1_method_62_code
def yX10_save : MethodName := ⟨RX10, "save", "(I)I"⟩
abbrev cX10_restore : ByteArray := prog_1_method_63_code
def yX10_restore : MethodName := ⟨RX10, "restore", "(I)I"⟩
abbrev cX10_undo : ByteArray := prog_1_method_64_code
def yX10_undo : MethodName := ⟨RX10, "undo", "()I"⟩
abbrev cX10_undoDepth : ByteArray := prog_1_method_65_code
def yX10_undoDepth : MethodName := ⟨RX10, "undoDepth", "()I"⟩
abbrev cX10_writeRecordOf : ByteArray := prog_1_method_66_code
def yX10_writeRecordOf : MethodName := ⟨RX10, "writeRecordOf", "(I)V"⟩
abbrev cX10_requireDie : ByteArray := prog_1_method_67_code
def yX10_requireDie : MethodName := ⟨RX10, "requireDie", "(I)V"⟩
abbrev cX10_requirePlayer : ByteArray := prog_1_method_68_code
def yX10_requirePlayer : MethodName := ⟨RX10, "requirePlayer", "(I)V"⟩
abbrev cX10_requirePair : ByteArray := prog_1_method_69_code
def yX10_requirePair : MethodName := ⟨RX10, "requirePair", "(II)V"⟩
abbrev cX10_requireThrow : ByteArray := prog_1_method_70_code
def yX10_requireThrow : MethodName := ⟨RX10, "requireThrow", "(I)V"⟩
abbrev cX10_requireOffence : ByteArray := prog_1_method_71_code
def yX10_requireOffence : MethodName := ⟨RX10, "requireOffence", "(I)V"⟩
abbrev cX10_requireFace : ByteArray := prog_1_method_72_code
def yX10_requireFace : MethodName := ⟨RX10, "requireFace", "(II)V"⟩
abbrev cX10_requireSlot : ByteArray := prog_1_method_73_code
def yX10_requireSlot : MethodName := ⟨RX10, "requireSlot", "(I)V"⟩
abbrev cX10_requireIndex : ByteArray := prog_1_method_74_code
def yX10_requireIndex : MethodName := ⟨RX10, "requireIndex", "(II)V"⟩
abbrev cX10_requireRange : ByteArray := prog_1_method_75_code
def yX10_requireRange : MethodName := ⟨RX10, "requireRange", "(III)V"⟩
abbrev cX10_at : ByteArray := prog_1_method_76_code
def yX10_at : MethodName := ⟨RX10, "at", "([II)I"⟩
abbrev cX10_put : ByteArray := prog_1_method_77_code
def yX10_put : MethodName := ⟨RX10, "put", "([III)V"⟩
abbrev cX10_copyRow : ByteArray := prog_1_method_78_code
def yX10_copyRow : MethodName := ⟨RX10, "copyRow", "([I[I)V"⟩
abbrev cX10_sumOf : ByteArray := prog_1_method_79_code
def yX10_sumOf : MethodName := ⟨RX10, "sumOf", "([III)I"⟩
abbrev cX10_greatestCell : ByteArray := prog_1_method_80_code
def yX10_greatestCell : MethodName := ⟨RX10, "greatestCell", "([III)I"⟩
abbrev cX10_testScore : ByteArray := prog_1_method_81_code
def yX10_testScore : MethodName := ⟨RX10, "testScore", "([III)I"⟩
abbrev cX10_nextSeed : ByteArray := prog_1_method_82_code
def yX10_nextSeed : MethodName := ⟨RX10, "nextSeed", "(I)I"⟩
abbrev cX10_pairOf : ByteArray := prog_1_method_83_code
def yX10_pairOf : MethodName := ⟨RX10, "pairOf", "(II)I"⟩
abbrev cX10_playerOf : ByteArray := prog_1_method_84_code
def yX10_playerOf : MethodName := ⟨RX10, "playerOf", "(I)I"⟩
abbrev cX10_dieOf : ByteArray := prog_1_method_85_code
def yX10_dieOf : MethodName := ⟨RX10, "dieOf", "(I)I"⟩
abbrev cX10_cellOf : ByteArray := prog_1_method_86_code
def yX10_cellOf : MethodName := ⟨RX10, "cellOf", "(II)I"⟩
def RX11 : String := "DiceAuditModel"
def TX11 : u_T := fun k => match k with
  | 0 => ("DiceAuditModel", "s", "[I", true)
  | 1 => ("DiceAuditModel", "parsed", "[I", true)
  | 2 => ("DiceAuditModel", "remembered", "[I", true)
  | 3 => ("DiceAuditModel", "slots", "[I", true)
  | 4 => ("DiceAuditModel", "kept", "[Z", true)
  | 5 => ("DiceAuditModel", "undoable", "I", false)
  | 6 => ("DiceAuditModel", "undoStart", "I", false)
  | 7 => ("DiceAuditModel", "thrown", "I", false)
  | 8 => ("DiceAuditModel", "often", "[I", true)
  | 9 => ("DiceAuditModel", "oftenAll", "I", false)
  | 10 => ("DiceAuditModel", "input", "[I", true)
  | 11 => ("DiceAuditModel", "inputLength", "I", false)
  | 12 => ("DiceAuditModel", "position", "I", false)
  | 13 => ("DiceAuditModel", "start", "I", false)
  | 14 => ("DiceAuditModel", "token", "I", false)
  | 15 => ("DiceAuditModel", "value", "I", false)
  | 16 => ("DiceAuditModel", "letters", "I", false)
  | 17 => ("DiceAuditModel", "code", "I", false)
  | 18 => ("DiceAuditModel", "place", "I", false)
  | 19 => ("DiceAuditModel", "output", "[B", true)
  | _ => ("DiceAuditModel", "outputLength", "I", false)
def tyX11 : Nat → FieldType := fun k => match k with
  | 0 => .array .int
  | 1 => .array .int
  | 2 => .array .int
  | 3 => .array .int
  | 4 => .array .boolean
  | 5 => .int
  | 6 => .int
  | 7 => .int
  | 8 => .array .int
  | 9 => .int
  | 10 => .array .int
  | 11 => .int
  | 12 => .int
  | 13 => .int
  | 14 => .int
  | 15 => .int
  | 16 => .int
  | 17 => .int
  | 18 => .int
  | 19 => .array .byte
  | _ => .int
abbrev wsX110 : List Cond := u_ws RX11 TX11 21
theorem nmX11 : ∀ a, a < 21 → ∀ b, b < 21 → a ≠ b → (TX11 a).2.1 ≠ (TX11 b).2.1 := by decide +kernel
theorem tyX11_ok : ∀ k, k < 21 → parseFieldDescriptor (TX11 k).2.2.1 = some (tyX11 k) := by decide +kernel
abbrev cX11_init : ByteArray := prog_13_method_1_code
def yX11_init : MethodName := ⟨RX11, "<init>", "()V"⟩
abbrev cX11_layInput : ByteArray := prog_13_method_2_code
def yX11_layInput : MethodName := ⟨RX11, "layInput", "(Ljava/lang/String;)V"⟩
abbrev cX11_thrown : ByteArray := prog_13_method_3_code
def yX11_thrown : MethodName := ⟨RX11, "thrown", "()I"⟩
abbrev cX11_refuses : ByteArray := prog_13_method_4_code
def yX11_refuses : MethodName := ⟨RX11, "refuses", "(ZI)Z"⟩
abbrev cX11_isBetween : ByteArray := prog_13_method_5_code
def yX11_isBetween : MethodName := ⟨RX11, "isBetween", "(III)Z"⟩
abbrev cX11_copyRow : ByteArray := prog_13_method_6_code
def yX11_copyRow : MethodName := ⟨RX11, "copyRow", "([II[II)V"⟩
abbrev cX11_ofDie : ByteArray := prog_13_method_7_code
def yX11_ofDie : MethodName := ⟨RX11, "ofDie", "(I)I"⟩
abbrev cX11_ofThrow : ByteArray := prog_13_method_8_code
def yX11_ofThrow : MethodName := ⟨RX11, "ofThrow", "(I)I"⟩
abbrev cX11_ofOffence : ByteArray := prog_13_method_9_code
def yX11_ofOffence : MethodName := ⟨RX11, "ofOffence", "(I)I"⟩
abbrev cX11_facesOf : ByteArray := prog_13_method_10_code
def yX11_facesOf : MethodName := ⟨RX11, "facesOf", "([II)I"⟩
abbrev cX11_weight : ByteArray := prog_13_method_11_code
def yX11_weight : MethodName := ⟨RX11, "weight", "([III)I"⟩
abbrev cX11_allWeights : ByteArray := prog_13_method_12_code
def yX11_allWeights : MethodName := ⟨RX11, "allWeights", "([II)I"⟩
abbrev cX11_nextSeed : ByteArray := prog_13_method_13_code
def yX11_nextSeed : MethodName := ⟨RX11, "nextSeed", "(I)I"⟩
abbrev cX11_faceBy : ByteArray := prog_13_method_14_code
def yX11_faceBy : MethodName := ⟨RX11, "faceBy", "([III)I"⟩
abbrev cX11_enter : ByteArray := prog_13_method_15_code
def yX11_enter : MethodName := ⟨RX11, "enter", "([IIIII)V"⟩
abbrev cX11_throwMany : ByteArray := prog_13_method_16_code
def yX11_throwMany : MethodName := ⟨RX11, "throwMany", "([IIIIZ)I"⟩
abbrev cX11_isOf : ByteArray := prog_13_method_17_code
def yX11_isOf : MethodName := ⟨RX11, "isOf", "([IIII)Z"⟩
abbrev cX11_ofPair : ByteArray := prog_13_method_18_code
def yX11_ofPair : MethodName := ⟨RX11, "ofPair", "([III)I"⟩
abbrev cX11_countPair : ByteArray := prog_13_method_19_code
def yX11_countPair : MethodName := ⟨RX11, "countPair", "([III)V"⟩
abbrev cX11_scoreOfCounts : ByteArray := prog_13_method_20_code
def yX11_scoreOfCounts : MethodName := ⟨RX11, "scoreOfCounts", "(I)I"⟩
abbrev cX11_scoreOf : ByteArray := prog_13_method_21_code
def yX11_scoreOf : MethodName := ⟨RX11, "scoreOf", "([III)I"⟩
abbrev cX11_isBad : ByteArray := prog_13_method_22_code
def yX11_isBad : MethodName := ⟨RX11, "isBad", "([II)Z"⟩
abbrev cX11_suspects : ByteArray := prog_13_method_23_code
def yX11_suspects : MethodName := ⟨RX11, "suspects", "([III)Z"⟩
abbrev cX11_hasOffence : ByteArray := prog_13_method_24_code
def yX11_hasOffence : MethodName := ⟨RX11, "hasOffence", "([III)Z"⟩
abbrev cX11_isAhead : ByteArray := prog_13_method_25_code
def yX11_isAhead : MethodName := ⟨RX11, "isAhead", "([IIIII)Z"⟩
abbrev cX11_layOffence : ByteArray := prog_13_method_26_code
def yX11_layOffence : MethodName := ⟨RX11, "layOffence", "([IIII)V"⟩
abbrev cX11_holdAudit : ByteArray := prog_13_method_27_code
def yX11_holdAudit : MethodName := ⟨RX11, "holdAudit", "([I)I"⟩
abbrev cX11_dropOffence : ByteArray := prog_13_method_28_code
def yX11_dropOffence : MethodName := ⟨RX11, "dropOffence", "([II)V"⟩
abbrev cX11_dropThrow : ByteArray := prog_13_method_29_code
def yX11_dropThrow : MethodName := ⟨RX11, "dropThrow", "([II)V"⟩
abbrev cX11_penance : ByteArray := prog_13_method_30_code
def yX11_penance : MethodName := ⟨RX11, "penance", "([I)I"⟩
abbrev cX11_absolveFirst : ByteArray := prog_13_method_31_code
def yX11_absolveFirst : MethodName := ⟨RX11, "absolveFirst", "([I)I"⟩
abbrev cX11_offencesBy : ByteArray := prog_13_method_32_code
def yX11_offencesBy : MethodName := ⟨RX11, "offencesBy", "([II)I"⟩
abbrev cX11_forgiveAll : ByteArray := prog_13_method_33_code
def yX11_forgiveAll : MethodName := ⟨RX11, "forgiveAll", "([II)I"⟩
abbrev cX11_totalOf : ByteArray := prog_13_method_34_code
def yX11_totalOf : MethodName := ⟨RX11, "totalOf", "([II)I"⟩
abbrev cX11_throwsBy : ByteArray := prog_13_method_35_code
def yX11_throwsBy : MethodName := ⟨RX11, "throwsBy", "([II)I"⟩
abbrev cX11_rank : ByteArray := prog_13_method_36_code
def yX11_rank : MethodName := ⟨RX11, "rank", "([II)I"⟩
abbrev cX11_appendWord : ByteArray := prog_13_method_37_code
def yX11_appendWord : MethodName := ⟨RX11, "appendWord", "(I)V"⟩
abbrev cX11_appendInput : ByteArray := prog_13_method_38_code
def yX11_appendInput : MethodName := ⟨RX11, "appendInput", "(IIIII)I"⟩
abbrev cX11_truncateInput : ByteArray := prog_13_method_39_code
def yX11_truncateInput : MethodName := ⟨RX11, "truncateInput", "(I)I"⟩
abbrev cX11_errorCode : ByteArray := prog_13_method_40_code
def yX11_errorCode : MethodName := ⟨RX11, "errorCode", "()I"⟩
abbrev cX11_errorPosition : ByteArray := prog_13_method_41_code
def yX11_errorPosition : MethodName := ⟨RX11, "errorPosition", "()I"⟩
abbrev cX11_byteAt : ByteArray := prog_13_method_42_code
def yX11_byteAt : MethodName := ⟨RX11, "byteAt", "(I)I"⟩
abbrev cX11_isLetter : ByteArray := prog_13_method_43_code
def yX11_isLetter : MethodName := ⟨RX11, "isLetter", "(I)Z"⟩
abbrev cX11_advance : ByteArray := prog_13_method_44_code
def yX11_advance : MethodName := ⟨RX11, "advance", "()V"⟩
abbrev cX11_is : ByteArray := prog_13_method_45_code
def yX11_is : MethodName := ⟨RX11, "is", "(Ljava/lang/String;)Z"⟩
abbrev cX11_check : ByteArray := prog_13_method_46_code
def yX11_check : MethodName := ⟨RX11, "check", "(ZI)Z"⟩
abbrev cX11_next : ByteArray := prog_13_method_47_code
def yX11_next : MethodName := ⟨RX11, "next", "()V"⟩
abbrev cX11_look : ByteArray := prog_13_method_48_code
def yX11_look : MethodName := ⟨RX11, "look", "(II)I"⟩
abbrev cX11_number : ByteArray := prog_13_method_49_code
def yX11_number : MethodName := ⟨RX11, "number", "(II)I"⟩
abbrev cX11_semicolon : ByteArray := prog_13_method_50_code
def yX11_semicolon : MethodName := ⟨RX11, "semicolon", "()V"⟩
abbrev cX11_finish : ByteArray := prog_13_method_51_code
def yX11_finish : MethodName := ⟨RX11, "finish", "()V"⟩
abbrev cX11_nameFrom : ByteArray := prog_13_method_52_code
def yX11_nameFrom : MethodName := ⟨RX11, "nameFrom", "(II)I"⟩
abbrev cX11_named : ByteArray := prog_13_method_53_code
def yX11_named : MethodName := ⟨RX11, "named", "([II)I"⟩
abbrev cX11_readDie : ByteArray := prog_13_method_54_code
def yX11_readDie : MethodName := ⟨RX11, "readDie", "()V"⟩
abbrev cX11_readPlayer : ByteArray := prog_13_method_55_code
def yX11_readPlayer : MethodName := ⟨RX11, "readPlayer", "()V"⟩
abbrev cX11_player : ByteArray := prog_13_method_56_code
def yX11_player : MethodName := ⟨RX11, "player", "()I"⟩
abbrev cX11_readThrow : ByteArray := prog_13_method_57_code
def yX11_readThrow : MethodName := ⟨RX11, "readThrow", "()V"⟩
abbrev cX11_readAudit : ByteArray := prog_13_method_58_code
def yX11_readAudit : MethodName := ⟨RX11, "readAudit", "()V"⟩
abbrev cX11_readAbsolve : ByteArray := prog_13_method_59_code
def yX11_readAbsolve : MethodName := ⟨RX11, "readAbsolve", "()V"⟩
abbrev cX11_readForgive : ByteArray := prog_13_method_60_code
def yX11_readForgive : MethodName := ⟨RX11, "readForgive", "()V"⟩
abbrev cX11_readStatement : ByteArray := prog_13_method_61_code
def yX11_readStatement : MethodName := ⟨RX11, "readStatement", "()V"⟩
abbrev cX11_read : ByteArray := prog_13_method_62_code
def yX11_read : MethodName := ⟨RX11, "read", "()V"⟩
abbrev cX11_load : ByteArray := prog_13_method_63_code
def yX11_load : MethodName := ⟨RX11, "load", "()I"⟩
abbrev cX11_remember : ByteArray := prog_13_method_64_code
def yX11_remember : MethodName := ⟨RX11, "remember", "()V"⟩
abbrev cX11_undo : ByteArray := prog_13_method_65_code
def yX11_undo : MethodName := ⟨RX11, "undo", "()I"⟩
abbrev cX11_undoDepth : ByteArray := prog_13_method_66_code
def yX11_undoDepth : MethodName := ⟨RX11, "undoDepth", "()I"⟩
abbrev cX11_noNumber : ByteArray := prog_13_method_67_code
def yX11_noNumber : MethodName := ⟨RX11, "noNumber", "(III)Z"⟩
abbrev cX11_noDie : ByteArray := prog_13_method_68_code
def yX11_noDie : MethodName := ⟨RX11, "noDie", "(I)Z"⟩
abbrev cX11_noPlayer : ByteArray := prog_13_method_69_code
def yX11_noPlayer : MethodName := ⟨RX11, "noPlayer", "(I)Z"⟩
abbrev cX11_noPair : ByteArray := prog_13_method_70_code
def yX11_noPair : MethodName := ⟨RX11, "noPair", "(II)Z"⟩
abbrev cX11_noThrow : ByteArray := prog_13_method_71_code
def yX11_noThrow : MethodName := ⟨RX11, "noThrow", "(I)Z"⟩
abbrev cX11_noOffence : ByteArray := prog_13_method_72_code
def yX11_noOffence : MethodName := ⟨RX11, "noOffence", "(I)Z"⟩
abbrev cX11_out : ByteArray := prog_13_method_73_code
def yX11_out : MethodName := ⟨RX11, "out", "(III)Z"⟩
abbrev cX11_seed : ByteArray := prog_13_method_74_code
def yX11_seed : MethodName := ⟨RX11, "seed", "()I"⟩
abbrev cX11_minimum : ByteArray := prog_13_method_75_code
def yX11_minimum : MethodName := ⟨RX11, "minimum", "()I"⟩
abbrev cX11_threshold : ByteArray := prog_13_method_76_code
def yX11_threshold : MethodName := ⟨RX11, "threshold", "()I"⟩
abbrev cX11_dieCount : ByteArray := prog_13_method_77_code
def yX11_dieCount : MethodName := ⟨RX11, "dieCount", "()I"⟩
abbrev cX11_playerCount : ByteArray := prog_13_method_78_code
def yX11_playerCount : MethodName := ⟨RX11, "playerCount", "()I"⟩
abbrev cX11_throwCount : ByteArray := prog_13_method_79_code
def yX11_throwCount : MethodName := ⟨RX11, "throwCount", "()I"⟩
abbrev cX11_faces : ByteArray := prog_13_method_80_code
def yX11_faces : MethodName := ⟨RX11, "faces", "(I)I"⟩
abbrev cX11_weightOf : ByteArray := prog_13_method_81_code
def yX11_weightOf : MethodName := ⟨RX11, "weightOf", "(II)I"⟩
abbrev cX11_isBalanced : ByteArray := prog_13_method_82_code
def yX11_isBalanced : MethodName := ⟨RX11, "isBalanced", "(I)Z"⟩
abbrev cX11_heaviestFace : ByteArray := prog_13_method_83_code
def yX11_heaviestFace : MethodName := ⟨RX11, "heaviestFace", "(I)I"⟩
abbrev cX11_letterOf : ByteArray := prog_13_method_84_code
def yX11_letterOf : MethodName := ⟨RX11, "letterOf", "(II)I"⟩
abbrev cX11_lettersOf : ByteArray := prog_13_method_85_code
def yX11_lettersOf : MethodName := ⟨RX11, "lettersOf", "(I)I"⟩
abbrev cX11_nameByte : ByteArray := prog_13_method_86_code
def yX11_nameByte : MethodName := ⟨RX11, "nameByte", "(II)I"⟩
abbrev cX11_ofIt : ByteArray := prog_13_method_87_code
def yX11_ofIt : MethodName := ⟨RX11, "ofIt", "(II)I"⟩
abbrev cX11_playerAt : ByteArray := prog_13_method_88_code
def yX11_playerAt : MethodName := ⟨RX11, "playerAt", "(I)I"⟩
abbrev cX11_dieAt : ByteArray := prog_13_method_89_code
def yX11_dieAt : MethodName := ⟨RX11, "dieAt", "(I)I"⟩
abbrev cX11_faceAt : ByteArray := prog_13_method_90_code
def yX11_faceAt : MethodName := ⟨RX11, "faceAt", "(I)I"⟩
abbrev cX11_isFairAt : ByteArray := prog_13_method_91_code
def yX11_isFairAt : MethodName := ⟨RX11, "isFairAt", "(I)Z"⟩
abbrev cX11_throwsOf : ByteArray := prog_13_method_92_code
def yX11_throwsOf : MethodName := ⟨RX11, "throwsOf", "(I)I"⟩
abbrev cX11_total : ByteArray := prog_13_method_93_code
def yX11_total : MethodName := ⟨RX11, "total", "(I)I"⟩
abbrev cX11_meanFace : ByteArray := prog_13_method_94_code
def yX11_meanFace : MethodName := ⟨RX11, "meanFace", "(I)D"⟩
abbrev cX11_rankOf : ByteArray := prog_13_method_95_code
def yX11_rankOf : MethodName := ⟨RX11, "rankOf", "(I)I"⟩
abbrev cX11_playerWithRank : ByteArray := prog_13_method_96_code
def yX11_playerWithRank : MethodName := ⟨RX11, "playerWithRank", "(I)I"⟩
abbrev cX11_longestRun : ByteArray := prog_13_method_97_code
def yX11_longestRun : MethodName := ⟨RX11, "longestRun", "(I)I"⟩
abbrev cX11_findPlayer : ByteArray := prog_13_method_98_code
def yX11_findPlayer : MethodName := ⟨RX11, "findPlayer", "()I"⟩
abbrev cX11_throwsOfPair : ByteArray := prog_13_method_99_code
def yX11_throwsOfPair : MethodName := ⟨RX11, "throwsOfPair", "(II)I"⟩
abbrev cX11_frequency : ByteArray := prog_13_method_100_code
def yX11_frequency : MethodName := ⟨RX11, "frequency", "(III)I"⟩
abbrev cX11_commonFace : ByteArray := prog_13_method_101_code
def yX11_commonFace : MethodName := ⟨RX11, "commonFace", "(II)I"⟩
abbrev cX11_facesSeen : ByteArray := prog_13_method_102_code
def yX11_facesSeen : MethodName := ⟨RX11, "facesSeen", "(II)I"⟩
abbrev cX11_latestThrow : ByteArray := prog_13_method_103_code
def yX11_latestThrow : MethodName := ⟨RX11, "latestThrow", "(II)I"⟩
abbrev cX11_score : ByteArray := prog_13_method_104_code
def yX11_score : MethodName := ⟨RX11, "score", "(II)I"⟩
abbrev cX11_isSuspicious : ByteArray := prog_13_method_105_code
def yX11_isSuspicious : MethodName := ⟨RX11, "isSuspicious", "(II)Z"⟩
abbrev cX11_suspiciousIn : ByteArray := prog_13_method_106_code
def yX11_suspiciousIn : MethodName := ⟨RX11, "suspiciousIn", "()I"⟩
abbrev cX11_suspiciousPairs : ByteArray := prog_13_method_107_code
def yX11_suspiciousPairs : MethodName := ⟨RX11, "suspiciousPairs", "()I"⟩
abbrev cX11_worstPair : ByteArray := prog_13_method_108_code
def yX11_worstPair : MethodName := ⟨RX11, "worstPair", "()I"⟩
abbrev cX11_offenceCount : ByteArray := prog_13_method_109_code
def yX11_offenceCount : MethodName := ⟨RX11, "offenceCount", "()I"⟩
abbrev cX11_ofThat : ByteArray := prog_13_method_110_code
def yX11_ofThat : MethodName := ⟨RX11, "ofThat", "(II)I"⟩
abbrev cX11_offencePlayer : ByteArray := prog_13_method_111_code
def yX11_offencePlayer : MethodName := ⟨RX11, "offencePlayer", "(I)I"⟩
abbrev cX11_offenceDie : ByteArray := prog_13_method_112_code
def yX11_offenceDie : MethodName := ⟨RX11, "offenceDie", "(I)I"⟩
abbrev cX11_offenceScore : ByteArray := prog_13_method_113_code
def yX11_offenceScore : MethodName := ⟨RX11, "offenceScore", "(I)I"⟩
abbrev cX11_offencesOf : ByteArray := prog_13_method_114_code
def yX11_offencesOf : MethodName := ⟨RX11, "offencesOf", "(I)I"⟩
abbrev cX11_nextFace : ByteArray := prog_13_method_115_code
def yX11_nextFace : MethodName := ⟨RX11, "nextFace", "(I)I"⟩
abbrev cX11_faceAfter : ByteArray := prog_13_method_116_code
def yX11_faceAfter : MethodName := ⟨RX11, "faceAfter", "(II)I"⟩
abbrev cX11_throwsUntil : ByteArray := prog_13_method_117_code
def yX11_throwsUntil : MethodName := ⟨RX11, "throwsUntil", "(II)I"⟩
abbrev cX11_countThrow : ByteArray := prog_13_method_118_code
def yX11_countThrow : MethodName := ⟨RX11, "countThrow", "(II)I"⟩
abbrev cX11_scoreAfter : ByteArray := prog_13_method_119_code
def yX11_scoreAfter : MethodName := ⟨RX11, "scoreAfter", "(III)I"⟩
abbrev cX11_throwsUntilSuspicious : ByteArray := prog_13_method_120_code
def yX11_throwsUntilSuspicious : MethodName := ⟨RX11, "throwsUntilSuspicious", "(II)I"⟩
abbrev cX11_penanceNow : ByteArray := prog_13_method_121_code
def yX11_penanceNow : MethodName := ⟨RX11, "penanceNow", "()I"⟩
abbrev cX11_frequencyDifference : ByteArray := prog_13_method_122_code
def yX11_frequencyDifference : MethodName := ⟨RX11, "frequencyDifference", "()I"⟩
abbrev cX11_totalDifference : ByteArray := prog_13_method_123_code
def yX11_totalDifference : MethodName := ⟨RX11, "totalDifference", "()I"⟩
abbrev cX11_fairShare : ByteArray := prog_13_method_124_code
def yX11_fairShare : MethodName := ⟨RX11, "fairShare", "()F"⟩
abbrev cX11_throwDie : ByteArray := prog_13_method_125_code
def yX11_throwDie : MethodName := ⟨RX11, "throwDie", "(III)I"⟩
abbrev cX11_audit : ByteArray := prog_13_method_126_code
def yX11_audit : MethodName := ⟨RX11, "audit", "()I"⟩
abbrev cX11_absolve : ByteArray := prog_13_method_127_code
def yX11_absolve : MethodName := ⟨RX11, "absolve", "()I"⟩
abbrev cX11_forgive : ByteArray := prog_13_method_128_code
def yX11_forgive : MethodName := ⟨RX11, "forgive", "(I)I"⟩
abbrev cX11_setWeight : ByteArray := prog_13_method_129_code
def yX11_setWeight : MethodName := ⟨RX11, "setWeight", "(III)I"⟩
abbrev cX11_setSeed : ByteArray := prog_13_method_130_code
def yX11_setSeed : MethodName := ⟨RX11, "setSeed", "(I)I"⟩
abbrev cX11_setLimits : ByteArray := prog_13_method_131_code
def yX11_setLimits : MethodName := ⟨RX11, "setLimits", "(II)I"⟩
abbrev cX11_print : ByteArray := prog_13_method_132_code
def yX11_print : MethodName := ⟨RX11, "print", "(I)V"⟩
abbrev cX11_printNumber : ByteArray := prog_13_method_133_code
def yX11_printNumber : MethodName := ⟨RX11, "printNumber", "(I)V"⟩
abbrev cX11_printPlayer : ByteArray := prog_13_method_134_code
def yX11_printPlayer : MethodName := ⟨RX11, "printPlayer", "(I)V"⟩
abbrev cX11_byName : ByteArray := prog_13_method_135_code
def yX11_byName : MethodName := ⟨RX11, "byName", "(I)I"⟩
abbrev cX11_writeRecords : ByteArray := prog_13_method_136_code
def yX11_writeRecords : MethodName := ⟨RX11, "writeRecords", "()I"⟩
abbrev cX11_writeFaces : ByteArray := prog_13_method_137_code
def yX11_writeFaces : MethodName := ⟨RX11, "writeFaces", "(I)I"⟩
abbrev cX11_outputByte : ByteArray := prog_13_method_138_code
def yX11_outputByte : MethodName := ⟨RX11, "outputByte", "(I)I"⟩
abbrev cX11_save : ByteArray := prog_13_method_139_code
def yX11_save : MethodName := ⟨RX11, "save", "(I)I"⟩
abbrev cX11_restore : ByteArray := prog_13_method_140_code
def yX11_restore : MethodName := ⟨RX11, "restore", "(I)I"⟩
def RJx145de : String := "java/io/Serializable"
def RJx9f9b0 : String := "java/lang/CharSequence"
def RJxb160c : String := "java/lang/Comparable"
def RJ9 : String := "java/lang/Math"
abbrev cJ9_max_7cf53 : ByteArray := prog_21_method_65_code
def yJ9_max_7cf53 : MethodName := ⟨RJ9, "max", "(II)I"⟩
abbrev cJ9_min_7cf53 : ByteArray := prog_21_method_69_code
def yJ9_min_7cf53 : MethodName := ⟨RJ9, "min", "(II)I"⟩
def RJ0 : String := "java/lang/String"
abbrev cJ0_length_8abf5 : ByteArray := prog_23_method_54_code
def yJ0_length_8abf5 : MethodName := ⟨RJ0, "length", "()I"⟩
abbrev cJ0_charAt_5068e : ByteArray := prog_23_method_56_code
def yJ0_charAt_5068e : MethodName := ⟨RJ0, "charAt", "(I)C"⟩
abbrev cJ0_coder_7d493 : ByteArray := prog_23_method_152_code
def yJ0_coder_7d493 : MethodName := ⟨RJ0, "coder", "()B"⟩
abbrev cJ0_isLatin1_aae02 : ByteArray := prog_23_method_154_code
def yJ0_isLatin1_aae02 : MethodName := ⟨RJ0, "isLatin1", "()Z"⟩
abbrev cJ0_checkIndex_df160 : ByteArray := prog_23_method_155_code
def yJ0_checkIndex_df160 : MethodName := ⟨RJ0, "checkIndex", "(II)V"⟩
def RJ1 : String := "java/lang/StringLatin1"
abbrev cJ1_charAt_3b067 : ByteArray := prog_24_method_2_code
def yJ1_charAt_3b067 : MethodName := ⟨RJ1, "charAt", "([BI)C"⟩
def RJ2 : String := "java/lang/StringUTF16"
abbrev cJ2_getChar_3b067 : ByteArray := prog_25_method_5_code
def yJ2_getChar_3b067 : MethodName := ⟨RJ2, "getChar", "([BI)C"⟩
abbrev cJ2_length_9d52b : ByteArray := prog_25_method_6_code
def yJ2_length_9d52b : MethodName := ⟨RJ2, "length", "([B)I"⟩
abbrev cJ2_charAt_3b067 : ByteArray := prog_25_method_83_code
def yJ2_charAt_3b067 : MethodName := ⟨RJ2, "charAt", "([BI)C"⟩
abbrev cJ2_checkIndex_2214a : ByteArray := prog_25_method_91_code
def yJ2_checkIndex_2214a : MethodName := ⟨RJ2, "checkIndex", "(I[B)V"⟩
def RJ10 : String := "java/lang/System"
def RJxfd54e : String := "java/lang/constant/Constable"
def RJx3cf43 : String := "java/lang/constant/ConstantDesc"
def RJ7 : String := "java/util/Arrays"
abbrev cJ7_fill_53178 : ByteArray := prog_30_method_103_code
def yJ7_fill_53178 : MethodName := ⟨RJ7, "fill", "([II)V"⟩
def RJ3 : String := "jdk/internal/util/Preconditions"
abbrev cJ3_checkIndex_8e157 : ByteArray := prog_32_method_11_code
def yJ3_checkIndex_8e157 : MethodName := ⟨RJ3, "checkIndex", "(IILjava/util/function/BiFunction;)I"⟩
def RL : String := "DiceAuditLaw"
abbrev cL_appendInput : ByteArray := method_3_code
def yL_appendInput : MethodName := ⟨RL, "appendInput", "(LDiceAudit;IIIII[J)I"⟩
abbrev cL_truncateInput : ByteArray := method_4_code
def yL_truncateInput : MethodName := ⟨RL, "truncateInput", "(LDiceAudit;I[J)I"⟩
abbrev cL_load : ByteArray := method_5_code
def yL_load : MethodName := ⟨RL, "load", "(LDiceAudit;[J)I"⟩
abbrev cL_faces : ByteArray := method_6_code
def yL_faces : MethodName := ⟨RL, "faces", "(LDiceAudit;I[J)I"⟩
abbrev cL_weightOf : ByteArray := method_7_code
def yL_weightOf : MethodName := ⟨RL, "weightOf", "(LDiceAudit;II[J)I"⟩
abbrev cL_isBalanced : ByteArray := method_8_code
def yL_isBalanced : MethodName := ⟨RL, "isBalanced", "(LDiceAudit;I[J)I"⟩
abbrev cL_heaviestFace : ByteArray := method_9_code
def yL_heaviestFace : MethodName := ⟨RL, "heaviestFace", "(LDiceAudit;I[J)I"⟩
abbrev cL_nameByte : ByteArray := method_10_code
def yL_nameByte : MethodName := ⟨RL, "nameByte", "(LDiceAudit;II[J)I"⟩
abbrev cL_playerAt : ByteArray := method_11_code
def yL_playerAt : MethodName := ⟨RL, "playerAt", "(LDiceAudit;I[J)I"⟩
abbrev cL_dieAt : ByteArray := method_12_code
def yL_dieAt : MethodName := ⟨RL, "dieAt", "(LDiceAudit;I[J)I"⟩
abbrev cL_faceAt : ByteArray := method_13_code
def yL_faceAt : MethodName := ⟨RL, "faceAt", "(LDiceAudit;I[J)I"⟩
abbrev cL_isFairAt : ByteArray := method_14_code
def yL_isFairAt : MethodName := ⟨RL, "isFairAt", "(LDiceAudit;I[J)I"⟩
abbrev cL_throwsOf : ByteArray := method_15_code
def yL_throwsOf : MethodName := ⟨RL, "throwsOf", "(LDiceAudit;I[J)I"⟩
abbrev cL_total : ByteArray := method_16_code
def yL_total : MethodName := ⟨RL, "total", "(LDiceAudit;I[J)I"⟩
abbrev cL_meanFace : ByteArray := method_17_code
def yL_meanFace : MethodName := ⟨RL, "meanFace", "(LDiceAudit;I[D)I"⟩
abbrev cL_rankOf : ByteArray := method_18_code
def yL_rankOf : MethodName := ⟨RL, "rankOf", "(LDiceAudit;I[J)I"⟩
abbrev cL_playerWithRank : ByteArray := method_19_code
def yL_playerWithRank : MethodName := ⟨RL, "playerWithRank", "(LDiceAudit;I[J)I"⟩
abbrev cL_longestRun : ByteArray := method_20_code
def yL_longestRun : MethodName := ⟨RL, "longestRun", "(LDiceAudit;I[J)I"⟩
abbrev cL_throwsOfPair : ByteArray := method_21_code
def yL_throwsOfPair : MethodName := ⟨RL, "throwsOfPair", "(LDiceAudit;II[J)I"⟩
abbrev cL_frequency : ByteArray := method_22_code
def yL_frequency : MethodName := ⟨RL, "frequency", "(LDiceAudit;III[J)I"⟩
abbrev cL_commonFace : ByteArray := method_23_code
def yL_commonFace : MethodName := ⟨RL, "commonFace", "(LDiceAudit;II[J)I"⟩
abbrev cL_facesSeen : ByteArray := method_24_code
def yL_facesSeen : MethodName := ⟨RL, "facesSeen", "(LDiceAudit;II[J)I"⟩
abbrev cL_latestThrow : ByteArray := method_25_code
def yL_latestThrow : MethodName := ⟨RL, "latestThrow", "(LDiceAudit;II[J)I"⟩
abbrev cL_score : ByteArray := method_26_code
def yL_score : MethodName := ⟨RL, "score", "(LDiceAudit;II[J)I"⟩
abbrev cL_isSuspicious : ByteArray := method_27_code
def yL_isSuspicious : MethodName := ⟨RL, "isSuspicious", "(LDiceAudit;II[J)I"⟩
abbrev cL_offencePlayer : ByteArray := method_28_code
def yL_offencePlayer : MethodName := ⟨RL, "offencePlayer", "(LDiceAudit;I[J)I"⟩
abbrev cL_offenceDie : ByteArray := method_29_code
def yL_offenceDie : MethodName := ⟨RL, "offenceDie", "(LDiceAudit;I[J)I"⟩
abbrev cL_offenceScore : ByteArray := method_30_code
def yL_offenceScore : MethodName := ⟨RL, "offenceScore", "(LDiceAudit;I[J)I"⟩
abbrev cL_offencesOf : ByteArray := method_31_code
def yL_offencesOf : MethodName := ⟨RL, "offencesOf", "(LDiceAudit;I[J)I"⟩
abbrev cL_nextFace : ByteArray := method_32_code
def yL_nextFace : MethodName := ⟨RL, "nextFace", "(LDiceAudit;I[J)I"⟩
abbrev cL_faceAfter : ByteArray := method_33_code
def yL_faceAfter : MethodName := ⟨RL, "faceAfter", "(LDiceAudit;II[J)I"⟩
abbrev cL_throwsUntil : ByteArray := method_34_code
def yL_throwsUntil : MethodName := ⟨RL, "throwsUntil", "(LDiceAudit;II[J)I"⟩
abbrev cL_scoreAfter : ByteArray := method_35_code
def yL_scoreAfter : MethodName := ⟨RL, "scoreAfter", "(LDiceAudit;III[J)I"⟩
abbrev cL_throwsUntilSuspicious : ByteArray := method_36_code
def yL_throwsUntilSuspicious : MethodName := ⟨RL, "throwsUntilSuspicious", "(LDiceAudit;II[J)I"⟩
abbrev cL_throwDie : ByteArray := method_37_code
def yL_throwDie : MethodName := ⟨RL, "throwDie", "(LDiceAudit;III[J)I"⟩
abbrev cL_absolve : ByteArray := method_38_code
def yL_absolve : MethodName := ⟨RL, "absolve", "(LDiceAudit;[J)I"⟩
abbrev cL_forgive : ByteArray := method_39_code
def yL_forgive : MethodName := ⟨RL, "forgive", "(LDiceAudit;I[J)I"⟩
abbrev cL_setWeight : ByteArray := method_40_code
def yL_setWeight : MethodName := ⟨RL, "setWeight", "(LDiceAudit;III[J)I"⟩
abbrev cL_setSeed : ByteArray := method_41_code
def yL_setSeed : MethodName := ⟨RL, "setSeed", "(LDiceAudit;I[J)I"⟩
abbrev cL_setLimits : ByteArray := method_42_code
def yL_setLimits : MethodName := ⟨RL, "setLimits", "(LDiceAudit;II[J)I"⟩
abbrev cL_writeFaces : ByteArray := method_43_code
def yL_writeFaces : MethodName := ⟨RL, "writeFaces", "(LDiceAudit;I[J)I"⟩
abbrev cL_outputByte : ByteArray := method_44_code
def yL_outputByte : MethodName := ⟨RL, "outputByte", "(LDiceAudit;I[J)I"⟩
abbrev cL_save : ByteArray := method_45_code
def yL_save : MethodName := ⟨RL, "save", "(LDiceAudit;I[J)I"⟩
abbrev cL_restore : ByteArray := method_46_code
def yL_restore : MethodName := ⟨RL, "restore", "(LDiceAudit;I[J)I"⟩
abbrev cL_undo : ByteArray := method_47_code
def yL_undo : MethodName := ⟨RL, "undo", "(LDiceAudit;[J)I"⟩
abbrev cL_law : ByteArray := code
def yL_law : MethodName := ⟨RL, "law", "([I)Z"⟩
theorem dX0_init_0 : decode cX0_init 0 = .ok (.aload_n 0, 1) := by decide +kernel
theorem dX0_init_1 : decode cX0_init 1 = .ok (.invokespecial 3, 3) := by decide +kernel
theorem dX0_init_4 : decode cX0_init 4 = .ok (.aload_n 0, 1) := by decide +kernel
theorem dX0_init_5 : decode cX0_init 5 = .ok (.bipush 6, 2) := by decide +kernel
theorem dX0_init_7 : decode cX0_init 7 = .ok (.newarray .int, 2) := by decide +kernel
theorem dX0_init_9 : decode cX0_init 9 = .ok (.putfield 9, 3) := by decide +kernel
theorem dX0_init_12 : decode cX0_init 12 = .ok (.aload_n 0, 1) := by decide +kernel
theorem dX0_init_13 : decode cX0_init 13 = .ok (.bipush 72, 2) := by decide +kernel
theorem dX0_init_15 : decode cX0_init 15 = .ok (.newarray .int, 2) := by decide +kernel
theorem dX0_init_17 : decode cX0_init 17 = .ok (.putfield 15, 3) := by decide +kernel
theorem dX0_init_20 : decode cX0_init 20 = .ok (.aload_n 0, 1) := by decide +kernel
theorem dX0_init_21 : decode cX0_init 21 = .ok (.iconst 0, 1) := by decide +kernel
theorem dX0_init_22 : decode cX0_init 22 = .ok (.putfield 18, 3) := by decide +kernel
theorem dX0_init_25 : decode cX0_init 25 = .ok (.return_, 1) := by decide +kernel
theorem dX0_clear_0 : decode cX0_clear 0 = .ok (.aload_n 0, 1) := by decide +kernel
theorem dX0_clear_1 : decode cX0_clear 1 = .ok (.iconst 0, 1) := by decide +kernel
theorem dX0_clear_2 : decode cX0_clear 2 = .ok (.putfield 18, 3) := by decide +kernel
theorem dX0_clear_5 : decode cX0_clear 5 = .ok (.return_, 1) := by decide +kernel
theorem dX0_copyFrom_0 : decode cX0_copyFrom 0 = .ok (.aload_n 0, 1) := by decide +kernel
theorem dX0_copyFrom_1 : decode cX0_copyFrom 1 = .ok (.aload_n 1, 1) := by decide +kernel
theorem dX0_copyFrom_2 : decode cX0_copyFrom 2 = .ok (.getfield 18, 3) := by decide +kernel
theorem dX0_copyFrom_5 : decode cX0_copyFrom 5 = .ok (.putfield 18, 3) := by decide +kernel
theorem dX0_copyFrom_8 : decode cX0_copyFrom 8 = .ok (.aload_n 1, 1) := by decide +kernel
theorem dX0_copyFrom_9 : decode cX0_copyFrom 9 = .ok (.getfield 9, 3) := by decide +kernel
theorem dX0_copyFrom_12 : decode cX0_copyFrom 12 = .ok (.aload_n 0, 1) := by decide +kernel
theorem dX0_copyFrom_13 : decode cX0_copyFrom 13 = .ok (.getfield 9, 3) := by decide +kernel
theorem dX0_copyFrom_16 : decode cX0_copyFrom 16 = .ok (.invokestatic 22, 3) := by decide +kernel
theorem dX0_copyFrom_19 : decode cX0_copyFrom 19 = .ok (.aload_n 1, 1) := by decide +kernel
theorem dX0_copyFrom_20 : decode cX0_copyFrom 20 = .ok (.getfield 15, 3) := by decide +kernel
theorem dX0_copyFrom_23 : decode cX0_copyFrom 23 = .ok (.aload_n 0, 1) := by decide +kernel
theorem dX0_copyFrom_24 : decode cX0_copyFrom 24 = .ok (.getfield 15, 3) := by decide +kernel
theorem dX0_copyFrom_27 : decode cX0_copyFrom 27 = .ok (.invokestatic 22, 3) := by decide +kernel
theorem dX0_copyFrom_30 : decode cX0_copyFrom 30 = .ok (.return_, 1) := by decide +kernel
theorem dX0_add_0 : decode cX0_add 0 = .ok (.aload_n 0, 1) := by decide +kernel
theorem dX0_add_1 : decode cX0_add 1 = .ok (.getfield 18, 3) := by decide +kernel
theorem dX0_add_4 : decode cX0_add 4 = .ok (.bipush 6, 2) := by decide +kernel
theorem dX0_add_6 : decode cX0_add 6 = .ok (.if_icmp .ge 25, 3) := by decide +kernel
theorem dX0_add_9 : decode cX0_add 9 = .ok (.aload_n 0, 1) := by decide +kernel
theorem dX0_add_10 : decode cX0_add 10 = .ok (.getfield 9, 3) := by decide +kernel
theorem dX0_add_13 : decode cX0_add 13 = .ok (.aload_n 0, 1) := by decide +kernel
theorem dX0_add_14 : decode cX0_add 14 = .ok (.getfield 18, 3) := by decide +kernel
theorem dX0_add_17 : decode cX0_add 17 = .ok (.iload_n 1, 1) := by decide +kernel
theorem dX0_add_18 : decode cX0_add 18 = .ok (.invokestatic 26, 3) := by decide +kernel
theorem dX0_add_21 : decode cX0_add 21 = .ok (.aload_n 0, 1) := by decide +kernel
theorem dX0_add_22 : decode cX0_add 22 = .ok (.dup, 1) := by decide +kernel
theorem dX0_add_23 : decode cX0_add 23 = .ok (.getfield 18, 3) := by decide +kernel
theorem dX0_add_26 : decode cX0_add 26 = .ok (.iconst 1, 1) := by decide +kernel
theorem dX0_add_27 : decode cX0_add 27 = .ok (.iadd, 1) := by decide +kernel
theorem dX0_add_28 : decode cX0_add 28 = .ok (.putfield 18, 3) := by decide +kernel
theorem dX0_add_31 : decode cX0_add 31 = .ok (.return_, 1) := by decide +kernel
theorem dX0_faceCount_0 : decode cX0_faceCount 0 = .ok (.aload_n 0, 1) := by decide +kernel
theorem dX0_faceCount_1 : decode cX0_faceCount 1 = .ok (.getfield 9, 3) := by decide +kernel
theorem dX0_faceCount_4 : decode cX0_faceCount 4 = .ok (.iload_n 1, 1) := by decide +kernel
theorem dX0_faceCount_5 : decode cX0_faceCount 5 = .ok (.invokestatic 30, 3) := by decide +kernel
theorem dX0_faceCount_8 : decode cX0_faceCount 8 = .ok (.ireturn, 1) := by decide +kernel
theorem dX0_weight_0 : decode cX0_weight 0 = .ok (.aload_n 0, 1) := by decide +kernel
theorem dX0_weight_1 : decode cX0_weight 1 = .ok (.getfield 15, 3) := by decide +kernel
theorem dX0_weight_4 : decode cX0_weight 4 = .ok (.iload_n 1, 1) := by decide +kernel
theorem dX0_weight_5 : decode cX0_weight 5 = .ok (.iload_n 2, 1) := by decide +kernel
theorem dX0_weight_6 : decode cX0_weight 6 = .ok (.invokestatic 34, 3) := by decide +kernel
theorem dX0_weight_9 : decode cX0_weight 9 = .ok (.invokestatic 30, 3) := by decide +kernel
theorem dX0_weight_12 : decode cX0_weight 12 = .ok (.ireturn, 1) := by decide +kernel
theorem dX0_putWeight_0 : decode cX0_putWeight 0 = .ok (.aload_n 0, 1) := by decide +kernel
theorem dX0_putWeight_1 : decode cX0_putWeight 1 = .ok (.getfield 15, 3) := by decide +kernel
theorem dX0_putWeight_4 : decode cX0_putWeight 4 = .ok (.iload_n 1, 1) := by decide +kernel
theorem dX0_putWeight_5 : decode cX0_putWeight 5 = .ok (.iload_n 2, 1) := by decide +kernel
theorem dX0_putWeight_6 : decode cX0_putWeight 6 = .ok (.invokestatic 34, 3) := by decide +kernel
theorem dX0_putWeight_9 : decode cX0_putWeight 9 = .ok (.iload_n 3, 1) := by decide +kernel
theorem dX0_putWeight_10 : decode cX0_putWeight 10 = .ok (.invokestatic 26, 3) := by decide +kernel
theorem dX0_putWeight_13 : decode cX0_putWeight 13 = .ok (.return_, 1) := by decide +kernel
theorem dX0_weightSum_0 : decode cX0_weightSum 0 = .ok (.aload_n 0, 1) := by decide +kernel
theorem dX0_weightSum_1 : decode cX0_weightSum 1 = .ok (.getfield 15, 3) := by decide +kernel
theorem dX0_weightSum_4 : decode cX0_weightSum 4 = .ok (.iload_n 1, 1) := by decide +kernel
theorem dX0_weightSum_5 : decode cX0_weightSum 5 = .ok (.iconst 1, 1) := by decide +kernel
theorem dX0_weightSum_6 : decode cX0_weightSum 6 = .ok (.invokestatic 34, 3) := by decide +kernel
theorem dX0_weightSum_9 : decode cX0_weightSum 9 = .ok (.aload_n 0, 1) := by decide +kernel
theorem dX0_weightSum_10 : decode cX0_weightSum 10 = .ok (.iload_n 1, 1) := by decide +kernel
theorem dX0_weightSum_11 : decode cX0_weightSum 11 = .ok (.invokevirtual 38, 3) := by decide +kernel
theorem dX0_weightSum_14 : decode cX0_weightSum 14 = .ok (.invokestatic 42, 3) := by decide +kernel
theorem dX0_weightSum_17 : decode cX0_weightSum 17 = .ok (.ireturn, 1) := by decide +kernel
theorem dX0_hasEqualWeights_0 : decode cX0_hasEqualWeights 0 = .ok (.aload_n 0, 1) := by decide +kernel
theorem dX0_hasEqualWeights_1 : decode cX0_hasEqualWeights 1 = .ok (.iload_n 1, 1) := by decide +kernel
theorem dX0_hasEqualWeights_2 : decode cX0_hasEqualWeights 2 = .ok (.iconst 1, 1) := by decide +kernel
theorem dX0_hasEqualWeights_3 : decode cX0_hasEqualWeights 3 = .ok (.invokevirtual 46, 3) := by decide +kernel
theorem dX0_hasEqualWeights_6 : decode cX0_hasEqualWeights 6 = .ok (.istore_n 2, 1) := by decide +kernel
theorem dX0_hasEqualWeights_7 : decode cX0_hasEqualWeights 7 = .ok (.iconst 2, 1) := by decide +kernel
theorem dX0_hasEqualWeights_8 : decode cX0_hasEqualWeights 8 = .ok (.istore_n 3, 1) := by decide +kernel
theorem dX0_hasEqualWeights_9 : decode cX0_hasEqualWeights 9 = .ok (.iload_n 3, 1) := by decide +kernel
theorem dX0_hasEqualWeights_10 : decode cX0_hasEqualWeights 10 = .ok (.aload_n 0, 1) := by decide +kernel
theorem dX0_hasEqualWeights_11 : decode cX0_hasEqualWeights 11 = .ok (.iload_n 1, 1) := by decide +kernel
theorem dX0_hasEqualWeights_12 : decode cX0_hasEqualWeights 12 = .ok (.invokevirtual 38, 3) := by decide +kernel
theorem dX0_hasEqualWeights_15 : decode cX0_hasEqualWeights 15 = .ok (.if_icmp .gt 21, 3) := by decide +kernel
theorem dX0_hasEqualWeights_18 : decode cX0_hasEqualWeights 18 = .ok (.aload_n 0, 1) := by decide +kernel
theorem dX0_hasEqualWeights_19 : decode cX0_hasEqualWeights 19 = .ok (.iload_n 1, 1) := by decide +kernel
theorem dX0_hasEqualWeights_20 : decode cX0_hasEqualWeights 20 = .ok (.iload_n 3, 1) := by decide +kernel
theorem dX0_hasEqualWeights_21 : decode cX0_hasEqualWeights 21 = .ok (.invokevirtual 46, 3) := by decide +kernel
theorem dX0_hasEqualWeights_24 : decode cX0_hasEqualWeights 24 = .ok (.iload_n 2, 1) := by decide +kernel
theorem dX0_hasEqualWeights_25 : decode cX0_hasEqualWeights 25 = .ok (.if_icmp .eq 5, 3) := by decide +kernel
theorem dX0_hasEqualWeights_28 : decode cX0_hasEqualWeights 28 = .ok (.iconst 0, 1) := by decide +kernel
theorem dX0_hasEqualWeights_29 : decode cX0_hasEqualWeights 29 = .ok (.ireturn, 1) := by decide +kernel
theorem dX0_hasEqualWeights_30 : decode cX0_hasEqualWeights 30 = .ok (.iinc 3 1, 3) := by decide +kernel
theorem dX0_hasEqualWeights_33 : decode cX0_hasEqualWeights 33 = .ok (.goto (-24), 3) := by decide +kernel
theorem dX0_hasEqualWeights_36 : decode cX0_hasEqualWeights 36 = .ok (.iconst 1, 1) := by decide +kernel
theorem dX0_hasEqualWeights_37 : decode cX0_hasEqualWeights 37 = .ok (.ireturn, 1) := by decide +kernel
theorem dX0_faceShown_0 : decode cX0_faceShown 0 = .ok (.aload_n 0, 1) := by decide +kernel
theorem dX0_faceShown_1 : decode cX0_faceShown 1 = .ok (.getfield 9, 3) := by decide +kernel
theorem dX0_faceShown_4 : decode cX0_faceShown 4 = .ok (.iload_n 1, 1) := by decide +kernel
theorem dX0_faceShown_5 : decode cX0_faceShown 5 = .ok (.invokestatic 30, 3) := by decide +kernel
theorem dX0_faceShown_8 : decode cX0_faceShown 8 = .ok (.istore_n 3, 1) := by decide +kernel
theorem dX0_faceShown_9 : decode cX0_faceShown 9 = .ok (.aload_n 0, 1) := by decide +kernel
theorem dX0_faceShown_10 : decode cX0_faceShown 10 = .ok (.getfield 15, 3) := by decide +kernel
theorem dX0_faceShown_13 : decode cX0_faceShown 13 = .ok (.iload_n 1, 1) := by decide +kernel
theorem dX0_faceShown_14 : decode cX0_faceShown 14 = .ok (.iconst 1, 1) := by decide +kernel
theorem dX0_faceShown_15 : decode cX0_faceShown 15 = .ok (.invokestatic 34, 3) := by decide +kernel
theorem dX0_faceShown_18 : decode cX0_faceShown 18 = .ok (.iload_n 3, 1) := by decide +kernel
theorem dX0_faceShown_19 : decode cX0_faceShown 19 = .ok (.invokestatic 42, 3) := by decide +kernel
theorem dX0_faceShown_22 : decode cX0_faceShown 22 = .ok (.istore 4, 2) := by decide +kernel
theorem dX0_faceShown_24 : decode cX0_faceShown 24 = .ok (.iload 4, 2) := by decide +kernel
theorem dX0_faceShown_26 : decode cX0_faceShown 26 = .ok (.ifCond .le 10, 3) := by decide +kernel
theorem dX0_faceShown_29 : decode cX0_faceShown 29 = .ok (.iload_n 2, 1) := by decide +kernel
theorem dX0_faceShown_30 : decode cX0_faceShown 30 = .ok (.iload 4, 2) := by decide +kernel
theorem dX0_faceShown_32 : decode cX0_faceShown 32 = .ok (.irem, 1) := by decide +kernel
theorem dX0_faceShown_33 : decode cX0_faceShown 33 = .ok (.goto 4, 3) := by decide +kernel
theorem dX0_faceShown_36 : decode cX0_faceShown 36 = .ok (.iconst 0, 1) := by decide +kernel
theorem dX0_faceShown_37 : decode cX0_faceShown 37 = .ok (.istore 5, 2) := by decide +kernel
theorem dX0_faceShown_39 : decode cX0_faceShown 39 = .ok (.iconst 0, 1) := by decide +kernel
theorem dX0_faceShown_40 : decode cX0_faceShown 40 = .ok (.istore 6, 2) := by decide +kernel
theorem dX0_faceShown_42 : decode cX0_faceShown 42 = .ok (.iconst 1, 1) := by decide +kernel
theorem dX0_faceShown_43 : decode cX0_faceShown 43 = .ok (.istore 7, 2) := by decide +kernel
theorem dX0_faceShown_45 : decode cX0_faceShown 45 = .ok (.iload 7, 2) := by decide +kernel
theorem dX0_faceShown_47 : decode cX0_faceShown 47 = .ok (.iload_n 3, 1) := by decide +kernel
theorem dX0_faceShown_48 : decode cX0_faceShown 48 = .ok (.if_icmp .ge 37, 3) := by decide +kernel
theorem dX0_faceShown_51 : decode cX0_faceShown 51 = .ok (.iload 6, 2) := by decide +kernel
theorem dX0_faceShown_53 : decode cX0_faceShown 53 = .ok (.aload_n 0, 1) := by decide +kernel
theorem dX0_faceShown_54 : decode cX0_faceShown 54 = .ok (.getfield 15, 3) := by decide +kernel
theorem dX0_faceShown_57 : decode cX0_faceShown 57 = .ok (.iload_n 1, 1) := by decide +kernel
theorem dX0_faceShown_58 : decode cX0_faceShown 58 = .ok (.iload 7, 2) := by decide +kernel
theorem dX0_faceShown_60 : decode cX0_faceShown 60 = .ok (.invokestatic 34, 3) := by decide +kernel
theorem dX0_faceShown_63 : decode cX0_faceShown 63 = .ok (.invokestatic 30, 3) := by decide +kernel
theorem dX0_faceShown_66 : decode cX0_faceShown 66 = .ok (.iadd, 1) := by decide +kernel
theorem dX0_faceShown_67 : decode cX0_faceShown 67 = .ok (.istore 6, 2) := by decide +kernel
theorem dX0_faceShown_69 : decode cX0_faceShown 69 = .ok (.iload 6, 2) := by decide +kernel
theorem dX0_faceShown_71 : decode cX0_faceShown 71 = .ok (.iload 5, 2) := by decide +kernel
theorem dX0_faceShown_73 : decode cX0_faceShown 73 = .ok (.if_icmp .le 6, 3) := by decide +kernel
theorem dX0_faceShown_76 : decode cX0_faceShown 76 = .ok (.iload 7, 2) := by decide +kernel
theorem dX0_faceShown_78 : decode cX0_faceShown 78 = .ok (.ireturn, 1) := by decide +kernel
theorem dX0_faceShown_79 : decode cX0_faceShown 79 = .ok (.iinc 7 1, 3) := by decide +kernel
theorem dX0_faceShown_82 : decode cX0_faceShown 82 = .ok (.goto (-37), 3) := by decide +kernel
theorem dX0_faceShown_85 : decode cX0_faceShown 85 = .ok (.iload_n 3, 1) := by decide +kernel
theorem dX0_faceShown_86 : decode cX0_faceShown 86 = .ok (.ireturn, 1) := by decide +kernel
theorem dX0_fairFaceShown_0 : decode cX0_fairFaceShown 0 = .ok (.aload_n 0, 1) := by decide +kernel
theorem dX0_fairFaceShown_1 : decode cX0_fairFaceShown 1 = .ok (.getfield 9, 3) := by decide +kernel
theorem dX0_fairFaceShown_4 : decode cX0_fairFaceShown 4 = .ok (.iload_n 1, 1) := by decide +kernel
theorem dX0_fairFaceShown_5 : decode cX0_fairFaceShown 5 = .ok (.invokestatic 30, 3) := by decide +kernel
theorem dX0_fairFaceShown_8 : decode cX0_fairFaceShown 8 = .ok (.istore_n 3, 1) := by decide +kernel
theorem dX0_fairFaceShown_9 : decode cX0_fairFaceShown 9 = .ok (.iload_n 3, 1) := by decide +kernel
theorem dX0_fairFaceShown_10 : decode cX0_fairFaceShown 10 = .ok (.ifCond .le 11, 3) := by decide +kernel
theorem dX0_fairFaceShown_13 : decode cX0_fairFaceShown 13 = .ok (.iload_n 2, 1) := by decide +kernel
theorem dX0_fairFaceShown_14 : decode cX0_fairFaceShown 14 = .ok (.iload_n 3, 1) := by decide +kernel
theorem dX0_fairFaceShown_15 : decode cX0_fairFaceShown 15 = .ok (.irem, 1) := by decide +kernel
theorem dX0_fairFaceShown_16 : decode cX0_fairFaceShown 16 = .ok (.iconst 1, 1) := by decide +kernel
theorem dX0_fairFaceShown_17 : decode cX0_fairFaceShown 17 = .ok (.iadd, 1) := by decide +kernel
theorem dX0_fairFaceShown_18 : decode cX0_fairFaceShown 18 = .ok (.goto 4, 3) := by decide +kernel
theorem dX0_fairFaceShown_21 : decode cX0_fairFaceShown 21 = .ok (.iconst 1, 1) := by decide +kernel
theorem dX0_fairFaceShown_22 : decode cX0_fairFaceShown 22 = .ok (.ireturn, 1) := by decide +kernel
theorem dX1_init_0 : decode cX1_init 0 = .ok (.aload_n 0, 1) := by decide +kernel
theorem dX1_init_1 : decode cX1_init 1 = .ok (.invokespecial 3, 3) := by decide +kernel
theorem dX1_init_4 : decode cX1_init 4 = .ok (.aload_n 0, 1) := by decide +kernel
theorem dX1_init_5 : decode cX1_init 5 = .ok (.bipush 12, 2) := by decide +kernel
theorem dX1_init_7 : decode cX1_init 7 = .ok (.newarray .int, 2) := by decide +kernel
theorem dX1_init_9 : decode cX1_init 9 = .ok (.putfield 9, 3) := by decide +kernel
theorem dX1_init_12 : decode cX1_init 12 = .ok (.aload_n 0, 1) := by decide +kernel
theorem dX1_init_13 : decode cX1_init 13 = .ok (.iconst 0, 1) := by decide +kernel
theorem dX1_init_14 : decode cX1_init 14 = .ok (.putfield 15, 3) := by decide +kernel
theorem dX1_init_17 : decode cX1_init 17 = .ok (.aload_n 0, 1) := by decide +kernel
theorem dX1_init_18 : decode cX1_init 18 = .ok (.iconst 0, 1) := by decide +kernel
theorem dX1_init_19 : decode cX1_init 19 = .ok (.putfield 19, 3) := by decide +kernel
theorem dX1_init_22 : decode cX1_init 22 = .ok (.return_, 1) := by decide +kernel
theorem dX1_begin_0 : decode cX1_begin 0 = .ok (.aload_n 0, 1) := by decide +kernel
theorem dX1_begin_1 : decode cX1_begin 1 = .ok (.iload_n 3, 1) := by decide +kernel
theorem dX1_begin_2 : decode cX1_begin 2 = .ok (.putfield 15, 3) := by decide +kernel
theorem dX1_begin_5 : decode cX1_begin 5 = .ok (.aload_n 0, 1) := by decide +kernel
theorem dX1_begin_6 : decode cX1_begin 6 = .ok (.aload_n 1, 1) := by decide +kernel
theorem dX1_begin_7 : decode cX1_begin 7 = .ok (.getfield 22, 3) := by decide +kernel
theorem dX1_begin_10 : decode cX1_begin 10 = .ok (.putfield 19, 3) := by decide +kernel
theorem dX1_begin_13 : decode cX1_begin 13 = .ok (.iconst 1, 1) := by decide +kernel
theorem dX1_begin_14 : decode cX1_begin 14 = .ok (.istore 4, 2) := by decide +kernel
theorem dX1_begin_16 : decode cX1_begin 16 = .ok (.iload 4, 2) := by decide +kernel
theorem dX1_begin_18 : decode cX1_begin 18 = .ok (.bipush 12, 2) := by decide +kernel
theorem dX1_begin_20 : decode cX1_begin 20 = .ok (.if_icmp .gt 43, 3) := by decide +kernel
theorem dX1_begin_23 : decode cX1_begin 23 = .ok (.aload_n 0, 1) := by decide +kernel
theorem dX1_begin_24 : decode cX1_begin 24 = .ok (.getfield 9, 3) := by decide +kernel
theorem dX1_begin_27 : decode cX1_begin 27 = .ok (.iload 4, 2) := by decide +kernel
theorem dX1_begin_29 : decode cX1_begin 29 = .ok (.iconst 1, 1) := by decide +kernel
theorem dX1_begin_30 : decode cX1_begin 30 = .ok (.isub, 1) := by decide +kernel
theorem dX1_begin_31 : decode cX1_begin 31 = .ok (.aload_n 1, 1) := by decide +kernel
theorem dX1_begin_32 : decode cX1_begin 32 = .ok (.getfield 25, 3) := by decide +kernel
theorem dX1_begin_35 : decode cX1_begin 35 = .ok (.getfield 29, 3) := by decide +kernel
theorem dX1_begin_38 : decode cX1_begin 38 = .ok (.iload_n 2, 1) := by decide +kernel
theorem dX1_begin_39 : decode cX1_begin 39 = .ok (.aload_n 0, 1) := by decide +kernel
theorem dX1_begin_40 : decode cX1_begin 40 = .ok (.getfield 15, 3) := by decide +kernel
theorem dX1_begin_43 : decode cX1_begin 43 = .ok (.invokestatic 32, 3) := by decide +kernel
theorem dX1_begin_46 : decode cX1_begin 46 = .ok (.iload 4, 2) := by decide +kernel
theorem dX1_begin_48 : decode cX1_begin 48 = .ok (.invokestatic 36, 3) := by decide +kernel
theorem dX1_begin_51 : decode cX1_begin 51 = .ok (.invokestatic 39, 3) := by decide +kernel
theorem dX1_begin_54 : decode cX1_begin 54 = .ok (.invokestatic 43, 3) := by decide +kernel
theorem dX1_begin_57 : decode cX1_begin 57 = .ok (.iinc 4 1, 3) := by decide +kernel
theorem dX1_begin_60 : decode cX1_begin 60 = .ok (.goto (-44), 3) := by decide +kernel
theorem dX1_begin_63 : decode cX1_begin 63 = .ok (.return_, 1) := by decide +kernel
theorem dX1_throwOnce_0 : decode cX1_throwOnce 0 = .ok (.aload_n 0, 1) := by decide +kernel
theorem dX1_throwOnce_1 : decode cX1_throwOnce 1 = .ok (.aload_n 0, 1) := by decide +kernel
theorem dX1_throwOnce_2 : decode cX1_throwOnce 2 = .ok (.getfield 19, 3) := by decide +kernel
theorem dX1_throwOnce_5 : decode cX1_throwOnce 5 = .ok (.invokestatic 47, 3) := by decide +kernel
theorem dX1_throwOnce_8 : decode cX1_throwOnce 8 = .ok (.putfield 19, 3) := by decide +kernel
theorem dX1_throwOnce_11 : decode cX1_throwOnce 11 = .ok (.aload_n 1, 1) := by decide +kernel
theorem dX1_throwOnce_12 : decode cX1_throwOnce 12 = .ok (.getfield 51, 3) := by decide +kernel
theorem dX1_throwOnce_15 : decode cX1_throwOnce 15 = .ok (.aload_n 0, 1) := by decide +kernel
theorem dX1_throwOnce_16 : decode cX1_throwOnce 16 = .ok (.getfield 15, 3) := by decide +kernel
theorem dX1_throwOnce_19 : decode cX1_throwOnce 19 = .ok (.aload_n 0, 1) := by decide +kernel
theorem dX1_throwOnce_20 : decode cX1_throwOnce 20 = .ok (.getfield 19, 3) := by decide +kernel
theorem dX1_throwOnce_23 : decode cX1_throwOnce 23 = .ok (.invokevirtual 55, 3) := by decide +kernel
theorem dX1_throwOnce_26 : decode cX1_throwOnce 26 = .ok (.iconst 1, 1) := by decide +kernel
theorem dX1_throwOnce_27 : decode cX1_throwOnce 27 = .ok (.isub, 1) := by decide +kernel
theorem dX1_throwOnce_28 : decode cX1_throwOnce 28 = .ok (.istore_n 2, 1) := by decide +kernel
theorem dX1_throwOnce_29 : decode cX1_throwOnce 29 = .ok (.aload_n 0, 1) := by decide +kernel
theorem dX1_throwOnce_30 : decode cX1_throwOnce 30 = .ok (.getfield 9, 3) := by decide +kernel
theorem dX1_throwOnce_33 : decode cX1_throwOnce 33 = .ok (.iload_n 2, 1) := by decide +kernel
theorem dX1_throwOnce_34 : decode cX1_throwOnce 34 = .ok (.aload_n 0, 1) := by decide +kernel
theorem dX1_throwOnce_35 : decode cX1_throwOnce 35 = .ok (.getfield 9, 3) := by decide +kernel
theorem dX1_throwOnce_38 : decode cX1_throwOnce 38 = .ok (.iload_n 2, 1) := by decide +kernel
theorem dX1_throwOnce_39 : decode cX1_throwOnce 39 = .ok (.invokestatic 39, 3) := by decide +kernel
theorem dX1_throwOnce_42 : decode cX1_throwOnce 42 = .ok (.iconst 1, 1) := by decide +kernel
theorem dX1_throwOnce_43 : decode cX1_throwOnce 43 = .ok (.iadd, 1) := by decide +kernel
theorem dX1_throwOnce_44 : decode cX1_throwOnce 44 = .ok (.invokestatic 43, 3) := by decide +kernel
theorem dX1_throwOnce_47 : decode cX1_throwOnce 47 = .ok (.return_, 1) := by decide +kernel
theorem dX1_made_0 : decode cX1_made 0 = .ok (.aload_n 0, 1) := by decide +kernel
theorem dX1_made_1 : decode cX1_made 1 = .ok (.getfield 9, 3) := by decide +kernel
theorem dX1_made_4 : decode cX1_made 4 = .ok (.iconst 0, 1) := by decide +kernel
theorem dX1_made_5 : decode cX1_made 5 = .ok (.bipush 12, 2) := by decide +kernel
theorem dX1_made_7 : decode cX1_made 7 = .ok (.invokestatic 60, 3) := by decide +kernel
theorem dX1_made_10 : decode cX1_made 10 = .ok (.ireturn, 1) := by decide +kernel
theorem dX1_presentScore_0 : decode cX1_presentScore 0 = .ok (.aload_n 0, 1) := by decide +kernel
theorem dX1_presentScore_1 : decode cX1_presentScore 1 = .ok (.getfield 9, 3) := by decide +kernel
theorem dX1_presentScore_4 : decode cX1_presentScore 4 = .ok (.iconst 0, 1) := by decide +kernel
theorem dX1_presentScore_5 : decode cX1_presentScore 5 = .ok (.aload_n 1, 1) := by decide +kernel
theorem dX1_presentScore_6 : decode cX1_presentScore 6 = .ok (.getfield 51, 3) := by decide +kernel
theorem dX1_presentScore_9 : decode cX1_presentScore 9 = .ok (.aload_n 0, 1) := by decide +kernel
theorem dX1_presentScore_10 : decode cX1_presentScore 10 = .ok (.getfield 15, 3) := by decide +kernel
theorem dX1_presentScore_13 : decode cX1_presentScore 13 = .ok (.invokevirtual 64, 3) := by decide +kernel
theorem dX1_presentScore_16 : decode cX1_presentScore 16 = .ok (.invokestatic 67, 3) := by decide +kernel
theorem dX1_presentScore_19 : decode cX1_presentScore 19 = .ok (.ireturn, 1) := by decide +kernel
theorem dX2_init_0 : decode cX2_init 0 = .ok (.aload_n 0, 1) := by decide +kernel
theorem dX2_init_1 : decode cX2_init 1 = .ok (.invokespecial 3, 3) := by decide +kernel
theorem dX2_init_4 : decode cX2_init 4 = .ok (.aload_n 0, 1) := by decide +kernel
theorem dX2_init_5 : decode cX2_init 5 = .ok (.new 9, 3) := by decide +kernel
theorem dX2_init_8 : decode cX2_init 8 = .ok (.dup, 1) := by decide +kernel
theorem dX2_init_9 : decode cX2_init 9 = .ok (.invokespecial 11, 3) := by decide +kernel
theorem dX2_init_12 : decode cX2_init 12 = .ok (.putfield 12, 3) := by decide +kernel
theorem dX2_init_15 : decode cX2_init 15 = .ok (.aload_n 0, 1) := by decide +kernel
theorem dX2_init_16 : decode cX2_init 16 = .ok (.new 18, 3) := by decide +kernel
theorem dX2_init_19 : decode cX2_init 19 = .ok (.dup, 1) := by decide +kernel
theorem dX2_init_20 : decode cX2_init 20 = .ok (.invokespecial 20, 3) := by decide +kernel
theorem dX2_init_23 : decode cX2_init 23 = .ok (.putfield 21, 3) := by decide +kernel
theorem dX2_init_26 : decode cX2_init 26 = .ok (.aload_n 0, 1) := by decide +kernel
theorem dX2_init_27 : decode cX2_init 27 = .ok (.new 25, 3) := by decide +kernel
theorem dX2_init_30 : decode cX2_init 30 = .ok (.dup, 1) := by decide +kernel
theorem dX2_init_31 : decode cX2_init 31 = .ok (.invokespecial 27, 3) := by decide +kernel
theorem dX2_init_34 : decode cX2_init 34 = .ok (.putfield 28, 3) := by decide +kernel
theorem dX2_init_37 : decode cX2_init 37 = .ok (.aload_n 0, 1) := by decide +kernel
theorem dX2_init_38 : decode cX2_init 38 = .ok (.new 32, 3) := by decide +kernel
theorem dX2_init_41 : decode cX2_init 41 = .ok (.dup, 1) := by decide +kernel
theorem dX2_init_42 : decode cX2_init 42 = .ok (.invokespecial 34, 3) := by decide +kernel
theorem dX2_init_45 : decode cX2_init 45 = .ok (.putfield 35, 3) := by decide +kernel
theorem dX2_init_48 : decode cX2_init 48 = .ok (.aload_n 0, 1) := by decide +kernel
theorem dX2_init_49 : decode cX2_init 49 = .ok (.iconst 0, 1) := by decide +kernel
theorem dX2_init_50 : decode cX2_init 50 = .ok (.putfield 39, 3) := by decide +kernel
theorem dX2_init_53 : decode cX2_init 53 = .ok (.aload_n 0, 1) := by decide +kernel
theorem dX2_init_54 : decode cX2_init 54 = .ok (.iconst 1, 1) := by decide +kernel
theorem dX2_init_55 : decode cX2_init 55 = .ok (.putfield 43, 3) := by decide +kernel
theorem dX2_init_58 : decode cX2_init 58 = .ok (.aload_n 0, 1) := by decide +kernel
theorem dX2_init_59 : decode cX2_init 59 = .ok (.iconst 0, 1) := by decide +kernel
theorem dX2_init_60 : decode cX2_init 60 = .ok (.putfield 46, 3) := by decide +kernel
theorem dX2_init_63 : decode cX2_init 63 = .ok (.return_, 1) := by decide +kernel
theorem dX2_begin_0 : decode cX2_begin 0 = .ok (.aload_n 0, 1) := by decide +kernel
theorem dX2_begin_1 : decode cX2_begin 1 = .ok (.iload_n 1, 1) := by decide +kernel
theorem dX2_begin_2 : decode cX2_begin 2 = .ok (.putfield 39, 3) := by decide +kernel
theorem dX2_begin_5 : decode cX2_begin 5 = .ok (.aload_n 0, 1) := by decide +kernel
theorem dX2_begin_6 : decode cX2_begin 6 = .ok (.iload_n 2, 1) := by decide +kernel
theorem dX2_begin_7 : decode cX2_begin 7 = .ok (.putfield 43, 3) := by decide +kernel
theorem dX2_begin_10 : decode cX2_begin 10 = .ok (.aload_n 0, 1) := by decide +kernel
theorem dX2_begin_11 : decode cX2_begin 11 = .ok (.iload_n 3, 1) := by decide +kernel
theorem dX2_begin_12 : decode cX2_begin 12 = .ok (.putfield 46, 3) := by decide +kernel
theorem dX2_begin_15 : decode cX2_begin 15 = .ok (.aload_n 0, 1) := by decide +kernel
theorem dX2_begin_16 : decode cX2_begin 16 = .ok (.getfield 12, 3) := by decide +kernel
theorem dX2_begin_19 : decode cX2_begin 19 = .ok (.invokevirtual 49, 3) := by decide +kernel
theorem dX2_begin_22 : decode cX2_begin 22 = .ok (.aload_n 0, 1) := by decide +kernel
theorem dX2_begin_23 : decode cX2_begin 23 = .ok (.getfield 21, 3) := by decide +kernel
theorem dX2_begin_26 : decode cX2_begin 26 = .ok (.invokevirtual 52, 3) := by decide +kernel
theorem dX2_begin_29 : decode cX2_begin 29 = .ok (.aload_n 0, 1) := by decide +kernel
theorem dX2_begin_30 : decode cX2_begin 30 = .ok (.getfield 28, 3) := by decide +kernel
theorem dX2_begin_33 : decode cX2_begin 33 = .ok (.invokevirtual 53, 3) := by decide +kernel
theorem dX2_begin_36 : decode cX2_begin 36 = .ok (.aload_n 0, 1) := by decide +kernel
theorem dX2_begin_37 : decode cX2_begin 37 = .ok (.getfield 35, 3) := by decide +kernel
theorem dX2_begin_40 : decode cX2_begin 40 = .ok (.invokevirtual 54, 3) := by decide +kernel
theorem dX2_begin_43 : decode cX2_begin 43 = .ok (.return_, 1) := by decide +kernel
theorem dX2_copyFrom_0 : decode cX2_copyFrom 0 = .ok (.aload_n 0, 1) := by decide +kernel
theorem dX2_copyFrom_1 : decode cX2_copyFrom 1 = .ok (.aload_n 1, 1) := by decide +kernel
theorem dX2_copyFrom_2 : decode cX2_copyFrom 2 = .ok (.getfield 39, 3) := by decide +kernel
theorem dX2_copyFrom_5 : decode cX2_copyFrom 5 = .ok (.putfield 39, 3) := by decide +kernel
theorem dX2_copyFrom_8 : decode cX2_copyFrom 8 = .ok (.aload_n 0, 1) := by decide +kernel
theorem dX2_copyFrom_9 : decode cX2_copyFrom 9 = .ok (.aload_n 1, 1) := by decide +kernel
theorem dX2_copyFrom_10 : decode cX2_copyFrom 10 = .ok (.getfield 43, 3) := by decide +kernel
theorem dX2_copyFrom_13 : decode cX2_copyFrom 13 = .ok (.putfield 43, 3) := by decide +kernel
theorem dX2_copyFrom_16 : decode cX2_copyFrom 16 = .ok (.aload_n 0, 1) := by decide +kernel
theorem dX2_copyFrom_17 : decode cX2_copyFrom 17 = .ok (.aload_n 1, 1) := by decide +kernel
theorem dX2_copyFrom_18 : decode cX2_copyFrom 18 = .ok (.getfield 46, 3) := by decide +kernel
theorem dX2_copyFrom_21 : decode cX2_copyFrom 21 = .ok (.putfield 46, 3) := by decide +kernel
theorem dX2_copyFrom_24 : decode cX2_copyFrom 24 = .ok (.aload_n 0, 1) := by decide +kernel
theorem dX2_copyFrom_25 : decode cX2_copyFrom 25 = .ok (.getfield 12, 3) := by decide +kernel
theorem dX2_copyFrom_28 : decode cX2_copyFrom 28 = .ok (.aload_n 1, 1) := by decide +kernel
theorem dX2_copyFrom_29 : decode cX2_copyFrom 29 = .ok (.getfield 12, 3) := by decide +kernel
theorem dX2_copyFrom_32 : decode cX2_copyFrom 32 = .ok (.invokevirtual 55, 3) := by decide +kernel
theorem dX2_copyFrom_35 : decode cX2_copyFrom 35 = .ok (.aload_n 0, 1) := by decide +kernel
theorem dX2_copyFrom_36 : decode cX2_copyFrom 36 = .ok (.getfield 21, 3) := by decide +kernel
theorem dX2_copyFrom_39 : decode cX2_copyFrom 39 = .ok (.aload_n 1, 1) := by decide +kernel
theorem dX2_copyFrom_40 : decode cX2_copyFrom 40 = .ok (.getfield 21, 3) := by decide +kernel
theorem dX2_copyFrom_43 : decode cX2_copyFrom 43 = .ok (.invokevirtual 59, 3) := by decide +kernel
theorem dX2_copyFrom_46 : decode cX2_copyFrom 46 = .ok (.aload_n 0, 1) := by decide +kernel
theorem dX2_copyFrom_47 : decode cX2_copyFrom 47 = .ok (.getfield 28, 3) := by decide +kernel
theorem dX2_copyFrom_50 : decode cX2_copyFrom 50 = .ok (.aload_n 1, 1) := by decide +kernel
theorem dX2_copyFrom_51 : decode cX2_copyFrom 51 = .ok (.getfield 28, 3) := by decide +kernel
theorem dX2_copyFrom_54 : decode cX2_copyFrom 54 = .ok (.invokevirtual 62, 3) := by decide +kernel
theorem dX2_copyFrom_57 : decode cX2_copyFrom 57 = .ok (.aload_n 0, 1) := by decide +kernel
theorem dX2_copyFrom_58 : decode cX2_copyFrom 58 = .ok (.getfield 35, 3) := by decide +kernel
theorem dX2_copyFrom_61 : decode cX2_copyFrom 61 = .ok (.aload_n 1, 1) := by decide +kernel
theorem dX2_copyFrom_62 : decode cX2_copyFrom 62 = .ok (.getfield 35, 3) := by decide +kernel
theorem dX2_copyFrom_65 : decode cX2_copyFrom 65 = .ok (.invokevirtual 65, 3) := by decide +kernel
theorem dX2_copyFrom_68 : decode cX2_copyFrom 68 = .ok (.return_, 1) := by decide +kernel
theorem dX2_makeThrows_0 : decode cX2_makeThrows 0 = .ok (.iload_n 1, 1) := by decide +kernel
theorem dX2_makeThrows_1 : decode cX2_makeThrows 1 = .ok (.invokestatic 68, 3) := by decide +kernel
theorem dX2_makeThrows_4 : decode cX2_makeThrows 4 = .ok (.istore 4, 2) := by decide +kernel
theorem dX2_makeThrows_6 : decode cX2_makeThrows 6 = .ok (.iconst 0, 1) := by decide +kernel
theorem dX2_makeThrows_7 : decode cX2_makeThrows 7 = .ok (.istore 5, 2) := by decide +kernel
theorem dX2_makeThrows_9 : decode cX2_makeThrows 9 = .ok (.iconst 0, 1) := by decide +kernel
theorem dX2_makeThrows_10 : decode cX2_makeThrows 10 = .ok (.istore 6, 2) := by decide +kernel
theorem dX2_makeThrows_12 : decode cX2_makeThrows 12 = .ok (.iload 6, 2) := by decide +kernel
theorem dX2_makeThrows_14 : decode cX2_makeThrows 14 = .ok (.iload_n 2, 1) := by decide +kernel
theorem dX2_makeThrows_15 : decode cX2_makeThrows 15 = .ok (.if_icmp .ge 73, 3) := by decide +kernel
theorem dX2_makeThrows_18 : decode cX2_makeThrows 18 = .ok (.aload_n 0, 1) := by decide +kernel
theorem dX2_makeThrows_19 : decode cX2_makeThrows 19 = .ok (.aload_n 0, 1) := by decide +kernel
theorem dX2_makeThrows_20 : decode cX2_makeThrows 20 = .ok (.getfield 39, 3) := by decide +kernel
theorem dX2_makeThrows_23 : decode cX2_makeThrows 23 = .ok (.invokestatic 72, 3) := by decide +kernel
theorem dX2_makeThrows_26 : decode cX2_makeThrows 26 = .ok (.putfield 39, 3) := by decide +kernel
theorem dX2_makeThrows_29 : decode cX2_makeThrows 29 = .ok (.iload_n 3, 1) := by decide +kernel
theorem dX2_makeThrows_30 : decode cX2_makeThrows 30 = .ok (.ifCond .eq 19, 3) := by decide +kernel
theorem dX2_makeThrows_33 : decode cX2_makeThrows 33 = .ok (.aload_n 0, 1) := by decide +kernel
theorem dX2_makeThrows_34 : decode cX2_makeThrows 34 = .ok (.getfield 12, 3) := by decide +kernel
theorem dX2_makeThrows_37 : decode cX2_makeThrows 37 = .ok (.iload 4, 2) := by decide +kernel
theorem dX2_makeThrows_39 : decode cX2_makeThrows 39 = .ok (.aload_n 0, 1) := by decide +kernel
theorem dX2_makeThrows_40 : decode cX2_makeThrows 40 = .ok (.getfield 39, 3) := by decide +kernel
theorem dX2_makeThrows_43 : decode cX2_makeThrows 43 = .ok (.invokevirtual 75, 3) := by decide +kernel
theorem dX2_makeThrows_46 : decode cX2_makeThrows 46 = .ok (.goto 16, 3) := by decide +kernel
theorem dX2_makeThrows_49 : decode cX2_makeThrows 49 = .ok (.aload_n 0, 1) := by decide +kernel
theorem dX2_makeThrows_50 : decode cX2_makeThrows 50 = .ok (.getfield 12, 3) := by decide +kernel
theorem dX2_makeThrows_53 : decode cX2_makeThrows 53 = .ok (.iload 4, 2) := by decide +kernel
theorem dX2_makeThrows_55 : decode cX2_makeThrows 55 = .ok (.aload_n 0, 1) := by decide +kernel
theorem dX2_makeThrows_56 : decode cX2_makeThrows 56 = .ok (.getfield 39, 3) := by decide +kernel
theorem dX2_makeThrows_59 : decode cX2_makeThrows 59 = .ok (.invokevirtual 79, 3) := by decide +kernel
theorem dX2_makeThrows_62 : decode cX2_makeThrows 62 = .ok (.istore 7, 2) := by decide +kernel
theorem dX2_makeThrows_64 : decode cX2_makeThrows 64 = .ok (.aload_n 0, 1) := by decide +kernel
theorem dX2_makeThrows_65 : decode cX2_makeThrows 65 = .ok (.getfield 28, 3) := by decide +kernel
theorem dX2_makeThrows_68 : decode cX2_makeThrows 68 = .ok (.iload_n 1, 1) := by decide +kernel
theorem dX2_makeThrows_69 : decode cX2_makeThrows 69 = .ok (.iload 7, 2) := by decide +kernel
theorem dX2_makeThrows_71 : decode cX2_makeThrows 71 = .ok (.iload_n 3, 1) := by decide +kernel
theorem dX2_makeThrows_72 : decode cX2_makeThrows 72 = .ok (.invokevirtual 82, 3) := by decide +kernel
theorem dX2_makeThrows_75 : decode cX2_makeThrows 75 = .ok (.iload 5, 2) := by decide +kernel
theorem dX2_makeThrows_77 : decode cX2_makeThrows 77 = .ok (.iload 7, 2) := by decide +kernel
theorem dX2_makeThrows_79 : decode cX2_makeThrows 79 = .ok (.iadd, 1) := by decide +kernel
theorem dX2_makeThrows_80 : decode cX2_makeThrows 80 = .ok (.istore 5, 2) := by decide +kernel
theorem dX2_makeThrows_82 : decode cX2_makeThrows 82 = .ok (.iinc 6 1, 3) := by decide +kernel
theorem dX2_makeThrows_85 : decode cX2_makeThrows 85 = .ok (.goto (-73), 3) := by decide +kernel
theorem dX2_makeThrows_88 : decode cX2_makeThrows 88 = .ok (.iload 5, 2) := by decide +kernel
theorem dX2_makeThrows_90 : decode cX2_makeThrows 90 = .ok (.ireturn, 1) := by decide +kernel
theorem dX2_pairScore_0 : decode cX2_pairScore 0 = .ok (.aload_n 0, 1) := by decide +kernel
theorem dX2_pairScore_1 : decode cX2_pairScore 1 = .ok (.getfield 28, 3) := by decide +kernel
theorem dX2_pairScore_4 : decode cX2_pairScore 4 = .ok (.getfield 86, 3) := by decide +kernel
theorem dX2_pairScore_7 : decode cX2_pairScore 7 = .ok (.iload_n 1, 1) := by decide +kernel
theorem dX2_pairScore_8 : decode cX2_pairScore 8 = .ok (.iconst 1, 1) := by decide +kernel
theorem dX2_pairScore_9 : decode cX2_pairScore 9 = .ok (.invokestatic 90, 3) := by decide +kernel
theorem dX2_pairScore_12 : decode cX2_pairScore 12 = .ok (.aload_n 0, 1) := by decide +kernel
theorem dX2_pairScore_13 : decode cX2_pairScore 13 = .ok (.getfield 12, 3) := by decide +kernel
theorem dX2_pairScore_16 : decode cX2_pairScore 16 = .ok (.iload_n 1, 1) := by decide +kernel
theorem dX2_pairScore_17 : decode cX2_pairScore 17 = .ok (.invokestatic 68, 3) := by decide +kernel
theorem dX2_pairScore_20 : decode cX2_pairScore 20 = .ok (.invokevirtual 93, 3) := by decide +kernel
theorem dX2_pairScore_23 : decode cX2_pairScore 23 = .ok (.invokestatic 96, 3) := by decide +kernel
theorem dX2_pairScore_26 : decode cX2_pairScore 26 = .ok (.ireturn, 1) := by decide +kernel
theorem dX2_exceedsLimits_0 : decode cX2_exceedsLimits 0 = .ok (.iload_n 1, 1) := by decide +kernel
theorem dX2_exceedsLimits_1 : decode cX2_exceedsLimits 1 = .ok (.aload_n 0, 1) := by decide +kernel
theorem dX2_exceedsLimits_2 : decode cX2_exceedsLimits 2 = .ok (.getfield 43, 3) := by decide +kernel
theorem dX2_exceedsLimits_5 : decode cX2_exceedsLimits 5 = .ok (.if_icmp .lt 15, 3) := by decide +kernel
theorem dX2_exceedsLimits_8 : decode cX2_exceedsLimits 8 = .ok (.iload_n 2, 1) := by decide +kernel
theorem dX2_exceedsLimits_9 : decode cX2_exceedsLimits 9 = .ok (.aload_n 0, 1) := by decide +kernel
theorem dX2_exceedsLimits_10 : decode cX2_exceedsLimits 10 = .ok (.getfield 46, 3) := by decide +kernel
theorem dX2_exceedsLimits_13 : decode cX2_exceedsLimits 13 = .ok (.if_icmp .le 7, 3) := by decide +kernel
theorem dX2_exceedsLimits_16 : decode cX2_exceedsLimits 16 = .ok (.iconst 1, 1) := by decide +kernel
theorem dX2_exceedsLimits_17 : decode cX2_exceedsLimits 17 = .ok (.goto 4, 3) := by decide +kernel
theorem dX2_exceedsLimits_20 : decode cX2_exceedsLimits 20 = .ok (.iconst 0, 1) := by decide +kernel
theorem dX2_exceedsLimits_21 : decode cX2_exceedsLimits 21 = .ok (.ireturn, 1) := by decide +kernel
theorem dX2_isPairSuspicious_0 : decode cX2_isPairSuspicious 0 = .ok (.aload_n 0, 1) := by decide +kernel
theorem dX2_isPairSuspicious_1 : decode cX2_isPairSuspicious 1 = .ok (.aload_n 0, 1) := by decide +kernel
theorem dX2_isPairSuspicious_2 : decode cX2_isPairSuspicious 2 = .ok (.getfield 28, 3) := by decide +kernel
theorem dX2_isPairSuspicious_5 : decode cX2_isPairSuspicious 5 = .ok (.iload_n 1, 1) := by decide +kernel
theorem dX2_isPairSuspicious_6 : decode cX2_isPairSuspicious 6 = .ok (.invokevirtual 100, 3) := by decide +kernel
theorem dX2_isPairSuspicious_9 : decode cX2_isPairSuspicious 9 = .ok (.aload_n 0, 1) := by decide +kernel
theorem dX2_isPairSuspicious_10 : decode cX2_isPairSuspicious 10 = .ok (.iload_n 1, 1) := by decide +kernel
theorem dX2_isPairSuspicious_11 : decode cX2_isPairSuspicious 11 = .ok (.invokevirtual 103, 3) := by decide +kernel
theorem dX2_isPairSuspicious_14 : decode cX2_isPairSuspicious 14 = .ok (.invokevirtual 106, 3) := by decide +kernel
theorem dX2_isPairSuspicious_17 : decode cX2_isPairSuspicious 17 = .ok (.ireturn, 1) := by decide +kernel
theorem dX2_countSuspicious_0 : decode cX2_countSuspicious 0 = .ok (.iconst 0, 1) := by decide +kernel
theorem dX2_countSuspicious_1 : decode cX2_countSuspicious 1 = .ok (.istore_n 1, 1) := by decide +kernel
theorem dX2_countSuspicious_2 : decode cX2_countSuspicious 2 = .ok (.iconst 0, 1) := by decide +kernel
theorem dX2_countSuspicious_3 : decode cX2_countSuspicious 3 = .ok (.istore_n 2, 1) := by decide +kernel
theorem dX2_countSuspicious_4 : decode cX2_countSuspicious 4 = .ok (.iload_n 2, 1) := by decide +kernel
theorem dX2_countSuspicious_5 : decode cX2_countSuspicious 5 = .ok (.bipush 36, 2) := by decide +kernel
theorem dX2_countSuspicious_7 : decode cX2_countSuspicious 7 = .ok (.if_icmp .ge 20, 3) := by decide +kernel
theorem dX2_countSuspicious_10 : decode cX2_countSuspicious 10 = .ok (.aload_n 0, 1) := by decide +kernel
theorem dX2_countSuspicious_11 : decode cX2_countSuspicious 11 = .ok (.iload_n 2, 1) := by decide +kernel
theorem dX2_countSuspicious_12 : decode cX2_countSuspicious 12 = .ok (.invokevirtual 110, 3) := by decide +kernel
theorem dX2_countSuspicious_15 : decode cX2_countSuspicious 15 = .ok (.ifCond .eq 6, 3) := by decide +kernel
theorem dX2_countSuspicious_18 : decode cX2_countSuspicious 18 = .ok (.iinc 1 1, 3) := by decide +kernel
theorem dX2_countSuspicious_21 : decode cX2_countSuspicious 21 = .ok (.iinc 2 1, 3) := by decide +kernel
theorem dX2_countSuspicious_24 : decode cX2_countSuspicious 24 = .ok (.goto (-20), 3) := by decide +kernel
theorem dX2_countSuspicious_27 : decode cX2_countSuspicious 27 = .ok (.iload_n 1, 1) := by decide +kernel
theorem dX2_countSuspicious_28 : decode cX2_countSuspicious 28 = .ok (.ireturn, 1) := by decide +kernel
theorem dX2_pairWithGreatestScore_0 : decode cX2_pairWithGreatestScore 0 = .ok (.iconst 0, 1) := by decide +kernel
theorem dX2_pairWithGreatestScore_1 : decode cX2_pairWithGreatestScore 1 = .ok (.istore_n 1, 1) := by decide +kernel
theorem dX2_pairWithGreatestScore_2 : decode cX2_pairWithGreatestScore 2 = .ok (.iconst 0, 1) := by decide +kernel
theorem dX2_pairWithGreatestScore_3 : decode cX2_pairWithGreatestScore 3 = .ok (.istore_n 2, 1) := by decide +kernel
theorem dX2_pairWithGreatestScore_4 : decode cX2_pairWithGreatestScore 4 = .ok (.iconst 0, 1) := by decide +kernel
theorem dX2_pairWithGreatestScore_5 : decode cX2_pairWithGreatestScore 5 = .ok (.istore_n 3, 1) := by decide +kernel
theorem dX2_pairWithGreatestScore_6 : decode cX2_pairWithGreatestScore 6 = .ok (.iload_n 3, 1) := by decide +kernel
theorem dX2_pairWithGreatestScore_7 : decode cX2_pairWithGreatestScore 7 = .ok (.bipush 36, 2) := by decide +kernel
theorem dX2_pairWithGreatestScore_9 : decode cX2_pairWithGreatestScore 9 = .ok (.if_icmp .ge 27, 3) := by decide +kernel
theorem dX2_pairWithGreatestScore_12 : decode cX2_pairWithGreatestScore 12 = .ok (.aload_n 0, 1) := by decide +kernel
theorem dX2_pairWithGreatestScore_13 : decode cX2_pairWithGreatestScore 13 = .ok (.iload_n 3, 1) := by decide +kernel
theorem dX2_pairWithGreatestScore_14 : decode cX2_pairWithGreatestScore 14 = .ok (.invokevirtual 103, 3) := by decide +kernel
theorem dX2_pairWithGreatestScore_17 : decode cX2_pairWithGreatestScore 17 = .ok (.istore 4, 2) := by decide +kernel
theorem dX2_pairWithGreatestScore_19 : decode cX2_pairWithGreatestScore 19 = .ok (.iload 4, 2) := by decide +kernel
theorem dX2_pairWithGreatestScore_21 : decode cX2_pairWithGreatestScore 21 = .ok (.iload_n 2, 1) := by decide +kernel
theorem dX2_pairWithGreatestScore_22 : decode cX2_pairWithGreatestScore 22 = .ok (.if_icmp .le 8, 3) := by decide +kernel
theorem dX2_pairWithGreatestScore_25 : decode cX2_pairWithGreatestScore 25 = .ok (.iload 4, 2) := by decide +kernel
theorem dX2_pairWithGreatestScore_27 : decode cX2_pairWithGreatestScore 27 = .ok (.istore_n 2, 1) := by decide +kernel
theorem dX2_pairWithGreatestScore_28 : decode cX2_pairWithGreatestScore 28 = .ok (.iload_n 3, 1) := by decide +kernel
theorem dX2_pairWithGreatestScore_29 : decode cX2_pairWithGreatestScore 29 = .ok (.istore_n 1, 1) := by decide +kernel
theorem dX2_pairWithGreatestScore_30 : decode cX2_pairWithGreatestScore 30 = .ok (.iinc 3 1, 3) := by decide +kernel
theorem dX2_pairWithGreatestScore_33 : decode cX2_pairWithGreatestScore 33 = .ok (.goto (-27), 3) := by decide +kernel
theorem dX2_pairWithGreatestScore_36 : decode cX2_pairWithGreatestScore 36 = .ok (.iload_n 1, 1) := by decide +kernel
theorem dX2_pairWithGreatestScore_37 : decode cX2_pairWithGreatestScore 37 = .ok (.ireturn, 1) := by decide +kernel
theorem dX2_holdAudit_0 : decode cX2_holdAudit 0 = .ok (.aload_n 0, 1) := by decide +kernel
theorem dX2_holdAudit_1 : decode cX2_holdAudit 1 = .ok (.getfield 35, 3) := by decide +kernel
theorem dX2_holdAudit_4 : decode cX2_holdAudit 4 = .ok (.getfield 114, 3) := by decide +kernel
theorem dX2_holdAudit_7 : decode cX2_holdAudit 7 = .ok (.istore_n 1, 1) := by decide +kernel
theorem dX2_holdAudit_8 : decode cX2_holdAudit 8 = .ok (.iconst 0, 1) := by decide +kernel
theorem dX2_holdAudit_9 : decode cX2_holdAudit 9 = .ok (.istore_n 2, 1) := by decide +kernel
theorem dX2_holdAudit_10 : decode cX2_holdAudit 10 = .ok (.iload_n 2, 1) := by decide +kernel
theorem dX2_holdAudit_11 : decode cX2_holdAudit 11 = .ok (.bipush 36, 2) := by decide +kernel
theorem dX2_holdAudit_13 : decode cX2_holdAudit 13 = .ok (.if_icmp .ge 51, 3) := by decide +kernel
theorem dX2_holdAudit_16 : decode cX2_holdAudit 16 = .ok (.aload_n 0, 1) := by decide +kernel
theorem dX2_holdAudit_17 : decode cX2_holdAudit 17 = .ok (.iload_n 2, 1) := by decide +kernel
theorem dX2_holdAudit_18 : decode cX2_holdAudit 18 = .ok (.invokevirtual 103, 3) := by decide +kernel
theorem dX2_holdAudit_21 : decode cX2_holdAudit 21 = .ok (.istore_n 3, 1) := by decide +kernel
theorem dX2_holdAudit_22 : decode cX2_holdAudit 22 = .ok (.aload_n 0, 1) := by decide +kernel
theorem dX2_holdAudit_23 : decode cX2_holdAudit 23 = .ok (.aload_n 0, 1) := by decide +kernel
theorem dX2_holdAudit_24 : decode cX2_holdAudit 24 = .ok (.getfield 28, 3) := by decide +kernel
theorem dX2_holdAudit_27 : decode cX2_holdAudit 27 = .ok (.iload_n 2, 1) := by decide +kernel
theorem dX2_holdAudit_28 : decode cX2_holdAudit 28 = .ok (.invokevirtual 100, 3) := by decide +kernel
theorem dX2_holdAudit_31 : decode cX2_holdAudit 31 = .ok (.iload_n 3, 1) := by decide +kernel
theorem dX2_holdAudit_32 : decode cX2_holdAudit 32 = .ok (.invokevirtual 106, 3) := by decide +kernel
theorem dX2_holdAudit_35 : decode cX2_holdAudit 35 = .ok (.ifCond .eq 23, 3) := by decide +kernel
theorem dX2_holdAudit_38 : decode cX2_holdAudit 38 = .ok (.aload_n 0, 1) := by decide +kernel
theorem dX2_holdAudit_39 : decode cX2_holdAudit 39 = .ok (.getfield 35, 3) := by decide +kernel
theorem dX2_holdAudit_42 : decode cX2_holdAudit 42 = .ok (.iload_n 2, 1) := by decide +kernel
theorem dX2_holdAudit_43 : decode cX2_holdAudit 43 = .ok (.invokevirtual 117, 3) := by decide +kernel
theorem dX2_holdAudit_46 : decode cX2_holdAudit 46 = .ok (.ifCond .ne 12, 3) := by decide +kernel
theorem dX2_holdAudit_49 : decode cX2_holdAudit 49 = .ok (.aload_n 0, 1) := by decide +kernel
theorem dX2_holdAudit_50 : decode cX2_holdAudit 50 = .ok (.getfield 35, 3) := by decide +kernel
theorem dX2_holdAudit_53 : decode cX2_holdAudit 53 = .ok (.iload_n 2, 1) := by decide +kernel
theorem dX2_holdAudit_54 : decode cX2_holdAudit 54 = .ok (.iload_n 3, 1) := by decide +kernel
theorem dX2_holdAudit_55 : decode cX2_holdAudit 55 = .ok (.invokevirtual 120, 3) := by decide +kernel
theorem dX2_holdAudit_58 : decode cX2_holdAudit 58 = .ok (.iinc 2 1, 3) := by decide +kernel
theorem dX2_holdAudit_61 : decode cX2_holdAudit 61 = .ok (.goto (-51), 3) := by decide +kernel
theorem dX2_holdAudit_64 : decode cX2_holdAudit 64 = .ok (.aload_n 0, 1) := by decide +kernel
theorem dX2_holdAudit_65 : decode cX2_holdAudit 65 = .ok (.getfield 35, 3) := by decide +kernel
theorem dX2_holdAudit_68 : decode cX2_holdAudit 68 = .ok (.getfield 114, 3) := by decide +kernel
theorem dX2_holdAudit_71 : decode cX2_holdAudit 71 = .ok (.iload_n 1, 1) := by decide +kernel
theorem dX2_holdAudit_72 : decode cX2_holdAudit 72 = .ok (.isub, 1) := by decide +kernel
theorem dX2_holdAudit_73 : decode cX2_holdAudit 73 = .ok (.ireturn, 1) := by decide +kernel
theorem dX2_penanceSize_0 : decode cX2_penanceSize 0 = .ok (.aload_n 0, 1) := by decide +kernel
theorem dX2_penanceSize_1 : decode cX2_penanceSize 1 = .ok (.getfield 35, 3) := by decide +kernel
theorem dX2_penanceSize_4 : decode cX2_penanceSize 4 = .ok (.getfield 114, 3) := by decide +kernel
theorem dX2_penanceSize_7 : decode cX2_penanceSize 7 = .ok (.ifCond .ne 5, 3) := by decide +kernel
theorem dX2_penanceSize_10 : decode cX2_penanceSize 10 = .ok (.iconst 0, 1) := by decide +kernel
theorem dX2_penanceSize_11 : decode cX2_penanceSize 11 = .ok (.ireturn, 1) := by decide +kernel
theorem dX2_penanceSize_12 : decode cX2_penanceSize 12 = .ok (.aload_n 0, 1) := by decide +kernel
theorem dX2_penanceSize_13 : decode cX2_penanceSize 13 = .ok (.getfield 35, 3) := by decide +kernel
theorem dX2_penanceSize_16 : decode cX2_penanceSize 16 = .ok (.getfield 123, 3) := by decide +kernel
theorem dX2_penanceSize_19 : decode cX2_penanceSize 19 = .ok (.iconst 0, 1) := by decide +kernel
theorem dX2_penanceSize_20 : decode cX2_penanceSize 20 = .ok (.invokestatic 126, 3) := by decide +kernel
theorem dX2_penanceSize_23 : decode cX2_penanceSize 23 = .ok (.aload_n 0, 1) := by decide +kernel
theorem dX2_penanceSize_24 : decode cX2_penanceSize 24 = .ok (.getfield 28, 3) := by decide +kernel
theorem dX2_penanceSize_27 : decode cX2_penanceSize 27 = .ok (.aload_n 0, 1) := by decide +kernel
theorem dX2_penanceSize_28 : decode cX2_penanceSize 28 = .ok (.getfield 35, 3) := by decide +kernel
theorem dX2_penanceSize_31 : decode cX2_penanceSize 31 = .ok (.getfield 130, 3) := by decide +kernel
theorem dX2_penanceSize_34 : decode cX2_penanceSize 34 = .ok (.iconst 0, 1) := by decide +kernel
theorem dX2_penanceSize_35 : decode cX2_penanceSize 35 = .ok (.invokestatic 126, 3) := by decide +kernel
theorem dX2_penanceSize_38 : decode cX2_penanceSize 38 = .ok (.invokevirtual 100, 3) := by decide +kernel
theorem dX2_penanceSize_41 : decode cX2_penanceSize 41 = .ok (.invokestatic 133, 3) := by decide +kernel
theorem dX2_penanceSize_44 : decode cX2_penanceSize 44 = .ok (.ireturn, 1) := by decide +kernel
theorem dX2_doPenance_0 : decode cX2_doPenance 0 = .ok (.aload_n 0, 1) := by decide +kernel
theorem dX2_doPenance_1 : decode cX2_doPenance 1 = .ok (.invokevirtual 138, 3) := by decide +kernel
theorem dX2_doPenance_4 : decode cX2_doPenance 4 = .ok (.istore_n 1, 1) := by decide +kernel
theorem dX2_doPenance_5 : decode cX2_doPenance 5 = .ok (.aload_n 0, 1) := by decide +kernel
theorem dX2_doPenance_6 : decode cX2_doPenance 6 = .ok (.getfield 35, 3) := by decide +kernel
theorem dX2_doPenance_9 : decode cX2_doPenance 9 = .ok (.getfield 130, 3) := by decide +kernel
theorem dX2_doPenance_12 : decode cX2_doPenance 12 = .ok (.iconst 0, 1) := by decide +kernel
theorem dX2_doPenance_13 : decode cX2_doPenance 13 = .ok (.invokestatic 126, 3) := by decide +kernel
theorem dX2_doPenance_16 : decode cX2_doPenance 16 = .ok (.istore_n 2, 1) := by decide +kernel
theorem dX2_doPenance_17 : decode cX2_doPenance 17 = .ok (.aload_n 0, 1) := by decide +kernel
theorem dX2_doPenance_18 : decode cX2_doPenance 18 = .ok (.getfield 35, 3) := by decide +kernel
theorem dX2_doPenance_21 : decode cX2_doPenance 21 = .ok (.invokevirtual 142, 3) := by decide +kernel
theorem dX2_doPenance_24 : decode cX2_doPenance 24 = .ok (.aload_n 0, 1) := by decide +kernel
theorem dX2_doPenance_25 : decode cX2_doPenance 25 = .ok (.getfield 28, 3) := by decide +kernel
theorem dX2_doPenance_28 : decode cX2_doPenance 28 = .ok (.iload_n 2, 1) := by decide +kernel
theorem dX2_doPenance_29 : decode cX2_doPenance 29 = .ok (.iload_n 1, 1) := by decide +kernel
theorem dX2_doPenance_30 : decode cX2_doPenance 30 = .ok (.invokevirtual 145, 3) := by decide +kernel
theorem dX2_doPenance_33 : decode cX2_doPenance 33 = .ok (.aload_n 0, 1) := by decide +kernel
theorem dX2_doPenance_34 : decode cX2_doPenance 34 = .ok (.iload_n 2, 1) := by decide +kernel
theorem dX2_doPenance_35 : decode cX2_doPenance 35 = .ok (.iload_n 1, 1) := by decide +kernel
theorem dX2_doPenance_36 : decode cX2_doPenance 36 = .ok (.iconst 1, 1) := by decide +kernel
theorem dX2_doPenance_37 : decode cX2_doPenance 37 = .ok (.invokevirtual 148, 3) := by decide +kernel
theorem dX2_doPenance_40 : decode cX2_doPenance 40 = .ok (.ireturn, 1) := by decide +kernel
theorem dX2_placeByTotal_0 : decode cX2_placeByTotal 0 = .ok (.iconst 0, 1) := by decide +kernel
theorem dX2_placeByTotal_1 : decode cX2_placeByTotal 1 = .ok (.istore_n 2, 1) := by decide +kernel
theorem dX2_placeByTotal_2 : decode cX2_placeByTotal 2 = .ok (.iconst 0, 1) := by decide +kernel
theorem dX2_placeByTotal_3 : decode cX2_placeByTotal 3 = .ok (.istore_n 3, 1) := by decide +kernel
theorem dX2_placeByTotal_4 : decode cX2_placeByTotal 4 = .ok (.iload_n 3, 1) := by decide +kernel
theorem dX2_placeByTotal_5 : decode cX2_placeByTotal 5 = .ok (.aload_n 0, 1) := by decide +kernel
theorem dX2_placeByTotal_6 : decode cX2_placeByTotal 6 = .ok (.getfield 21, 3) := by decide +kernel
theorem dX2_placeByTotal_9 : decode cX2_placeByTotal 9 = .ok (.getfield 152, 3) := by decide +kernel
theorem dX2_placeByTotal_12 : decode cX2_placeByTotal 12 = .ok (.if_icmp .ge 21, 3) := by decide +kernel
theorem dX2_placeByTotal_15 : decode cX2_placeByTotal 15 = .ok (.aload_n 0, 1) := by decide +kernel
theorem dX2_placeByTotal_16 : decode cX2_placeByTotal 16 = .ok (.iload_n 3, 1) := by decide +kernel
theorem dX2_placeByTotal_17 : decode cX2_placeByTotal 17 = .ok (.iload_n 1, 1) := by decide +kernel
theorem dX2_placeByTotal_18 : decode cX2_placeByTotal 18 = .ok (.invokevirtual 153, 3) := by decide +kernel
theorem dX2_placeByTotal_21 : decode cX2_placeByTotal 21 = .ok (.ifCond .eq 6, 3) := by decide +kernel
theorem dX2_placeByTotal_24 : decode cX2_placeByTotal 24 = .ok (.iinc 2 1, 3) := by decide +kernel
theorem dX2_placeByTotal_27 : decode cX2_placeByTotal 27 = .ok (.iinc 3 1, 3) := by decide +kernel
theorem dX2_placeByTotal_30 : decode cX2_placeByTotal 30 = .ok (.goto (-26), 3) := by decide +kernel
theorem dX2_placeByTotal_33 : decode cX2_placeByTotal 33 = .ok (.iload_n 2, 1) := by decide +kernel
theorem dX2_placeByTotal_34 : decode cX2_placeByTotal 34 = .ok (.ireturn, 1) := by decide +kernel
theorem dX2_ranksBefore_0 : decode cX2_ranksBefore 0 = .ok (.aload_n 0, 1) := by decide +kernel
theorem dX2_ranksBefore_1 : decode cX2_ranksBefore 1 = .ok (.getfield 28, 3) := by decide +kernel
theorem dX2_ranksBefore_4 : decode cX2_ranksBefore 4 = .ok (.iload_n 1, 1) := by decide +kernel
theorem dX2_ranksBefore_5 : decode cX2_ranksBefore 5 = .ok (.invokevirtual 156, 3) := by decide +kernel
theorem dX2_ranksBefore_8 : decode cX2_ranksBefore 8 = .ok (.aload_n 0, 1) := by decide +kernel
theorem dX2_ranksBefore_9 : decode cX2_ranksBefore 9 = .ok (.getfield 28, 3) := by decide +kernel
theorem dX2_ranksBefore_12 : decode cX2_ranksBefore 12 = .ok (.iload_n 2, 1) := by decide +kernel
theorem dX2_ranksBefore_13 : decode cX2_ranksBefore 13 = .ok (.invokevirtual 156, 3) := by decide +kernel
theorem dX2_ranksBefore_16 : decode cX2_ranksBefore 16 = .ok (.isub, 1) := by decide +kernel
theorem dX2_ranksBefore_17 : decode cX2_ranksBefore 17 = .ok (.istore_n 3, 1) := by decide +kernel
theorem dX2_ranksBefore_18 : decode cX2_ranksBefore 18 = .ok (.iload_n 3, 1) := by decide +kernel
theorem dX2_ranksBefore_19 : decode cX2_ranksBefore 19 = .ok (.ifCond .eq 15, 3) := by decide +kernel
theorem dX2_ranksBefore_22 : decode cX2_ranksBefore 22 = .ok (.iload_n 3, 1) := by decide +kernel
theorem dX2_ranksBefore_23 : decode cX2_ranksBefore 23 = .ok (.ifCond .le 7, 3) := by decide +kernel
theorem dX2_ranksBefore_26 : decode cX2_ranksBefore 26 = .ok (.iconst 1, 1) := by decide +kernel
theorem dX2_ranksBefore_27 : decode cX2_ranksBefore 27 = .ok (.goto 16, 3) := by decide +kernel
theorem dX2_ranksBefore_30 : decode cX2_ranksBefore 30 = .ok (.iconst 0, 1) := by decide +kernel
theorem dX2_ranksBefore_31 : decode cX2_ranksBefore 31 = .ok (.goto 12, 3) := by decide +kernel
theorem dX2_ranksBefore_34 : decode cX2_ranksBefore 34 = .ok (.aload_n 0, 1) := by decide +kernel
theorem dX2_ranksBefore_35 : decode cX2_ranksBefore 35 = .ok (.getfield 21, 3) := by decide +kernel
theorem dX2_ranksBefore_38 : decode cX2_ranksBefore 38 = .ok (.iload_n 1, 1) := by decide +kernel
theorem dX2_ranksBefore_39 : decode cX2_ranksBefore 39 = .ok (.iload_n 2, 1) := by decide +kernel
theorem dX2_ranksBefore_40 : decode cX2_ranksBefore 40 = .ok (.invokevirtual 159, 3) := by decide +kernel
theorem dX2_ranksBefore_43 : decode cX2_ranksBefore 43 = .ok (.ireturn, 1) := by decide +kernel
theorem dX3_init_0 : decode cX3_init 0 = .ok (.aload_n 0, 1) := by decide +kernel
theorem dX3_init_1 : decode cX3_init 1 = .ok (.invokespecial 3, 3) := by decide +kernel
theorem dX3_init_4 : decode cX3_init 4 = .ok (.aload_n 0, 1) := by decide +kernel
theorem dX3_init_5 : decode cX3_init 5 = .ok (.bipush 8, 2) := by decide +kernel
theorem dX3_init_7 : decode cX3_init 7 = .ok (.anewarray 9, 3) := by decide +kernel
theorem dX3_init_10 : decode cX3_init 10 = .ok (.putfield 11, 3) := by decide +kernel
theorem dX3_init_13 : decode cX3_init 13 = .ok (.aload_n 0, 1) := by decide +kernel
theorem dX3_init_14 : decode cX3_init 14 = .ok (.iconst 0, 1) := by decide +kernel
theorem dX3_init_15 : decode cX3_init 15 = .ok (.putfield 17, 3) := by decide +kernel
theorem dX3_init_18 : decode cX3_init 18 = .ok (.aload_n 0, 1) := by decide +kernel
theorem dX3_init_19 : decode cX3_init 19 = .ok (.iconst 0, 1) := by decide +kernel
theorem dX3_init_20 : decode cX3_init 20 = .ok (.putfield 21, 3) := by decide +kernel
theorem dX3_init_23 : decode cX3_init 23 = .ok (.iconst 0, 1) := by decide +kernel
theorem dX3_init_24 : decode cX3_init 24 = .ok (.istore_n 1, 1) := by decide +kernel
theorem dX3_init_25 : decode cX3_init 25 = .ok (.iload_n 1, 1) := by decide +kernel
theorem dX3_init_26 : decode cX3_init 26 = .ok (.aload_n 0, 1) := by decide +kernel
theorem dX3_init_27 : decode cX3_init 27 = .ok (.getfield 11, 3) := by decide +kernel
theorem dX3_init_30 : decode cX3_init 30 = .ok (.arraylength, 1) := by decide +kernel
theorem dX3_init_31 : decode cX3_init 31 = .ok (.if_icmp .ge 22, 3) := by decide +kernel
theorem dX3_init_34 : decode cX3_init 34 = .ok (.aload_n 0, 1) := by decide +kernel
theorem dX3_init_35 : decode cX3_init 35 = .ok (.getfield 11, 3) := by decide +kernel
theorem dX3_init_38 : decode cX3_init 38 = .ok (.iload_n 1, 1) := by decide +kernel
theorem dX3_init_39 : decode cX3_init 39 = .ok (.new 9, 3) := by decide +kernel
theorem dX3_init_42 : decode cX3_init 42 = .ok (.dup, 1) := by decide +kernel
theorem dX3_init_43 : decode cX3_init 43 = .ok (.invokespecial 24, 3) := by decide +kernel
theorem dX3_init_46 : decode cX3_init 46 = .ok (.aastore, 1) := by decide +kernel
theorem dX3_init_47 : decode cX3_init 47 = .ok (.iinc 1 1, 3) := by decide +kernel
theorem dX3_init_50 : decode cX3_init 50 = .ok (.goto (-25), 3) := by decide +kernel
theorem dX3_init_53 : decode cX3_init 53 = .ok (.return_, 1) := by decide +kernel
theorem dX3_remember_0 : decode cX3_remember 0 = .ok (.aload_n 0, 1) := by decide +kernel
theorem dX3_remember_1 : decode cX3_remember 1 = .ok (.getfield 17, 3) := by decide +kernel
theorem dX3_remember_4 : decode cX3_remember 4 = .ok (.ifCond .lt 40, 3) := by decide +kernel
theorem dX3_remember_7 : decode cX3_remember 7 = .ok (.aload_n 0, 1) := by decide +kernel
theorem dX3_remember_8 : decode cX3_remember 8 = .ok (.getfield 17, 3) := by decide +kernel
theorem dX3_remember_11 : decode cX3_remember 11 = .ok (.aload_n 0, 1) := by decide +kernel
theorem dX3_remember_12 : decode cX3_remember 12 = .ok (.getfield 11, 3) := by decide +kernel
theorem dX3_remember_15 : decode cX3_remember 15 = .ok (.arraylength, 1) := by decide +kernel
theorem dX3_remember_16 : decode cX3_remember 16 = .ok (.if_icmp .ge 28, 3) := by decide +kernel
theorem dX3_remember_19 : decode cX3_remember 19 = .ok (.aload_n 0, 1) := by decide +kernel
theorem dX3_remember_20 : decode cX3_remember 20 = .ok (.getfield 11, 3) := by decide +kernel
theorem dX3_remember_23 : decode cX3_remember 23 = .ok (.aload_n 0, 1) := by decide +kernel
theorem dX3_remember_24 : decode cX3_remember 24 = .ok (.getfield 17, 3) := by decide +kernel
theorem dX3_remember_27 : decode cX3_remember 27 = .ok (.aaload, 1) := by decide +kernel
theorem dX3_remember_28 : decode cX3_remember 28 = .ok (.ifnull 16, 3) := by decide +kernel
theorem dX3_remember_31 : decode cX3_remember 31 = .ok (.aload_n 0, 1) := by decide +kernel
theorem dX3_remember_32 : decode cX3_remember 32 = .ok (.getfield 11, 3) := by decide +kernel
theorem dX3_remember_35 : decode cX3_remember 35 = .ok (.aload_n 0, 1) := by decide +kernel
theorem dX3_remember_36 : decode cX3_remember 36 = .ok (.getfield 17, 3) := by decide +kernel
theorem dX3_remember_39 : decode cX3_remember 39 = .ok (.aaload, 1) := by decide +kernel
theorem dX3_remember_40 : decode cX3_remember 40 = .ok (.aload_n 1, 1) := by decide +kernel
theorem dX3_remember_41 : decode cX3_remember 41 = .ok (.invokevirtual 25, 3) := by decide +kernel
theorem dX3_remember_44 : decode cX3_remember 44 = .ok (.aload_n 0, 1) := by decide +kernel
theorem dX3_remember_45 : decode cX3_remember 45 = .ok (.aload_n 0, 1) := by decide +kernel
theorem dX3_remember_46 : decode cX3_remember 46 = .ok (.getfield 17, 3) := by decide +kernel
theorem dX3_remember_49 : decode cX3_remember 49 = .ok (.iconst 1, 1) := by decide +kernel
theorem dX3_remember_50 : decode cX3_remember 50 = .ok (.iadd, 1) := by decide +kernel
theorem dX3_remember_51 : decode cX3_remember 51 = .ok (.bipush 8, 2) := by decide +kernel
theorem dX3_remember_53 : decode cX3_remember 53 = .ok (.irem, 1) := by decide +kernel
theorem dX3_remember_54 : decode cX3_remember 54 = .ok (.putfield 17, 3) := by decide +kernel
theorem dX3_remember_57 : decode cX3_remember 57 = .ok (.aload_n 0, 1) := by decide +kernel
theorem dX3_remember_58 : decode cX3_remember 58 = .ok (.aload_n 0, 1) := by decide +kernel
theorem dX3_remember_59 : decode cX3_remember 59 = .ok (.getfield 21, 3) := by decide +kernel
theorem dX3_remember_62 : decode cX3_remember 62 = .ok (.iconst 1, 1) := by decide +kernel
theorem dX3_remember_63 : decode cX3_remember 63 = .ok (.iadd, 1) := by decide +kernel
theorem dX3_remember_64 : decode cX3_remember 64 = .ok (.bipush 8, 2) := by decide +kernel
theorem dX3_remember_66 : decode cX3_remember 66 = .ok (.invokestatic 29, 3) := by decide +kernel
theorem dX3_remember_69 : decode cX3_remember 69 = .ok (.putfield 21, 3) := by decide +kernel
theorem dX3_remember_72 : decode cX3_remember 72 = .ok (.return_, 1) := by decide +kernel
theorem dX3_bringBack_0 : decode cX3_bringBack 0 = .ok (.aload_n 0, 1) := by decide +kernel
theorem dX3_bringBack_1 : decode cX3_bringBack 1 = .ok (.aload_n 0, 1) := by decide +kernel
theorem dX3_bringBack_2 : decode cX3_bringBack 2 = .ok (.getfield 17, 3) := by decide +kernel
theorem dX3_bringBack_5 : decode cX3_bringBack 5 = .ok (.bipush 8, 2) := by decide +kernel
theorem dX3_bringBack_7 : decode cX3_bringBack 7 = .ok (.iadd, 1) := by decide +kernel
theorem dX3_bringBack_8 : decode cX3_bringBack 8 = .ok (.iconst 1, 1) := by decide +kernel
theorem dX3_bringBack_9 : decode cX3_bringBack 9 = .ok (.isub, 1) := by decide +kernel
theorem dX3_bringBack_10 : decode cX3_bringBack 10 = .ok (.bipush 8, 2) := by decide +kernel
theorem dX3_bringBack_12 : decode cX3_bringBack 12 = .ok (.irem, 1) := by decide +kernel
theorem dX3_bringBack_13 : decode cX3_bringBack 13 = .ok (.putfield 17, 3) := by decide +kernel
theorem dX3_bringBack_16 : decode cX3_bringBack 16 = .ok (.aload_n 0, 1) := by decide +kernel
theorem dX3_bringBack_17 : decode cX3_bringBack 17 = .ok (.aload_n 0, 1) := by decide +kernel
theorem dX3_bringBack_18 : decode cX3_bringBack 18 = .ok (.getfield 21, 3) := by decide +kernel
theorem dX3_bringBack_21 : decode cX3_bringBack 21 = .ok (.iconst 1, 1) := by decide +kernel
theorem dX3_bringBack_22 : decode cX3_bringBack 22 = .ok (.isub, 1) := by decide +kernel
theorem dX3_bringBack_23 : decode cX3_bringBack 23 = .ok (.iconst 0, 1) := by decide +kernel
theorem dX3_bringBack_24 : decode cX3_bringBack 24 = .ok (.invokestatic 35, 3) := by decide +kernel
theorem dX3_bringBack_27 : decode cX3_bringBack 27 = .ok (.putfield 21, 3) := by decide +kernel
theorem dX3_bringBack_30 : decode cX3_bringBack 30 = .ok (.aload_n 0, 1) := by decide +kernel
theorem dX3_bringBack_31 : decode cX3_bringBack 31 = .ok (.getfield 17, 3) := by decide +kernel
theorem dX3_bringBack_34 : decode cX3_bringBack 34 = .ok (.ifCond .lt 40, 3) := by decide +kernel
theorem dX3_bringBack_37 : decode cX3_bringBack 37 = .ok (.aload_n 0, 1) := by decide +kernel
theorem dX3_bringBack_38 : decode cX3_bringBack 38 = .ok (.getfield 17, 3) := by decide +kernel
theorem dX3_bringBack_41 : decode cX3_bringBack 41 = .ok (.aload_n 0, 1) := by decide +kernel
theorem dX3_bringBack_42 : decode cX3_bringBack 42 = .ok (.getfield 11, 3) := by decide +kernel
theorem dX3_bringBack_45 : decode cX3_bringBack 45 = .ok (.arraylength, 1) := by decide +kernel
theorem dX3_bringBack_46 : decode cX3_bringBack 46 = .ok (.if_icmp .ge 28, 3) := by decide +kernel
theorem dX3_bringBack_49 : decode cX3_bringBack 49 = .ok (.aload_n 0, 1) := by decide +kernel
theorem dX3_bringBack_50 : decode cX3_bringBack 50 = .ok (.getfield 11, 3) := by decide +kernel
theorem dX3_bringBack_53 : decode cX3_bringBack 53 = .ok (.aload_n 0, 1) := by decide +kernel
theorem dX3_bringBack_54 : decode cX3_bringBack 54 = .ok (.getfield 17, 3) := by decide +kernel
theorem dX3_bringBack_57 : decode cX3_bringBack 57 = .ok (.aaload, 1) := by decide +kernel
theorem dX3_bringBack_58 : decode cX3_bringBack 58 = .ok (.ifnull 16, 3) := by decide +kernel
theorem dX3_bringBack_61 : decode cX3_bringBack 61 = .ok (.aload_n 1, 1) := by decide +kernel
theorem dX3_bringBack_62 : decode cX3_bringBack 62 = .ok (.aload_n 0, 1) := by decide +kernel
theorem dX3_bringBack_63 : decode cX3_bringBack 63 = .ok (.getfield 11, 3) := by decide +kernel
theorem dX3_bringBack_66 : decode cX3_bringBack 66 = .ok (.aload_n 0, 1) := by decide +kernel
theorem dX3_bringBack_67 : decode cX3_bringBack 67 = .ok (.getfield 17, 3) := by decide +kernel
theorem dX3_bringBack_70 : decode cX3_bringBack 70 = .ok (.aaload, 1) := by decide +kernel
theorem dX3_bringBack_71 : decode cX3_bringBack 71 = .ok (.invokevirtual 25, 3) := by decide +kernel
theorem dX3_bringBack_74 : decode cX3_bringBack 74 = .ok (.return_, 1) := by decide +kernel
theorem dX4_init_0 : decode cX4_init 0 = .ok (.aload_n 0, 1) := by decide +kernel
theorem dX4_init_1 : decode cX4_init 1 = .ok (.invokespecial 3, 3) := by decide +kernel
theorem dX4_init_4 : decode cX4_init 4 = .ok (.aload_n 0, 1) := by decide +kernel
theorem dX4_init_5 : decode cX4_init 5 = .ok (.sipush 300, 3) := by decide +kernel
theorem dX4_init_8 : decode cX4_init 8 = .ok (.newarray .int, 2) := by decide +kernel
theorem dX4_init_10 : decode cX4_init 10 = .ok (.putfield 9, 3) := by decide +kernel
theorem dX4_init_13 : decode cX4_init 13 = .ok (.aload_n 0, 1) := by decide +kernel
theorem dX4_init_14 : decode cX4_init 14 = .ok (.sipush 432, 3) := by decide +kernel
theorem dX4_init_17 : decode cX4_init 17 = .ok (.newarray .int, 2) := by decide +kernel
theorem dX4_init_19 : decode cX4_init 19 = .ok (.putfield 15, 3) := by decide +kernel
theorem dX4_init_22 : decode cX4_init 22 = .ok (.aload_n 0, 1) := by decide +kernel
theorem dX4_init_23 : decode cX4_init 23 = .ok (.iconst 0, 1) := by decide +kernel
theorem dX4_init_24 : decode cX4_init 24 = .ok (.putfield 18, 3) := by decide +kernel
theorem dX4_init_27 : decode cX4_init 27 = .ok (.return_, 1) := by decide +kernel
theorem dX4_clear_0 : decode cX4_clear 0 = .ok (.aload_n 0, 1) := by decide +kernel
theorem dX4_clear_1 : decode cX4_clear 1 = .ok (.iconst 0, 1) := by decide +kernel
theorem dX4_clear_2 : decode cX4_clear 2 = .ok (.putfield 18, 3) := by decide +kernel
theorem dX4_clear_5 : decode cX4_clear 5 = .ok (.aload_n 0, 1) := by decide +kernel
theorem dX4_clear_6 : decode cX4_clear 6 = .ok (.getfield 15, 3) := by decide +kernel
theorem dX4_clear_9 : decode cX4_clear 9 = .ok (.iconst 0, 1) := by decide +kernel
theorem dX4_clear_10 : decode cX4_clear 10 = .ok (.invokestatic 22, 3) := by decide +kernel
theorem dX4_clear_13 : decode cX4_clear 13 = .ok (.return_, 1) := by decide +kernel
theorem dX4_copyFrom_0 : decode cX4_copyFrom 0 = .ok (.aload_n 0, 1) := by decide +kernel
theorem dX4_copyFrom_1 : decode cX4_copyFrom 1 = .ok (.aload_n 1, 1) := by decide +kernel
theorem dX4_copyFrom_2 : decode cX4_copyFrom 2 = .ok (.getfield 18, 3) := by decide +kernel
theorem dX4_copyFrom_5 : decode cX4_copyFrom 5 = .ok (.putfield 18, 3) := by decide +kernel
theorem dX4_copyFrom_8 : decode cX4_copyFrom 8 = .ok (.aload_n 1, 1) := by decide +kernel
theorem dX4_copyFrom_9 : decode cX4_copyFrom 9 = .ok (.getfield 9, 3) := by decide +kernel
theorem dX4_copyFrom_12 : decode cX4_copyFrom 12 = .ok (.aload_n 0, 1) := by decide +kernel
theorem dX4_copyFrom_13 : decode cX4_copyFrom 13 = .ok (.getfield 9, 3) := by decide +kernel
theorem dX4_copyFrom_16 : decode cX4_copyFrom 16 = .ok (.invokestatic 28, 3) := by decide +kernel
theorem dX4_copyFrom_19 : decode cX4_copyFrom 19 = .ok (.aload_n 1, 1) := by decide +kernel
theorem dX4_copyFrom_20 : decode cX4_copyFrom 20 = .ok (.getfield 15, 3) := by decide +kernel
theorem dX4_copyFrom_23 : decode cX4_copyFrom 23 = .ok (.aload_n 0, 1) := by decide +kernel
theorem dX4_copyFrom_24 : decode cX4_copyFrom 24 = .ok (.getfield 15, 3) := by decide +kernel
theorem dX4_copyFrom_27 : decode cX4_copyFrom 27 = .ok (.invokestatic 28, 3) := by decide +kernel
theorem dX4_copyFrom_30 : decode cX4_copyFrom 30 = .ok (.return_, 1) := by decide +kernel
theorem dX4_add_0 : decode cX4_add 0 = .ok (.aload_n 0, 1) := by decide +kernel
theorem dX4_add_1 : decode cX4_add 1 = .ok (.getfield 18, 3) := by decide +kernel
theorem dX4_add_4 : decode cX4_add 4 = .ok (.sipush 300, 3) := by decide +kernel
theorem dX4_add_7 : decode cX4_add 7 = .ok (.if_icmp .ge 68, 3) := by decide +kernel
theorem dX4_add_10 : decode cX4_add 10 = .ok (.aload_n 0, 1) := by decide +kernel
theorem dX4_add_11 : decode cX4_add 11 = .ok (.getfield 9, 3) := by decide +kernel
theorem dX4_add_14 : decode cX4_add 14 = .ok (.aload_n 0, 1) := by decide +kernel
theorem dX4_add_15 : decode cX4_add 15 = .ok (.getfield 18, 3) := by decide +kernel
theorem dX4_add_18 : decode cX4_add 18 = .ok (.iload_n 1, 1) := by decide +kernel
theorem dX4_add_19 : decode cX4_add 19 = .ok (.iconst 5, 1) := by decide +kernel
theorem dX4_add_20 : decode cX4_add 20 = .ok (.ishl, 1) := by decide +kernel
theorem dX4_add_21 : decode cX4_add 21 = .ok (.iload_n 2, 1) := by decide +kernel
theorem dX4_add_22 : decode cX4_add 22 = .ok (.iconst 1, 1) := by decide +kernel
theorem dX4_add_23 : decode cX4_add 23 = .ok (.ishl, 1) := by decide +kernel
theorem dX4_add_24 : decode cX4_add 24 = .ok (.ior, 1) := by decide +kernel
theorem dX4_add_25 : decode cX4_add 25 = .ok (.iload_n 3, 1) := by decide +kernel
theorem dX4_add_26 : decode cX4_add 26 = .ok (.ifCond .eq 7, 3) := by decide +kernel
theorem dX4_add_29 : decode cX4_add 29 = .ok (.iconst 1, 1) := by decide +kernel
theorem dX4_add_30 : decode cX4_add 30 = .ok (.goto 4, 3) := by decide +kernel
theorem dX4_add_33 : decode cX4_add 33 = .ok (.iconst 0, 1) := by decide +kernel
theorem dX4_add_34 : decode cX4_add 34 = .ok (.ior, 1) := by decide +kernel
theorem dX4_add_35 : decode cX4_add 35 = .ok (.invokestatic 32, 3) := by decide +kernel
theorem dX4_add_38 : decode cX4_add 38 = .ok (.iload_n 1, 1) := by decide +kernel
theorem dX4_add_39 : decode cX4_add 39 = .ok (.iload_n 2, 1) := by decide +kernel
theorem dX4_add_40 : decode cX4_add 40 = .ok (.invokestatic 36, 3) := by decide +kernel
theorem dX4_add_43 : decode cX4_add 43 = .ok (.istore 4, 2) := by decide +kernel
theorem dX4_add_45 : decode cX4_add 45 = .ok (.aload_n 0, 1) := by decide +kernel
theorem dX4_add_46 : decode cX4_add 46 = .ok (.getfield 15, 3) := by decide +kernel
theorem dX4_add_49 : decode cX4_add 49 = .ok (.iload 4, 2) := by decide +kernel
theorem dX4_add_51 : decode cX4_add 51 = .ok (.aload_n 0, 1) := by decide +kernel
theorem dX4_add_52 : decode cX4_add 52 = .ok (.getfield 15, 3) := by decide +kernel
theorem dX4_add_55 : decode cX4_add 55 = .ok (.iload 4, 2) := by decide +kernel
theorem dX4_add_57 : decode cX4_add 57 = .ok (.invokestatic 40, 3) := by decide +kernel
theorem dX4_add_60 : decode cX4_add 60 = .ok (.iconst 1, 1) := by decide +kernel
theorem dX4_add_61 : decode cX4_add 61 = .ok (.iadd, 1) := by decide +kernel
theorem dX4_add_62 : decode cX4_add 62 = .ok (.invokestatic 32, 3) := by decide +kernel
theorem dX4_add_65 : decode cX4_add 65 = .ok (.aload_n 0, 1) := by decide +kernel
theorem dX4_add_66 : decode cX4_add 66 = .ok (.dup, 1) := by decide +kernel
theorem dX4_add_67 : decode cX4_add 67 = .ok (.getfield 18, 3) := by decide +kernel
theorem dX4_add_70 : decode cX4_add 70 = .ok (.iconst 1, 1) := by decide +kernel
theorem dX4_add_71 : decode cX4_add 71 = .ok (.iadd, 1) := by decide +kernel
theorem dX4_add_72 : decode cX4_add 72 = .ok (.putfield 18, 3) := by decide +kernel
theorem dX4_add_75 : decode cX4_add 75 = .ok (.return_, 1) := by decide +kernel
theorem dX4_pairIn_0 : decode cX4_pairIn 0 = .ok (.aload_n 0, 1) := by decide +kernel
theorem dX4_pairIn_1 : decode cX4_pairIn 1 = .ok (.getfield 9, 3) := by decide +kernel
theorem dX4_pairIn_4 : decode cX4_pairIn 4 = .ok (.iload_n 1, 1) := by decide +kernel
theorem dX4_pairIn_5 : decode cX4_pairIn 5 = .ok (.invokestatic 40, 3) := by decide +kernel
theorem dX4_pairIn_8 : decode cX4_pairIn 8 = .ok (.iconst 5, 1) := by decide +kernel
theorem dX4_pairIn_9 : decode cX4_pairIn 9 = .ok (.ishr, 1) := by decide +kernel
theorem dX4_pairIn_10 : decode cX4_pairIn 10 = .ok (.ireturn, 1) := by decide +kernel
theorem dX4_faceIn_0 : decode cX4_faceIn 0 = .ok (.aload_n 0, 1) := by decide +kernel
theorem dX4_faceIn_1 : decode cX4_faceIn 1 = .ok (.getfield 9, 3) := by decide +kernel
theorem dX4_faceIn_4 : decode cX4_faceIn 4 = .ok (.iload_n 1, 1) := by decide +kernel
theorem dX4_faceIn_5 : decode cX4_faceIn 5 = .ok (.invokestatic 40, 3) := by decide +kernel
theorem dX4_faceIn_8 : decode cX4_faceIn 8 = .ok (.iconst 1, 1) := by decide +kernel
theorem dX4_faceIn_9 : decode cX4_faceIn 9 = .ok (.ishr, 1) := by decide +kernel
theorem dX4_faceIn_10 : decode cX4_faceIn 10 = .ok (.bipush 15, 2) := by decide +kernel
theorem dX4_faceIn_12 : decode cX4_faceIn 12 = .ok (.iand, 1) := by decide +kernel
theorem dX4_faceIn_13 : decode cX4_faceIn 13 = .ok (.ireturn, 1) := by decide +kernel
theorem dX4_isMarked_0 : decode cX4_isMarked 0 = .ok (.aload_n 0, 1) := by decide +kernel
theorem dX4_isMarked_1 : decode cX4_isMarked 1 = .ok (.getfield 9, 3) := by decide +kernel
theorem dX4_isMarked_4 : decode cX4_isMarked 4 = .ok (.iload_n 1, 1) := by decide +kernel
theorem dX4_isMarked_5 : decode cX4_isMarked 5 = .ok (.invokestatic 40, 3) := by decide +kernel
theorem dX4_isMarked_8 : decode cX4_isMarked 8 = .ok (.iconst 1, 1) := by decide +kernel
theorem dX4_isMarked_9 : decode cX4_isMarked 9 = .ok (.iand, 1) := by decide +kernel
theorem dX4_isMarked_10 : decode cX4_isMarked 10 = .ok (.iconst 1, 1) := by decide +kernel
theorem dX4_isMarked_11 : decode cX4_isMarked 11 = .ok (.if_icmp .ne 7, 3) := by decide +kernel
theorem dX4_isMarked_14 : decode cX4_isMarked 14 = .ok (.iconst 1, 1) := by decide +kernel
theorem dX4_isMarked_15 : decode cX4_isMarked 15 = .ok (.goto 4, 3) := by decide +kernel
theorem dX4_isMarked_18 : decode cX4_isMarked 18 = .ok (.iconst 0, 1) := by decide +kernel
theorem dX4_isMarked_19 : decode cX4_isMarked 19 = .ok (.ireturn, 1) := by decide +kernel
theorem dX4_removeLatest_0 : decode cX4_removeLatest 0 = .ok (.aload_n 0, 1) := by decide +kernel
theorem dX4_removeLatest_1 : decode cX4_removeLatest 1 = .ok (.iload_n 1, 1) := by decide +kernel
theorem dX4_removeLatest_2 : decode cX4_removeLatest 2 = .ok (.invokevirtual 44, 3) := by decide +kernel
theorem dX4_removeLatest_5 : decode cX4_removeLatest 5 = .ok (.iload_n 2, 1) := by decide +kernel
theorem dX4_removeLatest_6 : decode cX4_removeLatest 6 = .ok (.isub, 1) := by decide +kernel
theorem dX4_removeLatest_7 : decode cX4_removeLatest 7 = .ok (.istore_n 3, 1) := by decide +kernel
theorem dX4_removeLatest_8 : decode cX4_removeLatest 8 = .ok (.aload_n 0, 1) := by decide +kernel
theorem dX4_removeLatest_9 : decode cX4_removeLatest 9 = .ok (.getfield 18, 3) := by decide +kernel
theorem dX4_removeLatest_12 : decode cX4_removeLatest 12 = .ok (.istore 4, 2) := by decide +kernel
theorem dX4_removeLatest_14 : decode cX4_removeLatest 14 = .ok (.aload_n 0, 1) := by decide +kernel
theorem dX4_removeLatest_15 : decode cX4_removeLatest 15 = .ok (.invokevirtual 48, 3) := by decide +kernel
theorem dX4_removeLatest_18 : decode cX4_removeLatest 18 = .ok (.iconst 0, 1) := by decide +kernel
theorem dX4_removeLatest_19 : decode cX4_removeLatest 19 = .ok (.istore 5, 2) := by decide +kernel
theorem dX4_removeLatest_21 : decode cX4_removeLatest 21 = .ok (.iload 5, 2) := by decide +kernel
theorem dX4_removeLatest_23 : decode cX4_removeLatest 23 = .ok (.iload 4, 2) := by decide +kernel
theorem dX4_removeLatest_25 : decode cX4_removeLatest 25 = .ok (.if_icmp .ge 54, 3) := by decide +kernel
theorem dX4_removeLatest_28 : decode cX4_removeLatest 28 = .ok (.aload_n 0, 1) := by decide +kernel
theorem dX4_removeLatest_29 : decode cX4_removeLatest 29 = .ok (.iload 5, 2) := by decide +kernel
theorem dX4_removeLatest_31 : decode cX4_removeLatest 31 = .ok (.invokevirtual 51, 3) := by decide +kernel
theorem dX4_removeLatest_34 : decode cX4_removeLatest 34 = .ok (.istore 6, 2) := by decide +kernel
theorem dX4_removeLatest_36 : decode cX4_removeLatest 36 = .ok (.iload 6, 2) := by decide +kernel
theorem dX4_removeLatest_38 : decode cX4_removeLatest 38 = .ok (.iload_n 1, 1) := by decide +kernel
theorem dX4_removeLatest_39 : decode cX4_removeLatest 39 = .ok (.if_icmp .ne 7, 3) := by decide +kernel
theorem dX4_removeLatest_42 : decode cX4_removeLatest 42 = .ok (.iload_n 3, 1) := by decide +kernel
theorem dX4_removeLatest_43 : decode cX4_removeLatest 43 = .ok (.ifCond .le 21, 3) := by decide +kernel
theorem dX4_removeLatest_46 : decode cX4_removeLatest 46 = .ok (.aload_n 0, 1) := by decide +kernel
theorem dX4_removeLatest_47 : decode cX4_removeLatest 47 = .ok (.iload 6, 2) := by decide +kernel
theorem dX4_removeLatest_49 : decode cX4_removeLatest 49 = .ok (.aload_n 0, 1) := by decide +kernel
theorem dX4_removeLatest_50 : decode cX4_removeLatest 50 = .ok (.iload 5, 2) := by decide +kernel
theorem dX4_removeLatest_52 : decode cX4_removeLatest 52 = .ok (.invokevirtual 54, 3) := by decide +kernel
theorem dX4_removeLatest_55 : decode cX4_removeLatest 55 = .ok (.aload_n 0, 1) := by decide +kernel
theorem dX4_removeLatest_56 : decode cX4_removeLatest 56 = .ok (.iload 5, 2) := by decide +kernel
theorem dX4_removeLatest_58 : decode cX4_removeLatest 58 = .ok (.invokevirtual 57, 3) := by decide +kernel
theorem dX4_removeLatest_61 : decode cX4_removeLatest 61 = .ok (.invokevirtual 61, 3) := by decide +kernel
theorem dX4_removeLatest_64 : decode cX4_removeLatest 64 = .ok (.iload 6, 2) := by decide +kernel
theorem dX4_removeLatest_66 : decode cX4_removeLatest 66 = .ok (.iload_n 1, 1) := by decide +kernel
theorem dX4_removeLatest_67 : decode cX4_removeLatest 67 = .ok (.if_icmp .ne 6, 3) := by decide +kernel
theorem dX4_removeLatest_70 : decode cX4_removeLatest 70 = .ok (.iinc 3 (-1), 3) := by decide +kernel
theorem dX4_removeLatest_73 : decode cX4_removeLatest 73 = .ok (.iinc 5 1, 3) := by decide +kernel
theorem dX4_removeLatest_76 : decode cX4_removeLatest 76 = .ok (.goto (-55), 3) := by decide +kernel
theorem dX4_removeLatest_79 : decode cX4_removeLatest 79 = .ok (.return_, 1) := by decide +kernel
theorem dX4_pairThrows_0 : decode cX4_pairThrows 0 = .ok (.aload_n 0, 1) := by decide +kernel
theorem dX4_pairThrows_1 : decode cX4_pairThrows 1 = .ok (.getfield 15, 3) := by decide +kernel
theorem dX4_pairThrows_4 : decode cX4_pairThrows 4 = .ok (.iload_n 1, 1) := by decide +kernel
theorem dX4_pairThrows_5 : decode cX4_pairThrows 5 = .ok (.iconst 1, 1) := by decide +kernel
theorem dX4_pairThrows_6 : decode cX4_pairThrows 6 = .ok (.invokestatic 36, 3) := by decide +kernel
theorem dX4_pairThrows_9 : decode cX4_pairThrows 9 = .ok (.bipush 12, 2) := by decide +kernel
theorem dX4_pairThrows_11 : decode cX4_pairThrows 11 = .ok (.invokestatic 65, 3) := by decide +kernel
theorem dX4_pairThrows_14 : decode cX4_pairThrows 14 = .ok (.ireturn, 1) := by decide +kernel
theorem dX4_distinctFaces_0 : decode cX4_distinctFaces 0 = .ok (.iconst 0, 1) := by decide +kernel
theorem dX4_distinctFaces_1 : decode cX4_distinctFaces 1 = .ok (.istore_n 2, 1) := by decide +kernel
theorem dX4_distinctFaces_2 : decode cX4_distinctFaces 2 = .ok (.iconst 1, 1) := by decide +kernel
theorem dX4_distinctFaces_3 : decode cX4_distinctFaces 3 = .ok (.istore_n 3, 1) := by decide +kernel
theorem dX4_distinctFaces_4 : decode cX4_distinctFaces 4 = .ok (.iload_n 3, 1) := by decide +kernel
theorem dX4_distinctFaces_5 : decode cX4_distinctFaces 5 = .ok (.bipush 12, 2) := by decide +kernel
theorem dX4_distinctFaces_7 : decode cX4_distinctFaces 7 = .ok (.if_icmp .gt 27, 3) := by decide +kernel
theorem dX4_distinctFaces_10 : decode cX4_distinctFaces 10 = .ok (.aload_n 0, 1) := by decide +kernel
theorem dX4_distinctFaces_11 : decode cX4_distinctFaces 11 = .ok (.getfield 15, 3) := by decide +kernel
theorem dX4_distinctFaces_14 : decode cX4_distinctFaces 14 = .ok (.iload_n 1, 1) := by decide +kernel
theorem dX4_distinctFaces_15 : decode cX4_distinctFaces 15 = .ok (.iload_n 3, 1) := by decide +kernel
theorem dX4_distinctFaces_16 : decode cX4_distinctFaces 16 = .ok (.invokestatic 36, 3) := by decide +kernel
theorem dX4_distinctFaces_19 : decode cX4_distinctFaces 19 = .ok (.invokestatic 40, 3) := by decide +kernel
theorem dX4_distinctFaces_22 : decode cX4_distinctFaces 22 = .ok (.ifCond .le 6, 3) := by decide +kernel
theorem dX4_distinctFaces_25 : decode cX4_distinctFaces 25 = .ok (.iinc 2 1, 3) := by decide +kernel
theorem dX4_distinctFaces_28 : decode cX4_distinctFaces 28 = .ok (.iinc 3 1, 3) := by decide +kernel
theorem dX4_distinctFaces_31 : decode cX4_distinctFaces 31 = .ok (.goto (-27), 3) := by decide +kernel
theorem dX4_distinctFaces_34 : decode cX4_distinctFaces 34 = .ok (.iload_n 2, 1) := by decide +kernel
theorem dX4_distinctFaces_35 : decode cX4_distinctFaces 35 = .ok (.ireturn, 1) := by decide +kernel
theorem dX4_latestOf_0 : decode cX4_latestOf 0 = .ok (.aload_n 0, 1) := by decide +kernel
theorem dX4_latestOf_1 : decode cX4_latestOf 1 = .ok (.getfield 18, 3) := by decide +kernel
theorem dX4_latestOf_4 : decode cX4_latestOf 4 = .ok (.iconst 1, 1) := by decide +kernel
theorem dX4_latestOf_5 : decode cX4_latestOf 5 = .ok (.isub, 1) := by decide +kernel
theorem dX4_latestOf_6 : decode cX4_latestOf 6 = .ok (.istore_n 2, 1) := by decide +kernel
theorem dX4_latestOf_7 : decode cX4_latestOf 7 = .ok (.iload_n 2, 1) := by decide +kernel
theorem dX4_latestOf_8 : decode cX4_latestOf 8 = .ok (.ifCond .lt 20, 3) := by decide +kernel
theorem dX4_latestOf_11 : decode cX4_latestOf 11 = .ok (.aload_n 0, 1) := by decide +kernel
theorem dX4_latestOf_12 : decode cX4_latestOf 12 = .ok (.iload_n 2, 1) := by decide +kernel
theorem dX4_latestOf_13 : decode cX4_latestOf 13 = .ok (.invokevirtual 51, 3) := by decide +kernel
theorem dX4_latestOf_16 : decode cX4_latestOf 16 = .ok (.iload_n 1, 1) := by decide +kernel
theorem dX4_latestOf_17 : decode cX4_latestOf 17 = .ok (.if_icmp .ne 5, 3) := by decide +kernel
theorem dX4_latestOf_20 : decode cX4_latestOf 20 = .ok (.iload_n 2, 1) := by decide +kernel
theorem dX4_latestOf_21 : decode cX4_latestOf 21 = .ok (.ireturn, 1) := by decide +kernel
theorem dX4_latestOf_22 : decode cX4_latestOf 22 = .ok (.iinc 2 (-1), 3) := by decide +kernel
theorem dX4_latestOf_25 : decode cX4_latestOf 25 = .ok (.goto (-18), 3) := by decide +kernel
theorem dX4_latestOf_28 : decode cX4_latestOf 28 = .ok (.iconst (-1), 1) := by decide +kernel
theorem dX4_latestOf_29 : decode cX4_latestOf 29 = .ok (.ireturn, 1) := by decide +kernel
theorem dX4_playerThrows_0 : decode cX4_playerThrows 0 = .ok (.aload_n 0, 1) := by decide +kernel
theorem dX4_playerThrows_1 : decode cX4_playerThrows 1 = .ok (.getfield 15, 3) := by decide +kernel
theorem dX4_playerThrows_4 : decode cX4_playerThrows 4 = .ok (.iload_n 1, 1) := by decide +kernel
theorem dX4_playerThrows_5 : decode cX4_playerThrows 5 = .ok (.iconst 0, 1) := by decide +kernel
theorem dX4_playerThrows_6 : decode cX4_playerThrows 6 = .ok (.invokestatic 69, 3) := by decide +kernel
theorem dX4_playerThrows_9 : decode cX4_playerThrows 9 = .ok (.iconst 1, 1) := by decide +kernel
theorem dX4_playerThrows_10 : decode cX4_playerThrows 10 = .ok (.invokestatic 36, 3) := by decide +kernel
theorem dX4_playerThrows_13 : decode cX4_playerThrows 13 = .ok (.bipush 72, 2) := by decide +kernel
theorem dX4_playerThrows_15 : decode cX4_playerThrows 15 = .ok (.invokestatic 65, 3) := by decide +kernel
theorem dX4_playerThrows_18 : decode cX4_playerThrows 18 = .ok (.ireturn, 1) := by decide +kernel
theorem dX4_playerTotal_0 : decode cX4_playerTotal 0 = .ok (.iconst 0, 1) := by decide +kernel
theorem dX4_playerTotal_1 : decode cX4_playerTotal 1 = .ok (.istore_n 2, 1) := by decide +kernel
theorem dX4_playerTotal_2 : decode cX4_playerTotal 2 = .ok (.iconst 0, 1) := by decide +kernel
theorem dX4_playerTotal_3 : decode cX4_playerTotal 3 = .ok (.istore_n 3, 1) := by decide +kernel
theorem dX4_playerTotal_4 : decode cX4_playerTotal 4 = .ok (.iload_n 3, 1) := by decide +kernel
theorem dX4_playerTotal_5 : decode cX4_playerTotal 5 = .ok (.bipush 6, 2) := by decide +kernel
theorem dX4_playerTotal_7 : decode cX4_playerTotal 7 = .ok (.if_icmp .ge 48, 3) := by decide +kernel
theorem dX4_playerTotal_10 : decode cX4_playerTotal 10 = .ok (.iconst 1, 1) := by decide +kernel
theorem dX4_playerTotal_11 : decode cX4_playerTotal 11 = .ok (.istore 4, 2) := by decide +kernel
theorem dX4_playerTotal_13 : decode cX4_playerTotal 13 = .ok (.iload 4, 2) := by decide +kernel
theorem dX4_playerTotal_15 : decode cX4_playerTotal 15 = .ok (.bipush 12, 2) := by decide +kernel
theorem dX4_playerTotal_17 : decode cX4_playerTotal 17 = .ok (.if_icmp .gt 32, 3) := by decide +kernel
theorem dX4_playerTotal_20 : decode cX4_playerTotal 20 = .ok (.iload_n 2, 1) := by decide +kernel
theorem dX4_playerTotal_21 : decode cX4_playerTotal 21 = .ok (.iload 4, 2) := by decide +kernel
theorem dX4_playerTotal_23 : decode cX4_playerTotal 23 = .ok (.aload_n 0, 1) := by decide +kernel
theorem dX4_playerTotal_24 : decode cX4_playerTotal 24 = .ok (.getfield 15, 3) := by decide +kernel
theorem dX4_playerTotal_27 : decode cX4_playerTotal 27 = .ok (.iload_n 1, 1) := by decide +kernel
theorem dX4_playerTotal_28 : decode cX4_playerTotal 28 = .ok (.iload_n 3, 1) := by decide +kernel
theorem dX4_playerTotal_29 : decode cX4_playerTotal 29 = .ok (.invokestatic 69, 3) := by decide +kernel
theorem dX4_playerTotal_32 : decode cX4_playerTotal 32 = .ok (.iload 4, 2) := by decide +kernel
theorem dX4_playerTotal_34 : decode cX4_playerTotal 34 = .ok (.invokestatic 36, 3) := by decide +kernel
theorem dX4_playerTotal_37 : decode cX4_playerTotal 37 = .ok (.invokestatic 40, 3) := by decide +kernel
theorem dX4_playerTotal_40 : decode cX4_playerTotal 40 = .ok (.imul, 1) := by decide +kernel
theorem dX4_playerTotal_41 : decode cX4_playerTotal 41 = .ok (.iadd, 1) := by decide +kernel
theorem dX4_playerTotal_42 : decode cX4_playerTotal 42 = .ok (.istore_n 2, 1) := by decide +kernel
theorem dX4_playerTotal_43 : decode cX4_playerTotal 43 = .ok (.iinc 4 1, 3) := by decide +kernel
theorem dX4_playerTotal_46 : decode cX4_playerTotal 46 = .ok (.goto (-33), 3) := by decide +kernel
theorem dX4_playerTotal_49 : decode cX4_playerTotal 49 = .ok (.iinc 3 1, 3) := by decide +kernel
theorem dX4_playerTotal_52 : decode cX4_playerTotal 52 = .ok (.goto (-48), 3) := by decide +kernel
theorem dX4_playerTotal_55 : decode cX4_playerTotal 55 = .ok (.iload_n 2, 1) := by decide +kernel
theorem dX4_playerTotal_56 : decode cX4_playerTotal 56 = .ok (.ireturn, 1) := by decide +kernel
theorem dX4_longestStreak_0 : decode cX4_longestStreak 0 = .ok (.iconst 0, 1) := by decide +kernel
theorem dX4_longestStreak_1 : decode cX4_longestStreak 1 = .ok (.istore_n 2, 1) := by decide +kernel
theorem dX4_longestStreak_2 : decode cX4_longestStreak 2 = .ok (.iconst 0, 1) := by decide +kernel
theorem dX4_longestStreak_3 : decode cX4_longestStreak 3 = .ok (.istore_n 3, 1) := by decide +kernel
theorem dX4_longestStreak_4 : decode cX4_longestStreak 4 = .ok (.iconst 0, 1) := by decide +kernel
theorem dX4_longestStreak_5 : decode cX4_longestStreak 5 = .ok (.istore 4, 2) := by decide +kernel
theorem dX4_longestStreak_7 : decode cX4_longestStreak 7 = .ok (.iconst 0, 1) := by decide +kernel
theorem dX4_longestStreak_8 : decode cX4_longestStreak 8 = .ok (.istore 5, 2) := by decide +kernel
theorem dX4_longestStreak_10 : decode cX4_longestStreak 10 = .ok (.iload 5, 2) := by decide +kernel
theorem dX4_longestStreak_12 : decode cX4_longestStreak 12 = .ok (.aload_n 0, 1) := by decide +kernel
theorem dX4_longestStreak_13 : decode cX4_longestStreak 13 = .ok (.getfield 18, 3) := by decide +kernel
theorem dX4_longestStreak_16 : decode cX4_longestStreak 16 = .ok (.if_icmp .ge 55, 3) := by decide +kernel
theorem dX4_longestStreak_19 : decode cX4_longestStreak 19 = .ok (.aload_n 0, 1) := by decide +kernel
theorem dX4_longestStreak_20 : decode cX4_longestStreak 20 = .ok (.iload 5, 2) := by decide +kernel
theorem dX4_longestStreak_22 : decode cX4_longestStreak 22 = .ok (.invokevirtual 51, 3) := by decide +kernel
theorem dX4_longestStreak_25 : decode cX4_longestStreak 25 = .ok (.invokestatic 72, 3) := by decide +kernel
theorem dX4_longestStreak_28 : decode cX4_longestStreak 28 = .ok (.iload_n 1, 1) := by decide +kernel
theorem dX4_longestStreak_29 : decode cX4_longestStreak 29 = .ok (.if_icmp .ne 36, 3) := by decide +kernel
theorem dX4_longestStreak_32 : decode cX4_longestStreak 32 = .ok (.aload_n 0, 1) := by decide +kernel
theorem dX4_longestStreak_33 : decode cX4_longestStreak 33 = .ok (.iload 5, 2) := by decide +kernel
theorem dX4_longestStreak_35 : decode cX4_longestStreak 35 = .ok (.invokevirtual 54, 3) := by decide +kernel
theorem dX4_longestStreak_38 : decode cX4_longestStreak 38 = .ok (.iload 4, 2) := by decide +kernel
theorem dX4_longestStreak_40 : decode cX4_longestStreak 40 = .ok (.if_icmp .ne 9, 3) := by decide +kernel
theorem dX4_longestStreak_43 : decode cX4_longestStreak 43 = .ok (.iload_n 3, 1) := by decide +kernel
theorem dX4_longestStreak_44 : decode cX4_longestStreak 44 = .ok (.iconst 1, 1) := by decide +kernel
theorem dX4_longestStreak_45 : decode cX4_longestStreak 45 = .ok (.iadd, 1) := by decide +kernel
theorem dX4_longestStreak_46 : decode cX4_longestStreak 46 = .ok (.goto 4, 3) := by decide +kernel
theorem dX4_longestStreak_49 : decode cX4_longestStreak 49 = .ok (.iconst 1, 1) := by decide +kernel
theorem dX4_longestStreak_50 : decode cX4_longestStreak 50 = .ok (.istore_n 3, 1) := by decide +kernel
theorem dX4_longestStreak_51 : decode cX4_longestStreak 51 = .ok (.aload_n 0, 1) := by decide +kernel
theorem dX4_longestStreak_52 : decode cX4_longestStreak 52 = .ok (.iload 5, 2) := by decide +kernel
theorem dX4_longestStreak_54 : decode cX4_longestStreak 54 = .ok (.invokevirtual 54, 3) := by decide +kernel
theorem dX4_longestStreak_57 : decode cX4_longestStreak 57 = .ok (.istore 4, 2) := by decide +kernel
theorem dX4_longestStreak_59 : decode cX4_longestStreak 59 = .ok (.iload_n 2, 1) := by decide +kernel
theorem dX4_longestStreak_60 : decode cX4_longestStreak 60 = .ok (.iload_n 3, 1) := by decide +kernel
theorem dX4_longestStreak_61 : decode cX4_longestStreak 61 = .ok (.invokestatic 75, 3) := by decide +kernel
theorem dX4_longestStreak_64 : decode cX4_longestStreak 64 = .ok (.istore_n 2, 1) := by decide +kernel
theorem dX4_longestStreak_65 : decode cX4_longestStreak 65 = .ok (.iinc 5 1, 3) := by decide +kernel
theorem dX4_longestStreak_68 : decode cX4_longestStreak 68 = .ok (.goto (-58), 3) := by decide +kernel
theorem dX4_longestStreak_71 : decode cX4_longestStreak 71 = .ok (.iload_n 2, 1) := by decide +kernel
theorem dX4_longestStreak_72 : decode cX4_longestStreak 72 = .ok (.ireturn, 1) := by decide +kernel
theorem dX4_frequencySum_0 : decode cX4_frequencySum 0 = .ok (.aload_n 0, 1) := by decide +kernel
theorem dX4_frequencySum_1 : decode cX4_frequencySum 1 = .ok (.getfield 15, 3) := by decide +kernel
theorem dX4_frequencySum_4 : decode cX4_frequencySum 4 = .ok (.iconst 0, 1) := by decide +kernel
theorem dX4_frequencySum_5 : decode cX4_frequencySum 5 = .ok (.aload_n 0, 1) := by decide +kernel
theorem dX4_frequencySum_6 : decode cX4_frequencySum 6 = .ok (.getfield 15, 3) := by decide +kernel
theorem dX4_frequencySum_9 : decode cX4_frequencySum 9 = .ok (.arraylength, 1) := by decide +kernel
theorem dX4_frequencySum_10 : decode cX4_frequencySum 10 = .ok (.invokestatic 65, 3) := by decide +kernel
theorem dX4_frequencySum_13 : decode cX4_frequencySum 13 = .ok (.ireturn, 1) := by decide +kernel
theorem dX4_faceSum_0 : decode cX4_faceSum 0 = .ok (.iconst 0, 1) := by decide +kernel
theorem dX4_faceSum_1 : decode cX4_faceSum 1 = .ok (.istore_n 1, 1) := by decide +kernel
theorem dX4_faceSum_2 : decode cX4_faceSum 2 = .ok (.iconst 0, 1) := by decide +kernel
theorem dX4_faceSum_3 : decode cX4_faceSum 3 = .ok (.istore_n 2, 1) := by decide +kernel
theorem dX4_faceSum_4 : decode cX4_faceSum 4 = .ok (.iload_n 2, 1) := by decide +kernel
theorem dX4_faceSum_5 : decode cX4_faceSum 5 = .ok (.aload_n 0, 1) := by decide +kernel
theorem dX4_faceSum_6 : decode cX4_faceSum 6 = .ok (.getfield 18, 3) := by decide +kernel
theorem dX4_faceSum_9 : decode cX4_faceSum 9 = .ok (.if_icmp .ge 17, 3) := by decide +kernel
theorem dX4_faceSum_12 : decode cX4_faceSum 12 = .ok (.iload_n 1, 1) := by decide +kernel
theorem dX4_faceSum_13 : decode cX4_faceSum 13 = .ok (.aload_n 0, 1) := by decide +kernel
theorem dX4_faceSum_14 : decode cX4_faceSum 14 = .ok (.iload_n 2, 1) := by decide +kernel
theorem dX4_faceSum_15 : decode cX4_faceSum 15 = .ok (.invokevirtual 54, 3) := by decide +kernel
theorem dX4_faceSum_18 : decode cX4_faceSum 18 = .ok (.iadd, 1) := by decide +kernel
theorem dX4_faceSum_19 : decode cX4_faceSum 19 = .ok (.istore_n 1, 1) := by decide +kernel
theorem dX4_faceSum_20 : decode cX4_faceSum 20 = .ok (.iinc 2 1, 3) := by decide +kernel
theorem dX4_faceSum_23 : decode cX4_faceSum 23 = .ok (.goto (-19), 3) := by decide +kernel
theorem dX4_faceSum_26 : decode cX4_faceSum 26 = .ok (.iload_n 1, 1) := by decide +kernel
theorem dX4_faceSum_27 : decode cX4_faceSum 27 = .ok (.ireturn, 1) := by decide +kernel
theorem dX4_markedThrows_0 : decode cX4_markedThrows 0 = .ok (.iconst 0, 1) := by decide +kernel
theorem dX4_markedThrows_1 : decode cX4_markedThrows 1 = .ok (.istore_n 1, 1) := by decide +kernel
theorem dX4_markedThrows_2 : decode cX4_markedThrows 2 = .ok (.iconst 0, 1) := by decide +kernel
theorem dX4_markedThrows_3 : decode cX4_markedThrows 3 = .ok (.istore_n 2, 1) := by decide +kernel
theorem dX4_markedThrows_4 : decode cX4_markedThrows 4 = .ok (.iload_n 2, 1) := by decide +kernel
theorem dX4_markedThrows_5 : decode cX4_markedThrows 5 = .ok (.aload_n 0, 1) := by decide +kernel
theorem dX4_markedThrows_6 : decode cX4_markedThrows 6 = .ok (.getfield 18, 3) := by decide +kernel
theorem dX4_markedThrows_9 : decode cX4_markedThrows 9 = .ok (.if_icmp .ge 20, 3) := by decide +kernel
theorem dX4_markedThrows_12 : decode cX4_markedThrows 12 = .ok (.aload_n 0, 1) := by decide +kernel
theorem dX4_markedThrows_13 : decode cX4_markedThrows 13 = .ok (.iload_n 2, 1) := by decide +kernel
theorem dX4_markedThrows_14 : decode cX4_markedThrows 14 = .ok (.invokevirtual 57, 3) := by decide +kernel
theorem dX4_markedThrows_17 : decode cX4_markedThrows 17 = .ok (.ifCond .eq 6, 3) := by decide +kernel
theorem dX4_markedThrows_20 : decode cX4_markedThrows 20 = .ok (.iinc 1 1, 3) := by decide +kernel
theorem dX4_markedThrows_23 : decode cX4_markedThrows 23 = .ok (.iinc 2 1, 3) := by decide +kernel
theorem dX4_markedThrows_26 : decode cX4_markedThrows 26 = .ok (.goto (-22), 3) := by decide +kernel
theorem dX4_markedThrows_29 : decode cX4_markedThrows 29 = .ok (.iload_n 1, 1) := by decide +kernel
theorem dX4_markedThrows_30 : decode cX4_markedThrows 30 = .ok (.ireturn, 1) := by decide +kernel
theorem dX5_init_0 : decode cX5_init 0 = .ok (.aload_n 0, 1) := by decide +kernel
theorem dX5_init_1 : decode cX5_init 1 = .ok (.invokespecial 3, 3) := by decide +kernel
theorem dX5_init_4 : decode cX5_init 4 = .ok (.aload_n 0, 1) := by decide +kernel
theorem dX5_init_5 : decode cX5_init 5 = .ok (.new 9, 3) := by decide +kernel
theorem dX5_init_8 : decode cX5_init 8 = .ok (.dup, 1) := by decide +kernel
theorem dX5_init_9 : decode cX5_init 9 = .ok (.invokespecial 11, 3) := by decide +kernel
theorem dX5_init_12 : decode cX5_init 12 = .ok (.putfield 12, 3) := by decide +kernel
theorem dX5_init_15 : decode cX5_init 15 = .ok (.aload_n 0, 1) := by decide +kernel
theorem dX5_init_16 : decode cX5_init 16 = .ok (.iconst 0, 1) := by decide +kernel
theorem dX5_init_17 : decode cX5_init 17 = .ok (.putfield 18, 3) := by decide +kernel
theorem dX5_init_20 : decode cX5_init 20 = .ok (.aload_n 0, 1) := by decide +kernel
theorem dX5_init_21 : decode cX5_init 21 = .ok (.iconst (-1), 1) := by decide +kernel
theorem dX5_init_22 : decode cX5_init 22 = .ok (.putfield 22, 3) := by decide +kernel
theorem dX5_init_25 : decode cX5_init 25 = .ok (.aload_n 0, 1) := by decide +kernel
theorem dX5_init_26 : decode cX5_init 26 = .ok (.aload_n 1, 1) := by decide +kernel
theorem dX5_init_27 : decode cX5_init 27 = .ok (.putfield 25, 3) := by decide +kernel
theorem dX5_init_30 : decode cX5_init 30 = .ok (.aload_n 0, 1) := by decide +kernel
theorem dX5_init_31 : decode cX5_init 31 = .ok (.new 29, 3) := by decide +kernel
theorem dX5_init_34 : decode cX5_init 34 = .ok (.dup, 1) := by decide +kernel
theorem dX5_init_35 : decode cX5_init 35 = .ok (.aload_n 1, 1) := by decide +kernel
theorem dX5_init_36 : decode cX5_init 36 = .ok (.invokespecial 31, 3) := by decide +kernel
theorem dX5_init_39 : decode cX5_init 39 = .ok (.putfield 34, 3) := by decide +kernel
theorem dX5_init_42 : decode cX5_init 42 = .ok (.return_, 1) := by decide +kernel
theorem dX5_parse_0 : decode cX5_parse 0 = .ok (.aload_n 0, 1) := by decide +kernel
theorem dX5_parse_1 : decode cX5_parse 1 = .ok (.iconst 0, 1) := by decide +kernel
theorem dX5_parse_2 : decode cX5_parse 2 = .ok (.putfield 18, 3) := by decide +kernel
theorem dX5_parse_5 : decode cX5_parse 5 = .ok (.aload_n 0, 1) := by decide +kernel
theorem dX5_parse_6 : decode cX5_parse 6 = .ok (.iconst (-1), 1) := by decide +kernel
theorem dX5_parse_7 : decode cX5_parse 7 = .ok (.putfield 22, 3) := by decide +kernel
theorem dX5_parse_10 : decode cX5_parse 10 = .ok (.aload_n 0, 1) := by decide +kernel
theorem dX5_parse_11 : decode cX5_parse 11 = .ok (.getfield 34, 3) := by decide +kernel
theorem dX5_parse_14 : decode cX5_parse 14 = .ok (.invokevirtual 38, 3) := by decide +kernel
theorem dX5_parse_17 : decode cX5_parse 17 = .ok (.aload_n 0, 1) := by decide +kernel
theorem dX5_parse_18 : decode cX5_parse 18 = .ok (.invokevirtual 41, 3) := by decide +kernel
theorem dX5_parse_21 : decode cX5_parse 21 = .ok (.iconst 0, 1) := by decide +kernel
theorem dX5_parse_22 : decode cX5_parse 22 = .ok (.istore_n 1, 1) := by decide +kernel
theorem dX5_parse_23 : decode cX5_parse 23 = .ok (.iload_n 1, 1) := by decide +kernel
theorem dX5_parse_24 : decode cX5_parse 24 = .ok (.sipush 600, 3) := by decide +kernel
theorem dX5_parse_27 : decode cX5_parse 27 = .ok (.if_icmp .ge 20, 3) := by decide +kernel
theorem dX5_parse_30 : decode cX5_parse 30 = .ok (.aload_n 0, 1) := by decide +kernel
theorem dX5_parse_31 : decode cX5_parse 31 = .ok (.invokevirtual 44, 3) := by decide +kernel
theorem dX5_parse_34 : decode cX5_parse 34 = .ok (.ifCond .eq 13, 3) := by decide +kernel
theorem dX5_parse_37 : decode cX5_parse 37 = .ok (.aload_n 0, 1) := by decide +kernel
theorem dX5_parse_38 : decode cX5_parse 38 = .ok (.invokevirtual 48, 3) := by decide +kernel
theorem dX5_parse_41 : decode cX5_parse 41 = .ok (.iinc 1 1, 3) := by decide +kernel
theorem dX5_parse_44 : decode cX5_parse 44 = .ok (.goto (-21), 3) := by decide +kernel
theorem dX5_parse_47 : decode cX5_parse 47 = .ok (.aload_n 0, 1) := by decide +kernel
theorem dX5_parse_48 : decode cX5_parse 48 = .ok (.getfield 18, 3) := by decide +kernel
theorem dX5_parse_51 : decode cX5_parse 51 = .ok (.ifCond .ne 7, 3) := by decide +kernel
theorem dX5_parse_54 : decode cX5_parse 54 = .ok (.iconst 1, 1) := by decide +kernel
theorem dX5_parse_55 : decode cX5_parse 55 = .ok (.goto 4, 3) := by decide +kernel
theorem dX5_parse_58 : decode cX5_parse 58 = .ok (.iconst 0, 1) := by decide +kernel
theorem dX5_parse_59 : decode cX5_parse 59 = .ok (.ireturn, 1) := by decide +kernel
theorem dX5_hasMore_0 : decode cX5_hasMore 0 = .ok (.aload_n 0, 1) := by decide +kernel
theorem dX5_hasMore_1 : decode cX5_hasMore 1 = .ok (.getfield 18, 3) := by decide +kernel
theorem dX5_hasMore_4 : decode cX5_hasMore 4 = .ok (.ifCond .ne 17, 3) := by decide +kernel
theorem dX5_hasMore_7 : decode cX5_hasMore 7 = .ok (.aload_n 0, 1) := by decide +kernel
theorem dX5_hasMore_8 : decode cX5_hasMore 8 = .ok (.getfield 34, 3) := by decide +kernel
theorem dX5_hasMore_11 : decode cX5_hasMore 11 = .ok (.getfield 51, 3) := by decide +kernel
theorem dX5_hasMore_14 : decode cX5_hasMore 14 = .ok (.ifCond .eq 7, 3) := by decide +kernel
theorem dX5_hasMore_17 : decode cX5_hasMore 17 = .ok (.iconst 1, 1) := by decide +kernel
theorem dX5_hasMore_18 : decode cX5_hasMore 18 = .ok (.goto 4, 3) := by decide +kernel
theorem dX5_hasMore_21 : decode cX5_hasMore 21 = .ok (.iconst 0, 1) := by decide +kernel
theorem dX5_hasMore_22 : decode cX5_hasMore 22 = .ok (.ireturn, 1) := by decide +kernel
theorem dX5_readHall_0 : decode cX5_readHall 0 = .ok (.aload_n 0, 1) := by decide +kernel
theorem dX5_readHall_1 : decode cX5_readHall 1 = .ok (.aload_n 0, 1) := by decide +kernel
theorem dX5_readHall_2 : decode cX5_readHall 2 = .ok (.getfield 34, 3) := by decide +kernel
theorem dX5_readHall_5 : decode cX5_readHall 5 = .ok (.ldc 54, 2) := by decide +kernel
theorem dX5_readHall_7 : decode cX5_readHall 7 = .ok (.invokevirtual 56, 3) := by decide +kernel
theorem dX5_readHall_10 : decode cX5_readHall 10 = .ok (.ifCond .eq 7, 3) := by decide +kernel
theorem dX5_readHall_13 : decode cX5_readHall 13 = .ok (.iconst 0, 1) := by decide +kernel
theorem dX5_readHall_14 : decode cX5_readHall 14 = .ok (.goto 4, 3) := by decide +kernel
theorem dX5_readHall_17 : decode cX5_readHall 17 = .ok (.iconst 1, 1) := by decide +kernel
theorem dX5_readHall_18 : decode cX5_readHall 18 = .ok (.invokevirtual 60, 3) := by decide +kernel
theorem dX5_readHall_21 : decode cX5_readHall 21 = .ok (.aload_n 0, 1) := by decide +kernel
theorem dX5_readHall_22 : decode cX5_readHall 22 = .ok (.iconst 0, 1) := by decide +kernel
theorem dX5_readHall_23 : decode cX5_readHall 23 = .ok (.ldc 64, 2) := by decide +kernel
theorem dX5_readHall_25 : decode cX5_readHall 25 = .ok (.invokevirtual 65, 3) := by decide +kernel
theorem dX5_readHall_28 : decode cX5_readHall 28 = .ok (.istore_n 1, 1) := by decide +kernel
theorem dX5_readHall_29 : decode cX5_readHall 29 = .ok (.aload_n 0, 1) := by decide +kernel
theorem dX5_readHall_30 : decode cX5_readHall 30 = .ok (.iconst 1, 1) := by decide +kernel
theorem dX5_readHall_31 : decode cX5_readHall 31 = .ok (.bipush 99, 2) := by decide +kernel
theorem dX5_readHall_33 : decode cX5_readHall 33 = .ok (.invokevirtual 65, 3) := by decide +kernel
theorem dX5_readHall_36 : decode cX5_readHall 36 = .ok (.istore_n 2, 1) := by decide +kernel
theorem dX5_readHall_37 : decode cX5_readHall 37 = .ok (.aload_n 0, 1) := by decide +kernel
theorem dX5_readHall_38 : decode cX5_readHall 38 = .ok (.iconst 0, 1) := by decide +kernel
theorem dX5_readHall_39 : decode cX5_readHall 39 = .ok (.sipush 999, 3) := by decide +kernel
theorem dX5_readHall_42 : decode cX5_readHall 42 = .ok (.invokevirtual 65, 3) := by decide +kernel
theorem dX5_readHall_45 : decode cX5_readHall 45 = .ok (.istore_n 3, 1) := by decide +kernel
theorem dX5_readHall_46 : decode cX5_readHall 46 = .ok (.aload_n 0, 1) := by decide +kernel
theorem dX5_readHall_47 : decode cX5_readHall 47 = .ok (.iconst 0, 1) := by decide +kernel
theorem dX5_readHall_48 : decode cX5_readHall 48 = .ok (.invokevirtual 69, 3) := by decide +kernel
theorem dX5_readHall_51 : decode cX5_readHall 51 = .ok (.aload_n 0, 1) := by decide +kernel
theorem dX5_readHall_52 : decode cX5_readHall 52 = .ok (.getfield 18, 3) := by decide +kernel
theorem dX5_readHall_55 : decode cX5_readHall 55 = .ok (.ifCond .ne 13, 3) := by decide +kernel
theorem dX5_readHall_58 : decode cX5_readHall 58 = .ok (.aload_n 0, 1) := by decide +kernel
theorem dX5_readHall_59 : decode cX5_readHall 59 = .ok (.getfield 12, 3) := by decide +kernel
theorem dX5_readHall_62 : decode cX5_readHall 62 = .ok (.iload_n 1, 1) := by decide +kernel
theorem dX5_readHall_63 : decode cX5_readHall 63 = .ok (.iload_n 2, 1) := by decide +kernel
theorem dX5_readHall_64 : decode cX5_readHall 64 = .ok (.iload_n 3, 1) := by decide +kernel
theorem dX5_readHall_65 : decode cX5_readHall 65 = .ok (.invokevirtual 72, 3) := by decide +kernel
theorem dX5_readHall_68 : decode cX5_readHall 68 = .ok (.return_, 1) := by decide +kernel
theorem dX5_readStatement_0 : decode cX5_readStatement 0 = .ok (.aload_n 0, 1) := by decide +kernel
theorem dX5_readStatement_1 : decode cX5_readStatement 1 = .ok (.getfield 34, 3) := by decide +kernel
theorem dX5_readStatement_4 : decode cX5_readStatement 4 = .ok (.ldc 76, 2) := by decide +kernel
theorem dX5_readStatement_6 : decode cX5_readStatement 6 = .ok (.invokevirtual 56, 3) := by decide +kernel
theorem dX5_readStatement_9 : decode cX5_readStatement 9 = .ok (.ifCond .eq 10, 3) := by decide +kernel
theorem dX5_readStatement_12 : decode cX5_readStatement 12 = .ok (.aload_n 0, 1) := by decide +kernel
theorem dX5_readStatement_13 : decode cX5_readStatement 13 = .ok (.invokevirtual 78, 3) := by decide +kernel
theorem dX5_readStatement_16 : decode cX5_readStatement 16 = .ok (.goto 103, 3) := by decide +kernel
theorem dX5_readStatement_19 : decode cX5_readStatement 19 = .ok (.aload_n 0, 1) := by decide +kernel
theorem dX5_readStatement_20 : decode cX5_readStatement 20 = .ok (.getfield 34, 3) := by decide +kernel
theorem dX5_readStatement_23 : decode cX5_readStatement 23 = .ok (.ldc 81, 2) := by decide +kernel
theorem dX5_readStatement_25 : decode cX5_readStatement 25 = .ok (.invokevirtual 56, 3) := by decide +kernel
theorem dX5_readStatement_28 : decode cX5_readStatement 28 = .ok (.ifCond .eq 10, 3) := by decide +kernel
theorem dX5_readStatement_31 : decode cX5_readStatement 31 = .ok (.aload_n 0, 1) := by decide +kernel
theorem dX5_readStatement_32 : decode cX5_readStatement 32 = .ok (.invokevirtual 83, 3) := by decide +kernel
theorem dX5_readStatement_35 : decode cX5_readStatement 35 = .ok (.goto 84, 3) := by decide +kernel
theorem dX5_readStatement_38 : decode cX5_readStatement 38 = .ok (.aload_n 0, 1) := by decide +kernel
theorem dX5_readStatement_39 : decode cX5_readStatement 39 = .ok (.getfield 34, 3) := by decide +kernel
theorem dX5_readStatement_42 : decode cX5_readStatement 42 = .ok (.ldc 86, 2) := by decide +kernel
theorem dX5_readStatement_44 : decode cX5_readStatement 44 = .ok (.invokevirtual 56, 3) := by decide +kernel
theorem dX5_readStatement_47 : decode cX5_readStatement 47 = .ok (.ifCond .eq 10, 3) := by decide +kernel
theorem dX5_readStatement_50 : decode cX5_readStatement 50 = .ok (.aload_n 0, 1) := by decide +kernel
theorem dX5_readStatement_51 : decode cX5_readStatement 51 = .ok (.invokevirtual 88, 3) := by decide +kernel
theorem dX5_readStatement_54 : decode cX5_readStatement 54 = .ok (.goto 65, 3) := by decide +kernel
theorem dX5_readStatement_57 : decode cX5_readStatement 57 = .ok (.aload_n 0, 1) := by decide +kernel
theorem dX5_readStatement_58 : decode cX5_readStatement 58 = .ok (.getfield 34, 3) := by decide +kernel
theorem dX5_readStatement_61 : decode cX5_readStatement 61 = .ok (.ldc 91, 2) := by decide +kernel
theorem dX5_readStatement_63 : decode cX5_readStatement 63 = .ok (.invokevirtual 56, 3) := by decide +kernel
theorem dX5_readStatement_66 : decode cX5_readStatement 66 = .ok (.ifCond .eq 10, 3) := by decide +kernel
theorem dX5_readStatement_69 : decode cX5_readStatement 69 = .ok (.aload_n 0, 1) := by decide +kernel
theorem dX5_readStatement_70 : decode cX5_readStatement 70 = .ok (.invokevirtual 93, 3) := by decide +kernel
theorem dX5_readStatement_73 : decode cX5_readStatement 73 = .ok (.goto 46, 3) := by decide +kernel
theorem dX5_readStatement_76 : decode cX5_readStatement 76 = .ok (.aload_n 0, 1) := by decide +kernel
theorem dX5_readStatement_77 : decode cX5_readStatement 77 = .ok (.getfield 34, 3) := by decide +kernel
theorem dX5_readStatement_80 : decode cX5_readStatement 80 = .ok (.ldc 96, 2) := by decide +kernel
theorem dX5_readStatement_82 : decode cX5_readStatement 82 = .ok (.invokevirtual 56, 3) := by decide +kernel
theorem dX5_readStatement_85 : decode cX5_readStatement 85 = .ok (.ifCond .eq 10, 3) := by decide +kernel
theorem dX5_readStatement_88 : decode cX5_readStatement 88 = .ok (.aload_n 0, 1) := by decide +kernel
theorem dX5_readStatement_89 : decode cX5_readStatement 89 = .ok (.invokevirtual 98, 3) := by decide +kernel
theorem dX5_readStatement_92 : decode cX5_readStatement 92 = .ok (.goto 27, 3) := by decide +kernel
theorem dX5_readStatement_95 : decode cX5_readStatement 95 = .ok (.aload_n 0, 1) := by decide +kernel
theorem dX5_readStatement_96 : decode cX5_readStatement 96 = .ok (.getfield 34, 3) := by decide +kernel
theorem dX5_readStatement_99 : decode cX5_readStatement 99 = .ok (.ldc 101, 2) := by decide +kernel
theorem dX5_readStatement_101 : decode cX5_readStatement 101 = .ok (.invokevirtual 56, 3) := by decide +kernel
theorem dX5_readStatement_104 : decode cX5_readStatement 104 = .ok (.ifCond .eq 10, 3) := by decide +kernel
theorem dX5_readStatement_107 : decode cX5_readStatement 107 = .ok (.aload_n 0, 1) := by decide +kernel
theorem dX5_readStatement_108 : decode cX5_readStatement 108 = .ok (.invokevirtual 103, 3) := by decide +kernel
theorem dX5_readStatement_111 : decode cX5_readStatement 111 = .ok (.goto 8, 3) := by decide +kernel
theorem dX5_readStatement_114 : decode cX5_readStatement 114 = .ok (.aload_n 0, 1) := by decide +kernel
theorem dX5_readStatement_115 : decode cX5_readStatement 115 = .ok (.iconst 1, 1) := by decide +kernel
theorem dX5_readStatement_116 : decode cX5_readStatement 116 = .ok (.invokevirtual 106, 3) := by decide +kernel
theorem dX5_readStatement_119 : decode cX5_readStatement 119 = .ok (.return_, 1) := by decide +kernel
theorem dX5_readDie_0 : decode cX5_readDie 0 = .ok (.aload_n 0, 1) := by decide +kernel
theorem dX5_readDie_1 : decode cX5_readDie 1 = .ok (.getfield 12, 3) := by decide +kernel
theorem dX5_readDie_4 : decode cX5_readDie 4 = .ok (.getfield 109, 3) := by decide +kernel
theorem dX5_readDie_7 : decode cX5_readDie 7 = .ok (.getfield 113, 3) := by decide +kernel
theorem dX5_readDie_10 : decode cX5_readDie 10 = .ok (.istore_n 1, 1) := by decide +kernel
theorem dX5_readDie_11 : decode cX5_readDie 11 = .ok (.aload_n 0, 1) := by decide +kernel
theorem dX5_readDie_12 : decode cX5_readDie 12 = .ok (.iload_n 1, 1) := by decide +kernel
theorem dX5_readDie_13 : decode cX5_readDie 13 = .ok (.bipush 6, 2) := by decide +kernel
theorem dX5_readDie_15 : decode cX5_readDie 15 = .ok (.if_icmp .lt 7, 3) := by decide +kernel
theorem dX5_readDie_18 : decode cX5_readDie 18 = .ok (.iconst 5, 1) := by decide +kernel
theorem dX5_readDie_19 : decode cX5_readDie 19 = .ok (.goto 4, 3) := by decide +kernel
theorem dX5_readDie_22 : decode cX5_readDie 22 = .ok (.iconst 0, 1) := by decide +kernel
theorem dX5_readDie_23 : decode cX5_readDie 23 = .ok (.invokevirtual 60, 3) := by decide +kernel
theorem dX5_readDie_26 : decode cX5_readDie 26 = .ok (.iconst 0, 1) := by decide +kernel
theorem dX5_readDie_27 : decode cX5_readDie 27 = .ok (.istore_n 2, 1) := by decide +kernel
theorem dX5_readDie_28 : decode cX5_readDie 28 = .ok (.iconst 0, 1) := by decide +kernel
theorem dX5_readDie_29 : decode cX5_readDie 29 = .ok (.istore_n 3, 1) := by decide +kernel
theorem dX5_readDie_30 : decode cX5_readDie 30 = .ok (.iload_n 2, 1) := by decide +kernel
theorem dX5_readDie_31 : decode cX5_readDie 31 = .ok (.bipush 12, 2) := by decide +kernel
theorem dX5_readDie_33 : decode cX5_readDie 33 = .ok (.if_icmp .gt 87, 3) := by decide +kernel
theorem dX5_readDie_36 : decode cX5_readDie 36 = .ok (.aload_n 0, 1) := by decide +kernel
theorem dX5_readDie_37 : decode cX5_readDie 37 = .ok (.getfield 18, 3) := by decide +kernel
theorem dX5_readDie_40 : decode cX5_readDie 40 = .ok (.ifCond .ne 80, 3) := by decide +kernel
theorem dX5_readDie_43 : decode cX5_readDie 43 = .ok (.iload_n 2, 1) := by decide +kernel
theorem dX5_readDie_44 : decode cX5_readDie 44 = .ok (.iconst 2, 1) := by decide +kernel
theorem dX5_readDie_45 : decode cX5_readDie 45 = .ok (.if_icmp .lt 13, 3) := by decide +kernel
theorem dX5_readDie_48 : decode cX5_readDie 48 = .ok (.aload_n 0, 1) := by decide +kernel
theorem dX5_readDie_49 : decode cX5_readDie 49 = .ok (.getfield 34, 3) := by decide +kernel
theorem dX5_readDie_52 : decode cX5_readDie 52 = .ok (.invokevirtual 118, 3) := by decide +kernel
theorem dX5_readDie_55 : decode cX5_readDie 55 = .ok (.ifCond .ne 65, 3) := by decide +kernel
theorem dX5_readDie_58 : decode cX5_readDie 58 = .ok (.iload_n 2, 1) := by decide +kernel
theorem dX5_readDie_59 : decode cX5_readDie 59 = .ok (.bipush 12, 2) := by decide +kernel
theorem dX5_readDie_61 : decode cX5_readDie 61 = .ok (.if_icmp .lt 18, 3) := by decide +kernel
theorem dX5_readDie_64 : decode cX5_readDie 64 = .ok (.aload_n 0, 1) := by decide +kernel
theorem dX5_readDie_65 : decode cX5_readDie 65 = .ok (.iconst 0, 1) := by decide +kernel
theorem dX5_readDie_66 : decode cX5_readDie 66 = .ok (.bipush 9, 2) := by decide +kernel
theorem dX5_readDie_68 : decode cX5_readDie 68 = .ok (.invokevirtual 121, 3) := by decide +kernel
theorem dX5_readDie_71 : decode cX5_readDie 71 = .ok (.ifCond .eq 8, 3) := by decide +kernel
theorem dX5_readDie_74 : decode cX5_readDie 74 = .ok (.aload_n 0, 1) := by decide +kernel
theorem dX5_readDie_75 : decode cX5_readDie 75 = .ok (.iconst 5, 1) := by decide +kernel
theorem dX5_readDie_76 : decode cX5_readDie 76 = .ok (.invokevirtual 106, 3) := by decide +kernel
theorem dX5_readDie_79 : decode cX5_readDie 79 = .ok (.aload_n 0, 1) := by decide +kernel
theorem dX5_readDie_80 : decode cX5_readDie 80 = .ok (.iconst 0, 1) := by decide +kernel
theorem dX5_readDie_81 : decode cX5_readDie 81 = .ok (.bipush 9, 2) := by decide +kernel
theorem dX5_readDie_83 : decode cX5_readDie 83 = .ok (.invokevirtual 65, 3) := by decide +kernel
theorem dX5_readDie_86 : decode cX5_readDie 86 = .ok (.istore 4, 2) := by decide +kernel
theorem dX5_readDie_88 : decode cX5_readDie 88 = .ok (.iinc 2 1, 3) := by decide +kernel
theorem dX5_readDie_91 : decode cX5_readDie 91 = .ok (.iload_n 3, 1) := by decide +kernel
theorem dX5_readDie_92 : decode cX5_readDie 92 = .ok (.iload 4, 2) := by decide +kernel
theorem dX5_readDie_94 : decode cX5_readDie 94 = .ok (.iadd, 1) := by decide +kernel
theorem dX5_readDie_95 : decode cX5_readDie 95 = .ok (.istore_n 3, 1) := by decide +kernel
theorem dX5_readDie_96 : decode cX5_readDie 96 = .ok (.aload_n 0, 1) := by decide +kernel
theorem dX5_readDie_97 : decode cX5_readDie 97 = .ok (.getfield 18, 3) := by decide +kernel
theorem dX5_readDie_100 : decode cX5_readDie 100 = .ok (.ifCond .ne 17, 3) := by decide +kernel
theorem dX5_readDie_103 : decode cX5_readDie 103 = .ok (.aload_n 0, 1) := by decide +kernel
theorem dX5_readDie_104 : decode cX5_readDie 104 = .ok (.getfield 12, 3) := by decide +kernel
theorem dX5_readDie_107 : decode cX5_readDie 107 = .ok (.getfield 109, 3) := by decide +kernel
theorem dX5_readDie_110 : decode cX5_readDie 110 = .ok (.iload_n 1, 1) := by decide +kernel
theorem dX5_readDie_111 : decode cX5_readDie 111 = .ok (.iload_n 2, 1) := by decide +kernel
theorem dX5_readDie_112 : decode cX5_readDie 112 = .ok (.iload 4, 2) := by decide +kernel
theorem dX5_readDie_114 : decode cX5_readDie 114 = .ok (.invokevirtual 125, 3) := by decide +kernel
theorem dX5_readDie_117 : decode cX5_readDie 117 = .ok (.goto (-87), 3) := by decide +kernel
theorem dX5_readDie_120 : decode cX5_readDie 120 = .ok (.aload_n 0, 1) := by decide +kernel
theorem dX5_readDie_121 : decode cX5_readDie 121 = .ok (.iload_n 3, 1) := by decide +kernel
theorem dX5_readDie_122 : decode cX5_readDie 122 = .ok (.ifCond .ne 8, 3) := by decide +kernel
theorem dX5_readDie_125 : decode cX5_readDie 125 = .ok (.bipush 6, 2) := by decide +kernel
theorem dX5_readDie_127 : decode cX5_readDie 127 = .ok (.goto 4, 3) := by decide +kernel
theorem dX5_readDie_130 : decode cX5_readDie 130 = .ok (.iconst 0, 1) := by decide +kernel
theorem dX5_readDie_131 : decode cX5_readDie 131 = .ok (.invokevirtual 69, 3) := by decide +kernel
theorem dX5_readDie_134 : decode cX5_readDie 134 = .ok (.aload_n 0, 1) := by decide +kernel
theorem dX5_readDie_135 : decode cX5_readDie 135 = .ok (.getfield 18, 3) := by decide +kernel
theorem dX5_readDie_138 : decode cX5_readDie 138 = .ok (.ifCond .ne 14, 3) := by decide +kernel
theorem dX5_readDie_141 : decode cX5_readDie 141 = .ok (.aload_n 0, 1) := by decide +kernel
theorem dX5_readDie_142 : decode cX5_readDie 142 = .ok (.getfield 12, 3) := by decide +kernel
theorem dX5_readDie_145 : decode cX5_readDie 145 = .ok (.getfield 109, 3) := by decide +kernel
theorem dX5_readDie_148 : decode cX5_readDie 148 = .ok (.iload_n 2, 1) := by decide +kernel
theorem dX5_readDie_149 : decode cX5_readDie 149 = .ok (.invokevirtual 128, 3) := by decide +kernel
theorem dX5_readDie_152 : decode cX5_readDie 152 = .ok (.return_, 1) := by decide +kernel
theorem dX5_readPlayer_0 : decode cX5_readPlayer 0 = .ok (.aload_n 0, 1) := by decide +kernel
theorem dX5_readPlayer_1 : decode cX5_readPlayer 1 = .ok (.aload_n 0, 1) := by decide +kernel
theorem dX5_readPlayer_2 : decode cX5_readPlayer 2 = .ok (.getfield 12, 3) := by decide +kernel
theorem dX5_readPlayer_5 : decode cX5_readPlayer 5 = .ok (.getfield 131, 3) := by decide +kernel
theorem dX5_readPlayer_8 : decode cX5_readPlayer 8 = .ok (.getfield 135, 3) := by decide +kernel
theorem dX5_readPlayer_11 : decode cX5_readPlayer 11 = .ok (.bipush 6, 2) := by decide +kernel
theorem dX5_readPlayer_13 : decode cX5_readPlayer 13 = .ok (.if_icmp .lt 7, 3) := by decide +kernel
theorem dX5_readPlayer_16 : decode cX5_readPlayer 16 = .ok (.iconst 5, 1) := by decide +kernel
theorem dX5_readPlayer_17 : decode cX5_readPlayer 17 = .ok (.goto 4, 3) := by decide +kernel
theorem dX5_readPlayer_20 : decode cX5_readPlayer 20 = .ok (.iconst 0, 1) := by decide +kernel
theorem dX5_readPlayer_21 : decode cX5_readPlayer 21 = .ok (.invokevirtual 60, 3) := by decide +kernel
theorem dX5_readPlayer_24 : decode cX5_readPlayer 24 = .ok (.aload_n 0, 1) := by decide +kernel
theorem dX5_readPlayer_25 : decode cX5_readPlayer 25 = .ok (.getfield 34, 3) := by decide +kernel
theorem dX5_readPlayer_28 : decode cX5_readPlayer 28 = .ok (.getfield 138, 3) := by decide +kernel
theorem dX5_readPlayer_31 : decode cX5_readPlayer 31 = .ok (.istore_n 1, 1) := by decide +kernel
theorem dX5_readPlayer_32 : decode cX5_readPlayer 32 = .ok (.aload_n 0, 1) := by decide +kernel
theorem dX5_readPlayer_33 : decode cX5_readPlayer 33 = .ok (.getfield 34, 3) := by decide +kernel
theorem dX5_readPlayer_36 : decode cX5_readPlayer 36 = .ok (.getfield 141, 3) := by decide +kernel
theorem dX5_readPlayer_39 : decode cX5_readPlayer 39 = .ok (.istore_n 2, 1) := by decide +kernel
theorem dX5_readPlayer_40 : decode cX5_readPlayer 40 = .ok (.aload_n 0, 1) := by decide +kernel
theorem dX5_readPlayer_41 : decode cX5_readPlayer 41 = .ok (.invokevirtual 144, 3) := by decide +kernel
theorem dX5_readPlayer_44 : decode cX5_readPlayer 44 = .ok (.aload_n 0, 1) := by decide +kernel
theorem dX5_readPlayer_45 : decode cX5_readPlayer 45 = .ok (.iconst 0, 1) := by decide +kernel
theorem dX5_readPlayer_46 : decode cX5_readPlayer 46 = .ok (.invokevirtual 69, 3) := by decide +kernel
theorem dX5_readPlayer_49 : decode cX5_readPlayer 49 = .ok (.aload_n 0, 1) := by decide +kernel
theorem dX5_readPlayer_50 : decode cX5_readPlayer 50 = .ok (.getfield 18, 3) := by decide +kernel
theorem dX5_readPlayer_53 : decode cX5_readPlayer 53 = .ok (.ifCond .ne 19, 3) := by decide +kernel
theorem dX5_readPlayer_56 : decode cX5_readPlayer 56 = .ok (.aload_n 0, 1) := by decide +kernel
theorem dX5_readPlayer_57 : decode cX5_readPlayer 57 = .ok (.getfield 12, 3) := by decide +kernel
theorem dX5_readPlayer_60 : decode cX5_readPlayer 60 = .ok (.getfield 131, 3) := by decide +kernel
theorem dX5_readPlayer_63 : decode cX5_readPlayer 63 = .ok (.aload_n 0, 1) := by decide +kernel
theorem dX5_readPlayer_64 : decode cX5_readPlayer 64 = .ok (.getfield 25, 3) := by decide +kernel
theorem dX5_readPlayer_67 : decode cX5_readPlayer 67 = .ok (.iload_n 1, 1) := by decide +kernel
theorem dX5_readPlayer_68 : decode cX5_readPlayer 68 = .ok (.iload_n 2, 1) := by decide +kernel
theorem dX5_readPlayer_69 : decode cX5_readPlayer 69 = .ok (.invokevirtual 147, 3) := by decide +kernel
theorem dX5_readPlayer_72 : decode cX5_readPlayer 72 = .ok (.return_, 1) := by decide +kernel
theorem dX5_takeNewName_0 : decode cX5_takeNewName 0 = .ok (.aload_n 0, 1) := by decide +kernel
theorem dX5_takeNewName_1 : decode cX5_takeNewName 1 = .ok (.getfield 34, 3) := by decide +kernel
theorem dX5_takeNewName_4 : decode cX5_takeNewName 4 = .ok (.getfield 51, 3) := by decide +kernel
theorem dX5_takeNewName_7 : decode cX5_takeNewName 7 = .ok (.iconst 1, 1) := by decide +kernel
theorem dX5_takeNewName_8 : decode cX5_takeNewName 8 = .ok (.if_icmp .eq 11, 3) := by decide +kernel
theorem dX5_takeNewName_11 : decode cX5_takeNewName 11 = .ok (.aload_n 0, 1) := by decide +kernel
theorem dX5_takeNewName_12 : decode cX5_takeNewName 12 = .ok (.iconst 1, 1) := by decide +kernel
theorem dX5_takeNewName_13 : decode cX5_takeNewName 13 = .ok (.invokevirtual 106, 3) := by decide +kernel
theorem dX5_takeNewName_16 : decode cX5_takeNewName 16 = .ok (.goto 77, 3) := by decide +kernel
theorem dX5_takeNewName_19 : decode cX5_takeNewName 19 = .ok (.aload_n 0, 1) := by decide +kernel
theorem dX5_takeNewName_20 : decode cX5_takeNewName 20 = .ok (.getfield 34, 3) := by decide +kernel
theorem dX5_takeNewName_23 : decode cX5_takeNewName 23 = .ok (.getfield 141, 3) := by decide +kernel
theorem dX5_takeNewName_26 : decode cX5_takeNewName 26 = .ok (.aload_n 0, 1) := by decide +kernel
theorem dX5_takeNewName_27 : decode cX5_takeNewName 27 = .ok (.getfield 34, 3) := by decide +kernel
theorem dX5_takeNewName_30 : decode cX5_takeNewName 30 = .ok (.getfield 138, 3) := by decide +kernel
theorem dX5_takeNewName_33 : decode cX5_takeNewName 33 = .ok (.isub, 1) := by decide +kernel
theorem dX5_takeNewName_34 : decode cX5_takeNewName 34 = .ok (.iconst 4, 1) := by decide +kernel
theorem dX5_takeNewName_35 : decode cX5_takeNewName 35 = .ok (.if_icmp .le 11, 3) := by decide +kernel
theorem dX5_takeNewName_38 : decode cX5_takeNewName 38 = .ok (.aload_n 0, 1) := by decide +kernel
theorem dX5_takeNewName_39 : decode cX5_takeNewName 39 = .ok (.iconst 2, 1) := by decide +kernel
theorem dX5_takeNewName_40 : decode cX5_takeNewName 40 = .ok (.invokevirtual 106, 3) := by decide +kernel
theorem dX5_takeNewName_43 : decode cX5_takeNewName 43 = .ok (.goto 50, 3) := by decide +kernel
theorem dX5_takeNewName_46 : decode cX5_takeNewName 46 = .ok (.aload_n 0, 1) := by decide +kernel
theorem dX5_takeNewName_47 : decode cX5_takeNewName 47 = .ok (.getfield 12, 3) := by decide +kernel
theorem dX5_takeNewName_50 : decode cX5_takeNewName 50 = .ok (.getfield 131, 3) := by decide +kernel
theorem dX5_takeNewName_53 : decode cX5_takeNewName 53 = .ok (.aload_n 0, 1) := by decide +kernel
theorem dX5_takeNewName_54 : decode cX5_takeNewName 54 = .ok (.getfield 25, 3) := by decide +kernel
theorem dX5_takeNewName_57 : decode cX5_takeNewName 57 = .ok (.aload_n 0, 1) := by decide +kernel
theorem dX5_takeNewName_58 : decode cX5_takeNewName 58 = .ok (.getfield 34, 3) := by decide +kernel
theorem dX5_takeNewName_61 : decode cX5_takeNewName 61 = .ok (.getfield 138, 3) := by decide +kernel
theorem dX5_takeNewName_64 : decode cX5_takeNewName 64 = .ok (.aload_n 0, 1) := by decide +kernel
theorem dX5_takeNewName_65 : decode cX5_takeNewName 65 = .ok (.getfield 34, 3) := by decide +kernel
theorem dX5_takeNewName_68 : decode cX5_takeNewName 68 = .ok (.getfield 141, 3) := by decide +kernel
theorem dX5_takeNewName_71 : decode cX5_takeNewName 71 = .ok (.invokevirtual 150, 3) := by decide +kernel
theorem dX5_takeNewName_74 : decode cX5_takeNewName 74 = .ok (.iconst (-1), 1) := by decide +kernel
theorem dX5_takeNewName_75 : decode cX5_takeNewName 75 = .ok (.if_icmp .eq 11, 3) := by decide +kernel
theorem dX5_takeNewName_78 : decode cX5_takeNewName 78 = .ok (.aload_n 0, 1) := by decide +kernel
theorem dX5_takeNewName_79 : decode cX5_takeNewName 79 = .ok (.iconst 3, 1) := by decide +kernel
theorem dX5_takeNewName_80 : decode cX5_takeNewName 80 = .ok (.invokevirtual 106, 3) := by decide +kernel
theorem dX5_takeNewName_83 : decode cX5_takeNewName 83 = .ok (.goto 10, 3) := by decide +kernel
theorem dX5_takeNewName_86 : decode cX5_takeNewName 86 = .ok (.aload_n 0, 1) := by decide +kernel
theorem dX5_takeNewName_87 : decode cX5_takeNewName 87 = .ok (.getfield 34, 3) := by decide +kernel
theorem dX5_takeNewName_90 : decode cX5_takeNewName 90 = .ok (.invokevirtual 154, 3) := by decide +kernel
theorem dX5_takeNewName_93 : decode cX5_takeNewName 93 = .ok (.return_, 1) := by decide +kernel
theorem dX5_readThrow_0 : decode cX5_readThrow 0 = .ok (.aload_n 0, 1) := by decide +kernel
theorem dX5_readThrow_1 : decode cX5_readThrow 1 = .ok (.getfield 34, 3) := by decide +kernel
theorem dX5_readThrow_4 : decode cX5_readThrow 4 = .ok (.invokevirtual 154, 3) := by decide +kernel
theorem dX5_readThrow_7 : decode cX5_readThrow 7 = .ok (.aload_n 0, 1) := by decide +kernel
theorem dX5_readThrow_8 : decode cX5_readThrow 8 = .ok (.invokevirtual 157, 3) := by decide +kernel
theorem dX5_readThrow_11 : decode cX5_readThrow 11 = .ok (.istore_n 1, 1) := by decide +kernel
theorem dX5_readThrow_12 : decode cX5_readThrow 12 = .ok (.aload_n 0, 1) := by decide +kernel
theorem dX5_readThrow_13 : decode cX5_readThrow 13 = .ok (.iconst 0, 1) := by decide +kernel
theorem dX5_readThrow_14 : decode cX5_readThrow 14 = .ok (.aload_n 0, 1) := by decide +kernel
theorem dX5_readThrow_15 : decode cX5_readThrow 15 = .ok (.getfield 12, 3) := by decide +kernel
theorem dX5_readThrow_18 : decode cX5_readThrow 18 = .ok (.getfield 109, 3) := by decide +kernel
theorem dX5_readThrow_21 : decode cX5_readThrow 21 = .ok (.getfield 113, 3) := by decide +kernel
theorem dX5_readThrow_24 : decode cX5_readThrow 24 = .ok (.iconst 1, 1) := by decide +kernel
theorem dX5_readThrow_25 : decode cX5_readThrow 25 = .ok (.isub, 1) := by decide +kernel
theorem dX5_readThrow_26 : decode cX5_readThrow 26 = .ok (.invokevirtual 65, 3) := by decide +kernel
theorem dX5_readThrow_29 : decode cX5_readThrow 29 = .ok (.istore_n 2, 1) := by decide +kernel
theorem dX5_readThrow_30 : decode cX5_readThrow 30 = .ok (.aload_n 0, 1) := by decide +kernel
theorem dX5_readThrow_31 : decode cX5_readThrow 31 = .ok (.iconst 1, 1) := by decide +kernel
theorem dX5_readThrow_32 : decode cX5_readThrow 32 = .ok (.bipush 50, 2) := by decide +kernel
theorem dX5_readThrow_34 : decode cX5_readThrow 34 = .ok (.invokevirtual 65, 3) := by decide +kernel
theorem dX5_readThrow_37 : decode cX5_readThrow 37 = .ok (.istore_n 3, 1) := by decide +kernel
theorem dX5_readThrow_38 : decode cX5_readThrow 38 = .ok (.aload_n 0, 1) := by decide +kernel
theorem dX5_readThrow_39 : decode cX5_readThrow 39 = .ok (.aload_n 0, 1) := by decide +kernel
theorem dX5_readThrow_40 : decode cX5_readThrow 40 = .ok (.getfield 12, 3) := by decide +kernel
theorem dX5_readThrow_43 : decode cX5_readThrow 43 = .ok (.getfield 161, 3) := by decide +kernel
theorem dX5_readThrow_46 : decode cX5_readThrow 46 = .ok (.getfield 165, 3) := by decide +kernel
theorem dX5_readThrow_49 : decode cX5_readThrow 49 = .ok (.iload_n 3, 1) := by decide +kernel
theorem dX5_readThrow_50 : decode cX5_readThrow 50 = .ok (.iadd, 1) := by decide +kernel
theorem dX5_readThrow_51 : decode cX5_readThrow 51 = .ok (.sipush 300, 3) := by decide +kernel
theorem dX5_readThrow_54 : decode cX5_readThrow 54 = .ok (.if_icmp .le 8, 3) := by decide +kernel
theorem dX5_readThrow_57 : decode cX5_readThrow 57 = .ok (.bipush 6, 2) := by decide +kernel
theorem dX5_readThrow_59 : decode cX5_readThrow 59 = .ok (.goto 4, 3) := by decide +kernel
theorem dX5_readThrow_62 : decode cX5_readThrow 62 = .ok (.iconst 0, 1) := by decide +kernel
theorem dX5_readThrow_63 : decode cX5_readThrow 63 = .ok (.invokevirtual 69, 3) := by decide +kernel
theorem dX5_readThrow_66 : decode cX5_readThrow 66 = .ok (.aload_n 0, 1) := by decide +kernel
theorem dX5_readThrow_67 : decode cX5_readThrow 67 = .ok (.getfield 18, 3) := by decide +kernel
theorem dX5_readThrow_70 : decode cX5_readThrow 70 = .ok (.ifCond .ne 18, 3) := by decide +kernel
theorem dX5_readThrow_73 : decode cX5_readThrow 73 = .ok (.aload_n 0, 1) := by decide +kernel
theorem dX5_readThrow_74 : decode cX5_readThrow 74 = .ok (.getfield 12, 3) := by decide +kernel
theorem dX5_readThrow_77 : decode cX5_readThrow 77 = .ok (.iload_n 1, 1) := by decide +kernel
theorem dX5_readThrow_78 : decode cX5_readThrow 78 = .ok (.iload_n 2, 1) := by decide +kernel
theorem dX5_readThrow_79 : decode cX5_readThrow 79 = .ok (.invokestatic 168, 3) := by decide +kernel
theorem dX5_readThrow_82 : decode cX5_readThrow 82 = .ok (.iload_n 3, 1) := by decide +kernel
theorem dX5_readThrow_83 : decode cX5_readThrow 83 = .ok (.iconst 0, 1) := by decide +kernel
theorem dX5_readThrow_84 : decode cX5_readThrow 84 = .ok (.invokevirtual 171, 3) := by decide +kernel
theorem dX5_readThrow_87 : decode cX5_readThrow 87 = .ok (.pop, 1) := by decide +kernel
theorem dX5_readThrow_88 : decode cX5_readThrow 88 = .ok (.return_, 1) := by decide +kernel
theorem dX5_readAudit_0 : decode cX5_readAudit 0 = .ok (.aload_n 0, 1) := by decide +kernel
theorem dX5_readAudit_1 : decode cX5_readAudit 1 = .ok (.getfield 34, 3) := by decide +kernel
theorem dX5_readAudit_4 : decode cX5_readAudit 4 = .ok (.invokevirtual 154, 3) := by decide +kernel
theorem dX5_readAudit_7 : decode cX5_readAudit 7 = .ok (.aload_n 0, 1) := by decide +kernel
theorem dX5_readAudit_8 : decode cX5_readAudit 8 = .ok (.iconst 0, 1) := by decide +kernel
theorem dX5_readAudit_9 : decode cX5_readAudit 9 = .ok (.invokevirtual 69, 3) := by decide +kernel
theorem dX5_readAudit_12 : decode cX5_readAudit 12 = .ok (.aload_n 0, 1) := by decide +kernel
theorem dX5_readAudit_13 : decode cX5_readAudit 13 = .ok (.getfield 18, 3) := by decide +kernel
theorem dX5_readAudit_16 : decode cX5_readAudit 16 = .ok (.ifCond .ne 11, 3) := by decide +kernel
theorem dX5_readAudit_19 : decode cX5_readAudit 19 = .ok (.aload_n 0, 1) := by decide +kernel
theorem dX5_readAudit_20 : decode cX5_readAudit 20 = .ok (.getfield 12, 3) := by decide +kernel
theorem dX5_readAudit_23 : decode cX5_readAudit 23 = .ok (.invokevirtual 175, 3) := by decide +kernel
theorem dX5_readAudit_26 : decode cX5_readAudit 26 = .ok (.pop, 1) := by decide +kernel
theorem dX5_readAudit_27 : decode cX5_readAudit 27 = .ok (.return_, 1) := by decide +kernel
theorem dX5_readAbsolve_0 : decode cX5_readAbsolve 0 = .ok (.aload_n 0, 1) := by decide +kernel
theorem dX5_readAbsolve_1 : decode cX5_readAbsolve 1 = .ok (.getfield 34, 3) := by decide +kernel
theorem dX5_readAbsolve_4 : decode cX5_readAbsolve 4 = .ok (.invokevirtual 154, 3) := by decide +kernel
theorem dX5_readAbsolve_7 : decode cX5_readAbsolve 7 = .ok (.aload_n 0, 1) := by decide +kernel
theorem dX5_readAbsolve_8 : decode cX5_readAbsolve 8 = .ok (.aload_n 0, 1) := by decide +kernel
theorem dX5_readAbsolve_9 : decode cX5_readAbsolve 9 = .ok (.getfield 12, 3) := by decide +kernel
theorem dX5_readAbsolve_12 : decode cX5_readAbsolve 12 = .ok (.getfield 178, 3) := by decide +kernel
theorem dX5_readAbsolve_15 : decode cX5_readAbsolve 15 = .ok (.getfield 182, 3) := by decide +kernel
theorem dX5_readAbsolve_18 : decode cX5_readAbsolve 18 = .ok (.ifCond .ne 8, 3) := by decide +kernel
theorem dX5_readAbsolve_21 : decode cX5_readAbsolve 21 = .ok (.bipush 6, 2) := by decide +kernel
theorem dX5_readAbsolve_23 : decode cX5_readAbsolve 23 = .ok (.goto 4, 3) := by decide +kernel
theorem dX5_readAbsolve_26 : decode cX5_readAbsolve 26 = .ok (.iconst 0, 1) := by decide +kernel
theorem dX5_readAbsolve_27 : decode cX5_readAbsolve 27 = .ok (.invokevirtual 69, 3) := by decide +kernel
theorem dX5_readAbsolve_30 : decode cX5_readAbsolve 30 = .ok (.aload_n 0, 1) := by decide +kernel
theorem dX5_readAbsolve_31 : decode cX5_readAbsolve 31 = .ok (.getfield 18, 3) := by decide +kernel
theorem dX5_readAbsolve_34 : decode cX5_readAbsolve 34 = .ok (.ifCond .ne 11, 3) := by decide +kernel
theorem dX5_readAbsolve_37 : decode cX5_readAbsolve 37 = .ok (.aload_n 0, 1) := by decide +kernel
theorem dX5_readAbsolve_38 : decode cX5_readAbsolve 38 = .ok (.getfield 12, 3) := by decide +kernel
theorem dX5_readAbsolve_41 : decode cX5_readAbsolve 41 = .ok (.invokevirtual 185, 3) := by decide +kernel
theorem dX5_readAbsolve_44 : decode cX5_readAbsolve 44 = .ok (.pop, 1) := by decide +kernel
theorem dX5_readAbsolve_45 : decode cX5_readAbsolve 45 = .ok (.return_, 1) := by decide +kernel
theorem dX5_readForgive_0 : decode cX5_readForgive 0 = .ok (.aload_n 0, 1) := by decide +kernel
theorem dX5_readForgive_1 : decode cX5_readForgive 1 = .ok (.getfield 34, 3) := by decide +kernel
theorem dX5_readForgive_4 : decode cX5_readForgive 4 = .ok (.invokevirtual 154, 3) := by decide +kernel
theorem dX5_readForgive_7 : decode cX5_readForgive 7 = .ok (.aload_n 0, 1) := by decide +kernel
theorem dX5_readForgive_8 : decode cX5_readForgive 8 = .ok (.invokevirtual 157, 3) := by decide +kernel
theorem dX5_readForgive_11 : decode cX5_readForgive 11 = .ok (.istore_n 1, 1) := by decide +kernel
theorem dX5_readForgive_12 : decode cX5_readForgive 12 = .ok (.aload_n 0, 1) := by decide +kernel
theorem dX5_readForgive_13 : decode cX5_readForgive 13 = .ok (.iconst 0, 1) := by decide +kernel
theorem dX5_readForgive_14 : decode cX5_readForgive 14 = .ok (.invokevirtual 69, 3) := by decide +kernel
theorem dX5_readForgive_17 : decode cX5_readForgive 17 = .ok (.aload_n 0, 1) := by decide +kernel
theorem dX5_readForgive_18 : decode cX5_readForgive 18 = .ok (.getfield 18, 3) := by decide +kernel
theorem dX5_readForgive_21 : decode cX5_readForgive 21 = .ok (.ifCond .ne 15, 3) := by decide +kernel
theorem dX5_readForgive_24 : decode cX5_readForgive 24 = .ok (.aload_n 0, 1) := by decide +kernel
theorem dX5_readForgive_25 : decode cX5_readForgive 25 = .ok (.getfield 12, 3) := by decide +kernel
theorem dX5_readForgive_28 : decode cX5_readForgive 28 = .ok (.getfield 178, 3) := by decide +kernel
theorem dX5_readForgive_31 : decode cX5_readForgive 31 = .ok (.iload_n 1, 1) := by decide +kernel
theorem dX5_readForgive_32 : decode cX5_readForgive 32 = .ok (.invokevirtual 188, 3) := by decide +kernel
theorem dX5_readForgive_35 : decode cX5_readForgive 35 = .ok (.pop, 1) := by decide +kernel
theorem dX5_readForgive_36 : decode cX5_readForgive 36 = .ok (.return_, 1) := by decide +kernel
theorem dX5_takeKnownName_0 : decode cX5_takeKnownName 0 = .ok (.aload_n 0, 1) := by decide +kernel
theorem dX5_takeKnownName_1 : decode cX5_takeKnownName 1 = .ok (.getfield 34, 3) := by decide +kernel
theorem dX5_takeKnownName_4 : decode cX5_takeKnownName 4 = .ok (.getfield 51, 3) := by decide +kernel
theorem dX5_takeKnownName_7 : decode cX5_takeKnownName 7 = .ok (.iconst 1, 1) := by decide +kernel
theorem dX5_takeKnownName_8 : decode cX5_takeKnownName 8 = .ok (.if_icmp .eq 10, 3) := by decide +kernel
theorem dX5_takeKnownName_11 : decode cX5_takeKnownName 11 = .ok (.aload_n 0, 1) := by decide +kernel
theorem dX5_takeKnownName_12 : decode cX5_takeKnownName 12 = .ok (.iconst 1, 1) := by decide +kernel
theorem dX5_takeKnownName_13 : decode cX5_takeKnownName 13 = .ok (.invokevirtual 106, 3) := by decide +kernel
theorem dX5_takeKnownName_16 : decode cX5_takeKnownName 16 = .ok (.iconst (-1), 1) := by decide +kernel
theorem dX5_takeKnownName_17 : decode cX5_takeKnownName 17 = .ok (.ireturn, 1) := by decide +kernel
theorem dX5_takeKnownName_18 : decode cX5_takeKnownName 18 = .ok (.aload_n 0, 1) := by decide +kernel
theorem dX5_takeKnownName_19 : decode cX5_takeKnownName 19 = .ok (.getfield 12, 3) := by decide +kernel
theorem dX5_takeKnownName_22 : decode cX5_takeKnownName 22 = .ok (.getfield 131, 3) := by decide +kernel
theorem dX5_takeKnownName_25 : decode cX5_takeKnownName 25 = .ok (.aload_n 0, 1) := by decide +kernel
theorem dX5_takeKnownName_26 : decode cX5_takeKnownName 26 = .ok (.getfield 25, 3) := by decide +kernel
theorem dX5_takeKnownName_29 : decode cX5_takeKnownName 29 = .ok (.aload_n 0, 1) := by decide +kernel
theorem dX5_takeKnownName_30 : decode cX5_takeKnownName 30 = .ok (.getfield 34, 3) := by decide +kernel
theorem dX5_takeKnownName_33 : decode cX5_takeKnownName 33 = .ok (.getfield 138, 3) := by decide +kernel
theorem dX5_takeKnownName_36 : decode cX5_takeKnownName 36 = .ok (.aload_n 0, 1) := by decide +kernel
theorem dX5_takeKnownName_37 : decode cX5_takeKnownName 37 = .ok (.getfield 34, 3) := by decide +kernel
theorem dX5_takeKnownName_40 : decode cX5_takeKnownName 40 = .ok (.getfield 141, 3) := by decide +kernel
theorem dX5_takeKnownName_43 : decode cX5_takeKnownName 43 = .ok (.invokevirtual 150, 3) := by decide +kernel
theorem dX5_takeKnownName_46 : decode cX5_takeKnownName 46 = .ok (.istore_n 1, 1) := by decide +kernel
theorem dX5_takeKnownName_47 : decode cX5_takeKnownName 47 = .ok (.iload_n 1, 1) := by decide +kernel
theorem dX5_takeKnownName_48 : decode cX5_takeKnownName 48 = .ok (.iconst (-1), 1) := by decide +kernel
theorem dX5_takeKnownName_49 : decode cX5_takeKnownName 49 = .ok (.if_icmp .ne 10, 3) := by decide +kernel
theorem dX5_takeKnownName_52 : decode cX5_takeKnownName 52 = .ok (.aload_n 0, 1) := by decide +kernel
theorem dX5_takeKnownName_53 : decode cX5_takeKnownName 53 = .ok (.iconst 4, 1) := by decide +kernel
theorem dX5_takeKnownName_54 : decode cX5_takeKnownName 54 = .ok (.invokevirtual 106, 3) := by decide +kernel
theorem dX5_takeKnownName_57 : decode cX5_takeKnownName 57 = .ok (.iconst (-1), 1) := by decide +kernel
theorem dX5_takeKnownName_58 : decode cX5_takeKnownName 58 = .ok (.ireturn, 1) := by decide +kernel
theorem dX5_takeKnownName_59 : decode cX5_takeKnownName 59 = .ok (.aload_n 0, 1) := by decide +kernel
theorem dX5_takeKnownName_60 : decode cX5_takeKnownName 60 = .ok (.getfield 34, 3) := by decide +kernel
theorem dX5_takeKnownName_63 : decode cX5_takeKnownName 63 = .ok (.invokevirtual 154, 3) := by decide +kernel
theorem dX5_takeKnownName_66 : decode cX5_takeKnownName 66 = .ok (.iload_n 1, 1) := by decide +kernel
theorem dX5_takeKnownName_67 : decode cX5_takeKnownName 67 = .ok (.ireturn, 1) := by decide +kernel
theorem dX5_takeKeyword_0 : decode cX5_takeKeyword 0 = .ok (.iload_n 1, 1) := by decide +kernel
theorem dX5_takeKeyword_1 : decode cX5_takeKeyword 1 = .ok (.ifCond .eq 11, 3) := by decide +kernel
theorem dX5_takeKeyword_4 : decode cX5_takeKeyword 4 = .ok (.aload_n 0, 1) := by decide +kernel
theorem dX5_takeKeyword_5 : decode cX5_takeKeyword 5 = .ok (.iload_n 1, 1) := by decide +kernel
theorem dX5_takeKeyword_6 : decode cX5_takeKeyword 6 = .ok (.invokevirtual 106, 3) := by decide +kernel
theorem dX5_takeKeyword_9 : decode cX5_takeKeyword 9 = .ok (.goto 10, 3) := by decide +kernel
theorem dX5_takeKeyword_12 : decode cX5_takeKeyword 12 = .ok (.aload_n 0, 1) := by decide +kernel
theorem dX5_takeKeyword_13 : decode cX5_takeKeyword 13 = .ok (.getfield 34, 3) := by decide +kernel
theorem dX5_takeKeyword_16 : decode cX5_takeKeyword 16 = .ok (.invokevirtual 154, 3) := by decide +kernel
theorem dX5_takeKeyword_19 : decode cX5_takeKeyword 19 = .ok (.return_, 1) := by decide +kernel
theorem dX5_isNumberIn_0 : decode cX5_isNumberIn 0 = .ok (.aload_n 0, 1) := by decide +kernel
theorem dX5_isNumberIn_1 : decode cX5_isNumberIn 1 = .ok (.getfield 34, 3) := by decide +kernel
theorem dX5_isNumberIn_4 : decode cX5_isNumberIn 4 = .ok (.getfield 51, 3) := by decide +kernel
theorem dX5_isNumberIn_7 : decode cX5_isNumberIn 7 = .ok (.iconst 2, 1) := by decide +kernel
theorem dX5_isNumberIn_8 : decode cX5_isNumberIn 8 = .ok (.if_icmp .ne 29, 3) := by decide +kernel
theorem dX5_isNumberIn_11 : decode cX5_isNumberIn 11 = .ok (.aload_n 0, 1) := by decide +kernel
theorem dX5_isNumberIn_12 : decode cX5_isNumberIn 12 = .ok (.getfield 34, 3) := by decide +kernel
theorem dX5_isNumberIn_15 : decode cX5_isNumberIn 15 = .ok (.getfield 192, 3) := by decide +kernel
theorem dX5_isNumberIn_18 : decode cX5_isNumberIn 18 = .ok (.iload_n 1, 1) := by decide +kernel
theorem dX5_isNumberIn_19 : decode cX5_isNumberIn 19 = .ok (.if_icmp .lt 18, 3) := by decide +kernel
theorem dX5_isNumberIn_22 : decode cX5_isNumberIn 22 = .ok (.aload_n 0, 1) := by decide +kernel
theorem dX5_isNumberIn_23 : decode cX5_isNumberIn 23 = .ok (.getfield 34, 3) := by decide +kernel
theorem dX5_isNumberIn_26 : decode cX5_isNumberIn 26 = .ok (.getfield 192, 3) := by decide +kernel
theorem dX5_isNumberIn_29 : decode cX5_isNumberIn 29 = .ok (.iload_n 2, 1) := by decide +kernel
theorem dX5_isNumberIn_30 : decode cX5_isNumberIn 30 = .ok (.if_icmp .gt 7, 3) := by decide +kernel
theorem dX5_isNumberIn_33 : decode cX5_isNumberIn 33 = .ok (.iconst 1, 1) := by decide +kernel
theorem dX5_isNumberIn_34 : decode cX5_isNumberIn 34 = .ok (.goto 4, 3) := by decide +kernel
theorem dX5_isNumberIn_37 : decode cX5_isNumberIn 37 = .ok (.iconst 0, 1) := by decide +kernel
theorem dX5_isNumberIn_38 : decode cX5_isNumberIn 38 = .ok (.ireturn, 1) := by decide +kernel
theorem dX5_takeNumber_0 : decode cX5_takeNumber 0 = .ok (.aload_n 0, 1) := by decide +kernel
theorem dX5_takeNumber_1 : decode cX5_takeNumber 1 = .ok (.getfield 18, 3) := by decide +kernel
theorem dX5_takeNumber_4 : decode cX5_takeNumber 4 = .ok (.ifCond .eq 5, 3) := by decide +kernel
theorem dX5_takeNumber_7 : decode cX5_takeNumber 7 = .ok (.iconst (-1), 1) := by decide +kernel
theorem dX5_takeNumber_8 : decode cX5_takeNumber 8 = .ok (.ireturn, 1) := by decide +kernel
theorem dX5_takeNumber_9 : decode cX5_takeNumber 9 = .ok (.aload_n 0, 1) := by decide +kernel
theorem dX5_takeNumber_10 : decode cX5_takeNumber 10 = .ok (.iload_n 1, 1) := by decide +kernel
theorem dX5_takeNumber_11 : decode cX5_takeNumber 11 = .ok (.iload_n 2, 1) := by decide +kernel
theorem dX5_takeNumber_12 : decode cX5_takeNumber 12 = .ok (.invokevirtual 121, 3) := by decide +kernel
theorem dX5_takeNumber_15 : decode cX5_takeNumber 15 = .ok (.ifCond .ne 25, 3) := by decide +kernel
theorem dX5_takeNumber_18 : decode cX5_takeNumber 18 = .ok (.aload_n 0, 1) := by decide +kernel
theorem dX5_takeNumber_19 : decode cX5_takeNumber 19 = .ok (.aload_n 0, 1) := by decide +kernel
theorem dX5_takeNumber_20 : decode cX5_takeNumber 20 = .ok (.getfield 34, 3) := by decide +kernel
theorem dX5_takeNumber_23 : decode cX5_takeNumber 23 = .ok (.getfield 51, 3) := by decide +kernel
theorem dX5_takeNumber_26 : decode cX5_takeNumber 26 = .ok (.iconst 2, 1) := by decide +kernel
theorem dX5_takeNumber_27 : decode cX5_takeNumber 27 = .ok (.if_icmp .ne 7, 3) := by decide +kernel
theorem dX5_takeNumber_30 : decode cX5_takeNumber 30 = .ok (.iconst 2, 1) := by decide +kernel
theorem dX5_takeNumber_31 : decode cX5_takeNumber 31 = .ok (.goto 4, 3) := by decide +kernel
theorem dX5_takeNumber_34 : decode cX5_takeNumber 34 = .ok (.iconst 1, 1) := by decide +kernel
theorem dX5_takeNumber_35 : decode cX5_takeNumber 35 = .ok (.invokevirtual 106, 3) := by decide +kernel
theorem dX5_takeNumber_38 : decode cX5_takeNumber 38 = .ok (.iconst (-1), 1) := by decide +kernel
theorem dX5_takeNumber_39 : decode cX5_takeNumber 39 = .ok (.ireturn, 1) := by decide +kernel
theorem dX5_takeNumber_40 : decode cX5_takeNumber 40 = .ok (.aload_n 0, 1) := by decide +kernel
theorem dX5_takeNumber_41 : decode cX5_takeNumber 41 = .ok (.getfield 34, 3) := by decide +kernel
theorem dX5_takeNumber_44 : decode cX5_takeNumber 44 = .ok (.getfield 192, 3) := by decide +kernel
theorem dX5_takeNumber_47 : decode cX5_takeNumber 47 = .ok (.istore_n 3, 1) := by decide +kernel
theorem dX5_takeNumber_48 : decode cX5_takeNumber 48 = .ok (.aload_n 0, 1) := by decide +kernel
theorem dX5_takeNumber_49 : decode cX5_takeNumber 49 = .ok (.getfield 34, 3) := by decide +kernel
theorem dX5_takeNumber_52 : decode cX5_takeNumber 52 = .ok (.invokevirtual 154, 3) := by decide +kernel
theorem dX5_takeNumber_55 : decode cX5_takeNumber 55 = .ok (.iload_n 3, 1) := by decide +kernel
theorem dX5_takeNumber_56 : decode cX5_takeNumber 56 = .ok (.ireturn, 1) := by decide +kernel
theorem dX5_takeSemicolon_0 : decode cX5_takeSemicolon 0 = .ok (.aload_n 0, 1) := by decide +kernel
theorem dX5_takeSemicolon_1 : decode cX5_takeSemicolon 1 = .ok (.getfield 18, 3) := by decide +kernel
theorem dX5_takeSemicolon_4 : decode cX5_takeSemicolon 4 = .ok (.ifCond .eq 4, 3) := by decide +kernel
theorem dX5_takeSemicolon_7 : decode cX5_takeSemicolon 7 = .ok (.return_, 1) := by decide +kernel
theorem dX5_takeSemicolon_8 : decode cX5_takeSemicolon 8 = .ok (.aload_n 0, 1) := by decide +kernel
theorem dX5_takeSemicolon_9 : decode cX5_takeSemicolon 9 = .ok (.getfield 34, 3) := by decide +kernel
theorem dX5_takeSemicolon_12 : decode cX5_takeSemicolon 12 = .ok (.invokevirtual 118, 3) := by decide +kernel
theorem dX5_takeSemicolon_15 : decode cX5_takeSemicolon 15 = .ok (.ifCond .ne 11, 3) := by decide +kernel
theorem dX5_takeSemicolon_18 : decode cX5_takeSemicolon 18 = .ok (.aload_n 0, 1) := by decide +kernel
theorem dX5_takeSemicolon_19 : decode cX5_takeSemicolon 19 = .ok (.iconst 1, 1) := by decide +kernel
theorem dX5_takeSemicolon_20 : decode cX5_takeSemicolon 20 = .ok (.invokevirtual 106, 3) := by decide +kernel
theorem dX5_takeSemicolon_23 : decode cX5_takeSemicolon 23 = .ok (.goto 22, 3) := by decide +kernel
theorem dX5_takeSemicolon_26 : decode cX5_takeSemicolon 26 = .ok (.iload_n 1, 1) := by decide +kernel
theorem dX5_takeSemicolon_27 : decode cX5_takeSemicolon 27 = .ok (.ifCond .eq 11, 3) := by decide +kernel
theorem dX5_takeSemicolon_30 : decode cX5_takeSemicolon 30 = .ok (.aload_n 0, 1) := by decide +kernel
theorem dX5_takeSemicolon_31 : decode cX5_takeSemicolon 31 = .ok (.iload_n 1, 1) := by decide +kernel
theorem dX5_takeSemicolon_32 : decode cX5_takeSemicolon 32 = .ok (.invokevirtual 106, 3) := by decide +kernel
theorem dX5_takeSemicolon_35 : decode cX5_takeSemicolon 35 = .ok (.goto 10, 3) := by decide +kernel
theorem dX5_takeSemicolon_38 : decode cX5_takeSemicolon 38 = .ok (.aload_n 0, 1) := by decide +kernel
theorem dX5_takeSemicolon_39 : decode cX5_takeSemicolon 39 = .ok (.getfield 34, 3) := by decide +kernel
theorem dX5_takeSemicolon_42 : decode cX5_takeSemicolon 42 = .ok (.invokevirtual 154, 3) := by decide +kernel
theorem dX5_takeSemicolon_45 : decode cX5_takeSemicolon 45 = .ok (.return_, 1) := by decide +kernel
theorem dX5_fail_0 : decode cX5_fail 0 = .ok (.aload_n 0, 1) := by decide +kernel
theorem dX5_fail_1 : decode cX5_fail 1 = .ok (.getfield 18, 3) := by decide +kernel
theorem dX5_fail_4 : decode cX5_fail 4 = .ok (.ifCond .ne 19, 3) := by decide +kernel
theorem dX5_fail_7 : decode cX5_fail 7 = .ok (.aload_n 0, 1) := by decide +kernel
theorem dX5_fail_8 : decode cX5_fail 8 = .ok (.iload_n 1, 1) := by decide +kernel
theorem dX5_fail_9 : decode cX5_fail 9 = .ok (.putfield 18, 3) := by decide +kernel
theorem dX5_fail_12 : decode cX5_fail 12 = .ok (.aload_n 0, 1) := by decide +kernel
theorem dX5_fail_13 : decode cX5_fail 13 = .ok (.aload_n 0, 1) := by decide +kernel
theorem dX5_fail_14 : decode cX5_fail 14 = .ok (.getfield 34, 3) := by decide +kernel
theorem dX5_fail_17 : decode cX5_fail 17 = .ok (.getfield 138, 3) := by decide +kernel
theorem dX5_fail_20 : decode cX5_fail 20 = .ok (.putfield 22, 3) := by decide +kernel
theorem dX5_fail_23 : decode cX5_fail 23 = .ok (.return_, 1) := by decide +kernel
theorem dX6_init_0 : decode cX6_init 0 = .ok (.aload_n 0, 1) := by decide +kernel
theorem dX6_init_1 : decode cX6_init 1 = .ok (.invokespecial 3, 3) := by decide +kernel
theorem dX6_init_4 : decode cX6_init 4 = .ok (.aload_n 0, 1) := by decide +kernel
theorem dX6_init_5 : decode cX6_init 5 = .ok (.bipush 36, 2) := by decide +kernel
theorem dX6_init_7 : decode cX6_init 7 = .ok (.newarray .int, 2) := by decide +kernel
theorem dX6_init_9 : decode cX6_init 9 = .ok (.putfield 9, 3) := by decide +kernel
theorem dX6_init_12 : decode cX6_init 12 = .ok (.aload_n 0, 1) := by decide +kernel
theorem dX6_init_13 : decode cX6_init 13 = .ok (.bipush 36, 2) := by decide +kernel
theorem dX6_init_15 : decode cX6_init 15 = .ok (.newarray .int, 2) := by decide +kernel
theorem dX6_init_17 : decode cX6_init 17 = .ok (.putfield 15, 3) := by decide +kernel
theorem dX6_init_20 : decode cX6_init 20 = .ok (.aload_n 0, 1) := by decide +kernel
theorem dX6_init_21 : decode cX6_init 21 = .ok (.iconst 0, 1) := by decide +kernel
theorem dX6_init_22 : decode cX6_init 22 = .ok (.putfield 18, 3) := by decide +kernel
theorem dX6_init_25 : decode cX6_init 25 = .ok (.return_, 1) := by decide +kernel
theorem dX6_clear_0 : decode cX6_clear 0 = .ok (.aload_n 0, 1) := by decide +kernel
theorem dX6_clear_1 : decode cX6_clear 1 = .ok (.iconst 0, 1) := by decide +kernel
theorem dX6_clear_2 : decode cX6_clear 2 = .ok (.putfield 18, 3) := by decide +kernel
theorem dX6_clear_5 : decode cX6_clear 5 = .ok (.return_, 1) := by decide +kernel
theorem dX6_copyFrom_0 : decode cX6_copyFrom 0 = .ok (.aload_n 0, 1) := by decide +kernel
theorem dX6_copyFrom_1 : decode cX6_copyFrom 1 = .ok (.aload_n 1, 1) := by decide +kernel
theorem dX6_copyFrom_2 : decode cX6_copyFrom 2 = .ok (.getfield 18, 3) := by decide +kernel
theorem dX6_copyFrom_5 : decode cX6_copyFrom 5 = .ok (.putfield 18, 3) := by decide +kernel
theorem dX6_copyFrom_8 : decode cX6_copyFrom 8 = .ok (.aload_n 1, 1) := by decide +kernel
theorem dX6_copyFrom_9 : decode cX6_copyFrom 9 = .ok (.getfield 9, 3) := by decide +kernel
theorem dX6_copyFrom_12 : decode cX6_copyFrom 12 = .ok (.aload_n 0, 1) := by decide +kernel
theorem dX6_copyFrom_13 : decode cX6_copyFrom 13 = .ok (.getfield 9, 3) := by decide +kernel
theorem dX6_copyFrom_16 : decode cX6_copyFrom 16 = .ok (.invokestatic 22, 3) := by decide +kernel
theorem dX6_copyFrom_19 : decode cX6_copyFrom 19 = .ok (.aload_n 1, 1) := by decide +kernel
theorem dX6_copyFrom_20 : decode cX6_copyFrom 20 = .ok (.getfield 15, 3) := by decide +kernel
theorem dX6_copyFrom_23 : decode cX6_copyFrom 23 = .ok (.aload_n 0, 1) := by decide +kernel
theorem dX6_copyFrom_24 : decode cX6_copyFrom 24 = .ok (.getfield 15, 3) := by decide +kernel
theorem dX6_copyFrom_27 : decode cX6_copyFrom 27 = .ok (.invokestatic 22, 3) := by decide +kernel
theorem dX6_copyFrom_30 : decode cX6_copyFrom 30 = .ok (.return_, 1) := by decide +kernel
theorem dX6_has_0 : decode cX6_has 0 = .ok (.iconst 0, 1) := by decide +kernel
theorem dX6_has_1 : decode cX6_has 1 = .ok (.istore_n 2, 1) := by decide +kernel
theorem dX6_has_2 : decode cX6_has 2 = .ok (.iload_n 2, 1) := by decide +kernel
theorem dX6_has_3 : decode cX6_has 3 = .ok (.aload_n 0, 1) := by decide +kernel
theorem dX6_has_4 : decode cX6_has 4 = .ok (.getfield 18, 3) := by decide +kernel
theorem dX6_has_7 : decode cX6_has 7 = .ok (.if_icmp .ge 23, 3) := by decide +kernel
theorem dX6_has_10 : decode cX6_has 10 = .ok (.aload_n 0, 1) := by decide +kernel
theorem dX6_has_11 : decode cX6_has 11 = .ok (.getfield 9, 3) := by decide +kernel
theorem dX6_has_14 : decode cX6_has 14 = .ok (.iload_n 2, 1) := by decide +kernel
theorem dX6_has_15 : decode cX6_has 15 = .ok (.invokestatic 26, 3) := by decide +kernel
theorem dX6_has_18 : decode cX6_has 18 = .ok (.iload_n 1, 1) := by decide +kernel
theorem dX6_has_19 : decode cX6_has 19 = .ok (.if_icmp .ne 5, 3) := by decide +kernel
theorem dX6_has_22 : decode cX6_has 22 = .ok (.iconst 1, 1) := by decide +kernel
theorem dX6_has_23 : decode cX6_has 23 = .ok (.ireturn, 1) := by decide +kernel
theorem dX6_has_24 : decode cX6_has 24 = .ok (.iinc 2 1, 3) := by decide +kernel
theorem dX6_has_27 : decode cX6_has 27 = .ok (.goto (-25), 3) := by decide +kernel
theorem dX6_has_30 : decode cX6_has 30 = .ok (.iconst 0, 1) := by decide +kernel
theorem dX6_has_31 : decode cX6_has 31 = .ok (.ireturn, 1) := by decide +kernel
theorem dX6_add_0 : decode cX6_add 0 = .ok (.aload_n 0, 1) := by decide +kernel
theorem dX6_add_1 : decode cX6_add 1 = .ok (.getfield 18, 3) := by decide +kernel
theorem dX6_add_4 : decode cX6_add 4 = .ok (.bipush 36, 2) := by decide +kernel
theorem dX6_add_6 : decode cX6_add 6 = .ok (.if_icmp .lt 4, 3) := by decide +kernel
theorem dX6_add_9 : decode cX6_add 9 = .ok (.return_, 1) := by decide +kernel
theorem dX6_add_10 : decode cX6_add 10 = .ok (.aload_n 0, 1) := by decide +kernel
theorem dX6_add_11 : decode cX6_add 11 = .ok (.getfield 18, 3) := by decide +kernel
theorem dX6_add_14 : decode cX6_add 14 = .ok (.istore_n 3, 1) := by decide +kernel
theorem dX6_add_15 : decode cX6_add 15 = .ok (.iload_n 3, 1) := by decide +kernel
theorem dX6_add_16 : decode cX6_add 16 = .ok (.ifCond .le 46, 3) := by decide +kernel
theorem dX6_add_19 : decode cX6_add 19 = .ok (.aload_n 0, 1) := by decide +kernel
theorem dX6_add_20 : decode cX6_add 20 = .ok (.iload_n 1, 1) := by decide +kernel
theorem dX6_add_21 : decode cX6_add 21 = .ok (.iload_n 2, 1) := by decide +kernel
theorem dX6_add_22 : decode cX6_add 22 = .ok (.iload_n 3, 1) := by decide +kernel
theorem dX6_add_23 : decode cX6_add 23 = .ok (.iconst 1, 1) := by decide +kernel
theorem dX6_add_24 : decode cX6_add 24 = .ok (.isub, 1) := by decide +kernel
theorem dX6_add_25 : decode cX6_add 25 = .ok (.invokevirtual 30, 3) := by decide +kernel
theorem dX6_add_28 : decode cX6_add 28 = .ok (.ifCond .eq 34, 3) := by decide +kernel
theorem dX6_add_31 : decode cX6_add 31 = .ok (.aload_n 0, 1) := by decide +kernel
theorem dX6_add_32 : decode cX6_add 32 = .ok (.iload_n 3, 1) := by decide +kernel
theorem dX6_add_33 : decode cX6_add 33 = .ok (.aload_n 0, 1) := by decide +kernel
theorem dX6_add_34 : decode cX6_add 34 = .ok (.getfield 9, 3) := by decide +kernel
theorem dX6_add_37 : decode cX6_add 37 = .ok (.iload_n 3, 1) := by decide +kernel
theorem dX6_add_38 : decode cX6_add 38 = .ok (.iconst 1, 1) := by decide +kernel
theorem dX6_add_39 : decode cX6_add 39 = .ok (.isub, 1) := by decide +kernel
theorem dX6_add_40 : decode cX6_add 40 = .ok (.invokestatic 26, 3) := by decide +kernel
theorem dX6_add_43 : decode cX6_add 43 = .ok (.aload_n 0, 1) := by decide +kernel
theorem dX6_add_44 : decode cX6_add 44 = .ok (.getfield 15, 3) := by decide +kernel
theorem dX6_add_47 : decode cX6_add 47 = .ok (.iload_n 3, 1) := by decide +kernel
theorem dX6_add_48 : decode cX6_add 48 = .ok (.iconst 1, 1) := by decide +kernel
theorem dX6_add_49 : decode cX6_add 49 = .ok (.isub, 1) := by decide +kernel
theorem dX6_add_50 : decode cX6_add 50 = .ok (.invokestatic 26, 3) := by decide +kernel
theorem dX6_add_53 : decode cX6_add 53 = .ok (.invokevirtual 34, 3) := by decide +kernel
theorem dX6_add_56 : decode cX6_add 56 = .ok (.iinc 3 (-1), 3) := by decide +kernel
theorem dX6_add_59 : decode cX6_add 59 = .ok (.goto (-44), 3) := by decide +kernel
theorem dX6_add_62 : decode cX6_add 62 = .ok (.aload_n 0, 1) := by decide +kernel
theorem dX6_add_63 : decode cX6_add 63 = .ok (.iload_n 3, 1) := by decide +kernel
theorem dX6_add_64 : decode cX6_add 64 = .ok (.iload_n 1, 1) := by decide +kernel
theorem dX6_add_65 : decode cX6_add 65 = .ok (.iload_n 2, 1) := by decide +kernel
theorem dX6_add_66 : decode cX6_add 66 = .ok (.invokevirtual 34, 3) := by decide +kernel
theorem dX6_add_69 : decode cX6_add 69 = .ok (.aload_n 0, 1) := by decide +kernel
theorem dX6_add_70 : decode cX6_add 70 = .ok (.dup, 1) := by decide +kernel
theorem dX6_add_71 : decode cX6_add 71 = .ok (.getfield 18, 3) := by decide +kernel
theorem dX6_add_74 : decode cX6_add 74 = .ok (.iconst 1, 1) := by decide +kernel
theorem dX6_add_75 : decode cX6_add 75 = .ok (.iadd, 1) := by decide +kernel
theorem dX6_add_76 : decode cX6_add 76 = .ok (.putfield 18, 3) := by decide +kernel
theorem dX6_add_79 : decode cX6_add 79 = .ok (.return_, 1) := by decide +kernel
theorem dX6_goesBefore_0 : decode cX6_goesBefore 0 = .ok (.aload_n 0, 1) := by decide +kernel
theorem dX6_goesBefore_1 : decode cX6_goesBefore 1 = .ok (.getfield 15, 3) := by decide +kernel
theorem dX6_goesBefore_4 : decode cX6_goesBefore 4 = .ok (.iload_n 3, 1) := by decide +kernel
theorem dX6_goesBefore_5 : decode cX6_goesBefore 5 = .ok (.invokestatic 26, 3) := by decide +kernel
theorem dX6_goesBefore_8 : decode cX6_goesBefore 8 = .ok (.istore 4, 2) := by decide +kernel
theorem dX6_goesBefore_10 : decode cX6_goesBefore 10 = .ok (.iload_n 2, 1) := by decide +kernel
theorem dX6_goesBefore_11 : decode cX6_goesBefore 11 = .ok (.iload 4, 2) := by decide +kernel
theorem dX6_goesBefore_13 : decode cX6_goesBefore 13 = .ok (.if_icmp .gt 21, 3) := by decide +kernel
theorem dX6_goesBefore_16 : decode cX6_goesBefore 16 = .ok (.iload_n 2, 1) := by decide +kernel
theorem dX6_goesBefore_17 : decode cX6_goesBefore 17 = .ok (.iload 4, 2) := by decide +kernel
theorem dX6_goesBefore_19 : decode cX6_goesBefore 19 = .ok (.if_icmp .ne 19, 3) := by decide +kernel
theorem dX6_goesBefore_22 : decode cX6_goesBefore 22 = .ok (.iload_n 1, 1) := by decide +kernel
theorem dX6_goesBefore_23 : decode cX6_goesBefore 23 = .ok (.aload_n 0, 1) := by decide +kernel
theorem dX6_goesBefore_24 : decode cX6_goesBefore 24 = .ok (.getfield 9, 3) := by decide +kernel
theorem dX6_goesBefore_27 : decode cX6_goesBefore 27 = .ok (.iload_n 3, 1) := by decide +kernel
theorem dX6_goesBefore_28 : decode cX6_goesBefore 28 = .ok (.invokestatic 26, 3) := by decide +kernel
theorem dX6_goesBefore_31 : decode cX6_goesBefore 31 = .ok (.if_icmp .ge 7, 3) := by decide +kernel
theorem dX6_goesBefore_34 : decode cX6_goesBefore 34 = .ok (.iconst 1, 1) := by decide +kernel
theorem dX6_goesBefore_35 : decode cX6_goesBefore 35 = .ok (.goto 4, 3) := by decide +kernel
theorem dX6_goesBefore_38 : decode cX6_goesBefore 38 = .ok (.iconst 0, 1) := by decide +kernel
theorem dX6_goesBefore_39 : decode cX6_goesBefore 39 = .ok (.ireturn, 1) := by decide +kernel
theorem dX6_set_0 : decode cX6_set 0 = .ok (.aload_n 0, 1) := by decide +kernel
theorem dX6_set_1 : decode cX6_set 1 = .ok (.getfield 9, 3) := by decide +kernel
theorem dX6_set_4 : decode cX6_set 4 = .ok (.iload_n 1, 1) := by decide +kernel
theorem dX6_set_5 : decode cX6_set 5 = .ok (.iload_n 2, 1) := by decide +kernel
theorem dX6_set_6 : decode cX6_set 6 = .ok (.invokestatic 38, 3) := by decide +kernel
theorem dX6_set_9 : decode cX6_set 9 = .ok (.aload_n 0, 1) := by decide +kernel
theorem dX6_set_10 : decode cX6_set 10 = .ok (.getfield 15, 3) := by decide +kernel
theorem dX6_set_13 : decode cX6_set 13 = .ok (.iload_n 1, 1) := by decide +kernel
theorem dX6_set_14 : decode cX6_set 14 = .ok (.iload_n 3, 1) := by decide +kernel
theorem dX6_set_15 : decode cX6_set 15 = .ok (.invokestatic 38, 3) := by decide +kernel
theorem dX6_set_18 : decode cX6_set 18 = .ok (.return_, 1) := by decide +kernel
theorem dX6_removeFirst_0 : decode cX6_removeFirst 0 = .ok (.iconst 1, 1) := by decide +kernel
theorem dX6_removeFirst_1 : decode cX6_removeFirst 1 = .ok (.istore_n 1, 1) := by decide +kernel
theorem dX6_removeFirst_2 : decode cX6_removeFirst 2 = .ok (.iload_n 1, 1) := by decide +kernel
theorem dX6_removeFirst_3 : decode cX6_removeFirst 3 = .ok (.aload_n 0, 1) := by decide +kernel
theorem dX6_removeFirst_4 : decode cX6_removeFirst 4 = .ok (.getfield 18, 3) := by decide +kernel
theorem dX6_removeFirst_7 : decode cX6_removeFirst 7 = .ok (.if_icmp .ge 32, 3) := by decide +kernel
theorem dX6_removeFirst_10 : decode cX6_removeFirst 10 = .ok (.aload_n 0, 1) := by decide +kernel
theorem dX6_removeFirst_11 : decode cX6_removeFirst 11 = .ok (.iload_n 1, 1) := by decide +kernel
theorem dX6_removeFirst_12 : decode cX6_removeFirst 12 = .ok (.iconst 1, 1) := by decide +kernel
theorem dX6_removeFirst_13 : decode cX6_removeFirst 13 = .ok (.isub, 1) := by decide +kernel
theorem dX6_removeFirst_14 : decode cX6_removeFirst 14 = .ok (.aload_n 0, 1) := by decide +kernel
theorem dX6_removeFirst_15 : decode cX6_removeFirst 15 = .ok (.getfield 9, 3) := by decide +kernel
theorem dX6_removeFirst_18 : decode cX6_removeFirst 18 = .ok (.iload_n 1, 1) := by decide +kernel
theorem dX6_removeFirst_19 : decode cX6_removeFirst 19 = .ok (.invokestatic 26, 3) := by decide +kernel
theorem dX6_removeFirst_22 : decode cX6_removeFirst 22 = .ok (.aload_n 0, 1) := by decide +kernel
theorem dX6_removeFirst_23 : decode cX6_removeFirst 23 = .ok (.getfield 15, 3) := by decide +kernel
theorem dX6_removeFirst_26 : decode cX6_removeFirst 26 = .ok (.iload_n 1, 1) := by decide +kernel
theorem dX6_removeFirst_27 : decode cX6_removeFirst 27 = .ok (.invokestatic 26, 3) := by decide +kernel
theorem dX6_removeFirst_30 : decode cX6_removeFirst 30 = .ok (.invokevirtual 34, 3) := by decide +kernel
theorem dX6_removeFirst_33 : decode cX6_removeFirst 33 = .ok (.iinc 1 1, 3) := by decide +kernel
theorem dX6_removeFirst_36 : decode cX6_removeFirst 36 = .ok (.goto (-34), 3) := by decide +kernel
theorem dX6_removeFirst_39 : decode cX6_removeFirst 39 = .ok (.aload_n 0, 1) := by decide +kernel
theorem dX6_removeFirst_40 : decode cX6_removeFirst 40 = .ok (.iconst 0, 1) := by decide +kernel
theorem dX6_removeFirst_41 : decode cX6_removeFirst 41 = .ok (.aload_n 0, 1) := by decide +kernel
theorem dX6_removeFirst_42 : decode cX6_removeFirst 42 = .ok (.getfield 18, 3) := by decide +kernel
theorem dX6_removeFirst_45 : decode cX6_removeFirst 45 = .ok (.iconst 1, 1) := by decide +kernel
theorem dX6_removeFirst_46 : decode cX6_removeFirst 46 = .ok (.isub, 1) := by decide +kernel
theorem dX6_removeFirst_47 : decode cX6_removeFirst 47 = .ok (.invokestatic 42, 3) := by decide +kernel
theorem dX6_removeFirst_50 : decode cX6_removeFirst 50 = .ok (.putfield 18, 3) := by decide +kernel
theorem dX6_removeFirst_53 : decode cX6_removeFirst 53 = .ok (.return_, 1) := by decide +kernel
theorem dX6_removeAllOf_0 : decode cX6_removeAllOf 0 = .ok (.iconst 0, 1) := by decide +kernel
theorem dX6_removeAllOf_1 : decode cX6_removeAllOf 1 = .ok (.istore_n 2, 1) := by decide +kernel
theorem dX6_removeAllOf_2 : decode cX6_removeAllOf 2 = .ok (.iconst 0, 1) := by decide +kernel
theorem dX6_removeAllOf_3 : decode cX6_removeAllOf 3 = .ok (.istore_n 3, 1) := by decide +kernel
theorem dX6_removeAllOf_4 : decode cX6_removeAllOf 4 = .ok (.iload_n 3, 1) := by decide +kernel
theorem dX6_removeAllOf_5 : decode cX6_removeAllOf 5 = .ok (.aload_n 0, 1) := by decide +kernel
theorem dX6_removeAllOf_6 : decode cX6_removeAllOf 6 = .ok (.getfield 18, 3) := by decide +kernel
theorem dX6_removeAllOf_9 : decode cX6_removeAllOf 9 = .ok (.if_icmp .ge 48, 3) := by decide +kernel
theorem dX6_removeAllOf_12 : decode cX6_removeAllOf 12 = .ok (.aload_n 0, 1) := by decide +kernel
theorem dX6_removeAllOf_13 : decode cX6_removeAllOf 13 = .ok (.getfield 9, 3) := by decide +kernel
theorem dX6_removeAllOf_16 : decode cX6_removeAllOf 16 = .ok (.iload_n 3, 1) := by decide +kernel
theorem dX6_removeAllOf_17 : decode cX6_removeAllOf 17 = .ok (.invokestatic 26, 3) := by decide +kernel
theorem dX6_removeAllOf_20 : decode cX6_removeAllOf 20 = .ok (.invokestatic 48, 3) := by decide +kernel
theorem dX6_removeAllOf_23 : decode cX6_removeAllOf 23 = .ok (.iload_n 1, 1) := by decide +kernel
theorem dX6_removeAllOf_24 : decode cX6_removeAllOf 24 = .ok (.if_icmp .eq 27, 3) := by decide +kernel
theorem dX6_removeAllOf_27 : decode cX6_removeAllOf 27 = .ok (.aload_n 0, 1) := by decide +kernel
theorem dX6_removeAllOf_28 : decode cX6_removeAllOf 28 = .ok (.iload_n 2, 1) := by decide +kernel
theorem dX6_removeAllOf_29 : decode cX6_removeAllOf 29 = .ok (.aload_n 0, 1) := by decide +kernel
theorem dX6_removeAllOf_30 : decode cX6_removeAllOf 30 = .ok (.getfield 9, 3) := by decide +kernel
theorem dX6_removeAllOf_33 : decode cX6_removeAllOf 33 = .ok (.iload_n 3, 1) := by decide +kernel
theorem dX6_removeAllOf_34 : decode cX6_removeAllOf 34 = .ok (.invokestatic 26, 3) := by decide +kernel
theorem dX6_removeAllOf_37 : decode cX6_removeAllOf 37 = .ok (.aload_n 0, 1) := by decide +kernel
theorem dX6_removeAllOf_38 : decode cX6_removeAllOf 38 = .ok (.getfield 15, 3) := by decide +kernel
theorem dX6_removeAllOf_41 : decode cX6_removeAllOf 41 = .ok (.iload_n 3, 1) := by decide +kernel
theorem dX6_removeAllOf_42 : decode cX6_removeAllOf 42 = .ok (.invokestatic 26, 3) := by decide +kernel
theorem dX6_removeAllOf_45 : decode cX6_removeAllOf 45 = .ok (.invokevirtual 34, 3) := by decide +kernel
theorem dX6_removeAllOf_48 : decode cX6_removeAllOf 48 = .ok (.iinc 2 1, 3) := by decide +kernel
theorem dX6_removeAllOf_51 : decode cX6_removeAllOf 51 = .ok (.iinc 3 1, 3) := by decide +kernel
theorem dX6_removeAllOf_54 : decode cX6_removeAllOf 54 = .ok (.goto (-50), 3) := by decide +kernel
theorem dX6_removeAllOf_57 : decode cX6_removeAllOf 57 = .ok (.aload_n 0, 1) := by decide +kernel
theorem dX6_removeAllOf_58 : decode cX6_removeAllOf 58 = .ok (.getfield 18, 3) := by decide +kernel
theorem dX6_removeAllOf_61 : decode cX6_removeAllOf 61 = .ok (.iload_n 2, 1) := by decide +kernel
theorem dX6_removeAllOf_62 : decode cX6_removeAllOf 62 = .ok (.isub, 1) := by decide +kernel
theorem dX6_removeAllOf_63 : decode cX6_removeAllOf 63 = .ok (.istore_n 3, 1) := by decide +kernel
theorem dX6_removeAllOf_64 : decode cX6_removeAllOf 64 = .ok (.aload_n 0, 1) := by decide +kernel
theorem dX6_removeAllOf_65 : decode cX6_removeAllOf 65 = .ok (.iload_n 2, 1) := by decide +kernel
theorem dX6_removeAllOf_66 : decode cX6_removeAllOf 66 = .ok (.putfield 18, 3) := by decide +kernel
theorem dX6_removeAllOf_69 : decode cX6_removeAllOf 69 = .ok (.iload_n 3, 1) := by decide +kernel
theorem dX6_removeAllOf_70 : decode cX6_removeAllOf 70 = .ok (.ireturn, 1) := by decide +kernel
theorem dX6_countOf_0 : decode cX6_countOf 0 = .ok (.iconst 0, 1) := by decide +kernel
theorem dX6_countOf_1 : decode cX6_countOf 1 = .ok (.istore_n 2, 1) := by decide +kernel
theorem dX6_countOf_2 : decode cX6_countOf 2 = .ok (.iconst 0, 1) := by decide +kernel
theorem dX6_countOf_3 : decode cX6_countOf 3 = .ok (.istore_n 3, 1) := by decide +kernel
theorem dX6_countOf_4 : decode cX6_countOf 4 = .ok (.iload_n 3, 1) := by decide +kernel
theorem dX6_countOf_5 : decode cX6_countOf 5 = .ok (.aload_n 0, 1) := by decide +kernel
theorem dX6_countOf_6 : decode cX6_countOf 6 = .ok (.getfield 18, 3) := by decide +kernel
theorem dX6_countOf_9 : decode cX6_countOf 9 = .ok (.if_icmp .ge 27, 3) := by decide +kernel
theorem dX6_countOf_12 : decode cX6_countOf 12 = .ok (.aload_n 0, 1) := by decide +kernel
theorem dX6_countOf_13 : decode cX6_countOf 13 = .ok (.getfield 9, 3) := by decide +kernel
theorem dX6_countOf_16 : decode cX6_countOf 16 = .ok (.iload_n 3, 1) := by decide +kernel
theorem dX6_countOf_17 : decode cX6_countOf 17 = .ok (.invokestatic 26, 3) := by decide +kernel
theorem dX6_countOf_20 : decode cX6_countOf 20 = .ok (.invokestatic 48, 3) := by decide +kernel
theorem dX6_countOf_23 : decode cX6_countOf 23 = .ok (.iload_n 1, 1) := by decide +kernel
theorem dX6_countOf_24 : decode cX6_countOf 24 = .ok (.if_icmp .ne 6, 3) := by decide +kernel
theorem dX6_countOf_27 : decode cX6_countOf 27 = .ok (.iinc 2 1, 3) := by decide +kernel
theorem dX6_countOf_30 : decode cX6_countOf 30 = .ok (.iinc 3 1, 3) := by decide +kernel
theorem dX6_countOf_33 : decode cX6_countOf 33 = .ok (.goto (-29), 3) := by decide +kernel
theorem dX6_countOf_36 : decode cX6_countOf 36 = .ok (.iload_n 2, 1) := by decide +kernel
theorem dX6_countOf_37 : decode cX6_countOf 37 = .ok (.ireturn, 1) := by decide +kernel
theorem dX7_init_0 : decode cX7_init 0 = .ok (.aload_n 0, 1) := by decide +kernel
theorem dX7_init_1 : decode cX7_init 1 = .ok (.invokespecial 3, 3) := by decide +kernel
theorem dX7_init_4 : decode cX7_init 4 = .ok (.aload_n 0, 1) := by decide +kernel
theorem dX7_init_5 : decode cX7_init 5 = .ok (.bipush 6, 2) := by decide +kernel
theorem dX7_init_7 : decode cX7_init 7 = .ok (.newarray .int, 2) := by decide +kernel
theorem dX7_init_9 : decode cX7_init 9 = .ok (.putfield 9, 3) := by decide +kernel
theorem dX7_init_12 : decode cX7_init 12 = .ok (.aload_n 0, 1) := by decide +kernel
theorem dX7_init_13 : decode cX7_init 13 = .ok (.bipush 24, 2) := by decide +kernel
theorem dX7_init_15 : decode cX7_init 15 = .ok (.newarray .int, 2) := by decide +kernel
theorem dX7_init_17 : decode cX7_init 17 = .ok (.putfield 15, 3) := by decide +kernel
theorem dX7_init_20 : decode cX7_init 20 = .ok (.aload_n 0, 1) := by decide +kernel
theorem dX7_init_21 : decode cX7_init 21 = .ok (.iconst 0, 1) := by decide +kernel
theorem dX7_init_22 : decode cX7_init 22 = .ok (.putfield 18, 3) := by decide +kernel
theorem dX7_init_25 : decode cX7_init 25 = .ok (.return_, 1) := by decide +kernel
theorem dX7_clear_0 : decode cX7_clear 0 = .ok (.aload_n 0, 1) := by decide +kernel
theorem dX7_clear_1 : decode cX7_clear 1 = .ok (.iconst 0, 1) := by decide +kernel
theorem dX7_clear_2 : decode cX7_clear 2 = .ok (.putfield 18, 3) := by decide +kernel
theorem dX7_clear_5 : decode cX7_clear 5 = .ok (.return_, 1) := by decide +kernel
theorem dX7_copyFrom_0 : decode cX7_copyFrom 0 = .ok (.aload_n 0, 1) := by decide +kernel
theorem dX7_copyFrom_1 : decode cX7_copyFrom 1 = .ok (.aload_n 1, 1) := by decide +kernel
theorem dX7_copyFrom_2 : decode cX7_copyFrom 2 = .ok (.getfield 18, 3) := by decide +kernel
theorem dX7_copyFrom_5 : decode cX7_copyFrom 5 = .ok (.putfield 18, 3) := by decide +kernel
theorem dX7_copyFrom_8 : decode cX7_copyFrom 8 = .ok (.aload_n 1, 1) := by decide +kernel
theorem dX7_copyFrom_9 : decode cX7_copyFrom 9 = .ok (.getfield 9, 3) := by decide +kernel
theorem dX7_copyFrom_12 : decode cX7_copyFrom 12 = .ok (.aload_n 0, 1) := by decide +kernel
theorem dX7_copyFrom_13 : decode cX7_copyFrom 13 = .ok (.getfield 9, 3) := by decide +kernel
theorem dX7_copyFrom_16 : decode cX7_copyFrom 16 = .ok (.invokestatic 22, 3) := by decide +kernel
theorem dX7_copyFrom_19 : decode cX7_copyFrom 19 = .ok (.aload_n 1, 1) := by decide +kernel
theorem dX7_copyFrom_20 : decode cX7_copyFrom 20 = .ok (.getfield 15, 3) := by decide +kernel
theorem dX7_copyFrom_23 : decode cX7_copyFrom 23 = .ok (.aload_n 0, 1) := by decide +kernel
theorem dX7_copyFrom_24 : decode cX7_copyFrom 24 = .ok (.getfield 15, 3) := by decide +kernel
theorem dX7_copyFrom_27 : decode cX7_copyFrom 27 = .ok (.invokestatic 22, 3) := by decide +kernel
theorem dX7_copyFrom_30 : decode cX7_copyFrom 30 = .ok (.return_, 1) := by decide +kernel
theorem dX7_add_0 : decode cX7_add 0 = .ok (.aload_n 0, 1) := by decide +kernel
theorem dX7_add_1 : decode cX7_add 1 = .ok (.getfield 18, 3) := by decide +kernel
theorem dX7_add_4 : decode cX7_add 4 = .ok (.bipush 6, 2) := by decide +kernel
theorem dX7_add_6 : decode cX7_add 6 = .ok (.if_icmp .lt 4, 3) := by decide +kernel
theorem dX7_add_9 : decode cX7_add 9 = .ok (.return_, 1) := by decide +kernel
theorem dX7_add_10 : decode cX7_add 10 = .ok (.iconst 0, 1) := by decide +kernel
theorem dX7_add_11 : decode cX7_add 11 = .ok (.istore 4, 2) := by decide +kernel
theorem dX7_add_13 : decode cX7_add 13 = .ok (.iload 4, 2) := by decide +kernel
theorem dX7_add_15 : decode cX7_add 15 = .ok (.iconst 4, 1) := by decide +kernel
theorem dX7_add_16 : decode cX7_add 16 = .ok (.if_icmp .ge 45, 3) := by decide +kernel
theorem dX7_add_19 : decode cX7_add 19 = .ok (.aload_n 0, 1) := by decide +kernel
theorem dX7_add_20 : decode cX7_add 20 = .ok (.getfield 15, 3) := by decide +kernel
theorem dX7_add_23 : decode cX7_add 23 = .ok (.aload_n 0, 1) := by decide +kernel
theorem dX7_add_24 : decode cX7_add 24 = .ok (.getfield 18, 3) := by decide +kernel
theorem dX7_add_27 : decode cX7_add 27 = .ok (.iconst 4, 1) := by decide +kernel
theorem dX7_add_28 : decode cX7_add 28 = .ok (.imul, 1) := by decide +kernel
theorem dX7_add_29 : decode cX7_add 29 = .ok (.iload 4, 2) := by decide +kernel
theorem dX7_add_31 : decode cX7_add 31 = .ok (.iadd, 1) := by decide +kernel
theorem dX7_add_32 : decode cX7_add 32 = .ok (.iload_n 2, 1) := by decide +kernel
theorem dX7_add_33 : decode cX7_add 33 = .ok (.iload 4, 2) := by decide +kernel
theorem dX7_add_35 : decode cX7_add 35 = .ok (.iadd, 1) := by decide +kernel
theorem dX7_add_36 : decode cX7_add 36 = .ok (.iload_n 3, 1) := by decide +kernel
theorem dX7_add_37 : decode cX7_add 37 = .ok (.if_icmp .ge 14, 3) := by decide +kernel
theorem dX7_add_40 : decode cX7_add 40 = .ok (.aload_n 1, 1) := by decide +kernel
theorem dX7_add_41 : decode cX7_add 41 = .ok (.iload_n 2, 1) := by decide +kernel
theorem dX7_add_42 : decode cX7_add 42 = .ok (.iload 4, 2) := by decide +kernel
theorem dX7_add_44 : decode cX7_add 44 = .ok (.iadd, 1) := by decide +kernel
theorem dX7_add_45 : decode cX7_add 45 = .ok (.invokevirtual 26, 3) := by decide +kernel
theorem dX7_add_48 : decode cX7_add 48 = .ok (.goto 4, 3) := by decide +kernel
theorem dX7_add_51 : decode cX7_add 51 = .ok (.iconst 0, 1) := by decide +kernel
theorem dX7_add_52 : decode cX7_add 52 = .ok (.invokestatic 32, 3) := by decide +kernel
theorem dX7_add_55 : decode cX7_add 55 = .ok (.iinc 4 1, 3) := by decide +kernel
theorem dX7_add_58 : decode cX7_add 58 = .ok (.goto (-45), 3) := by decide +kernel
theorem dX7_add_61 : decode cX7_add 61 = .ok (.aload_n 0, 1) := by decide +kernel
theorem dX7_add_62 : decode cX7_add 62 = .ok (.getfield 9, 3) := by decide +kernel
theorem dX7_add_65 : decode cX7_add 65 = .ok (.aload_n 0, 1) := by decide +kernel
theorem dX7_add_66 : decode cX7_add 66 = .ok (.getfield 18, 3) := by decide +kernel
theorem dX7_add_69 : decode cX7_add 69 = .ok (.iload_n 3, 1) := by decide +kernel
theorem dX7_add_70 : decode cX7_add 70 = .ok (.iload_n 2, 1) := by decide +kernel
theorem dX7_add_71 : decode cX7_add 71 = .ok (.isub, 1) := by decide +kernel
theorem dX7_add_72 : decode cX7_add 72 = .ok (.invokestatic 32, 3) := by decide +kernel
theorem dX7_add_75 : decode cX7_add 75 = .ok (.aload_n 0, 1) := by decide +kernel
theorem dX7_add_76 : decode cX7_add 76 = .ok (.dup, 1) := by decide +kernel
theorem dX7_add_77 : decode cX7_add 77 = .ok (.getfield 18, 3) := by decide +kernel
theorem dX7_add_80 : decode cX7_add 80 = .ok (.iconst 1, 1) := by decide +kernel
theorem dX7_add_81 : decode cX7_add 81 = .ok (.iadd, 1) := by decide +kernel
theorem dX7_add_82 : decode cX7_add 82 = .ok (.putfield 18, 3) := by decide +kernel
theorem dX7_add_85 : decode cX7_add 85 = .ok (.return_, 1) := by decide +kernel
theorem dX7_nameLength_0 : decode cX7_nameLength 0 = .ok (.aload_n 0, 1) := by decide +kernel
theorem dX7_nameLength_1 : decode cX7_nameLength 1 = .ok (.getfield 9, 3) := by decide +kernel
theorem dX7_nameLength_4 : decode cX7_nameLength 4 = .ok (.iload_n 1, 1) := by decide +kernel
theorem dX7_nameLength_5 : decode cX7_nameLength 5 = .ok (.invokestatic 36, 3) := by decide +kernel
theorem dX7_nameLength_8 : decode cX7_nameLength 8 = .ok (.ireturn, 1) := by decide +kernel
theorem dX7_letter_0 : decode cX7_letter 0 = .ok (.aload_n 0, 1) := by decide +kernel
theorem dX7_letter_1 : decode cX7_letter 1 = .ok (.getfield 15, 3) := by decide +kernel
theorem dX7_letter_4 : decode cX7_letter 4 = .ok (.iload_n 1, 1) := by decide +kernel
theorem dX7_letter_5 : decode cX7_letter 5 = .ok (.iconst 4, 1) := by decide +kernel
theorem dX7_letter_6 : decode cX7_letter 6 = .ok (.imul, 1) := by decide +kernel
theorem dX7_letter_7 : decode cX7_letter 7 = .ok (.iload_n 2, 1) := by decide +kernel
theorem dX7_letter_8 : decode cX7_letter 8 = .ok (.iadd, 1) := by decide +kernel
theorem dX7_letter_9 : decode cX7_letter 9 = .ok (.invokestatic 36, 3) := by decide +kernel
theorem dX7_letter_12 : decode cX7_letter 12 = .ok (.ireturn, 1) := by decide +kernel
theorem dX7_find_0 : decode cX7_find 0 = .ok (.iconst 0, 1) := by decide +kernel
theorem dX7_find_1 : decode cX7_find 1 = .ok (.istore 4, 2) := by decide +kernel
theorem dX7_find_3 : decode cX7_find 3 = .ok (.iload 4, 2) := by decide +kernel
theorem dX7_find_5 : decode cX7_find 5 = .ok (.aload_n 0, 1) := by decide +kernel
theorem dX7_find_6 : decode cX7_find 6 = .ok (.getfield 18, 3) := by decide +kernel
theorem dX7_find_9 : decode cX7_find 9 = .ok (.if_icmp .ge 24, 3) := by decide +kernel
theorem dX7_find_12 : decode cX7_find 12 = .ok (.aload_n 0, 1) := by decide +kernel
theorem dX7_find_13 : decode cX7_find 13 = .ok (.iload 4, 2) := by decide +kernel
theorem dX7_find_15 : decode cX7_find 15 = .ok (.aload_n 1, 1) := by decide +kernel
theorem dX7_find_16 : decode cX7_find 16 = .ok (.iload_n 2, 1) := by decide +kernel
theorem dX7_find_17 : decode cX7_find 17 = .ok (.iload_n 3, 1) := by decide +kernel
theorem dX7_find_18 : decode cX7_find 18 = .ok (.invokevirtual 40, 3) := by decide +kernel
theorem dX7_find_21 : decode cX7_find 21 = .ok (.ifCond .eq 6, 3) := by decide +kernel
theorem dX7_find_24 : decode cX7_find 24 = .ok (.iload 4, 2) := by decide +kernel
theorem dX7_find_26 : decode cX7_find 26 = .ok (.ireturn, 1) := by decide +kernel
theorem dX7_find_27 : decode cX7_find 27 = .ok (.iinc 4 1, 3) := by decide +kernel
theorem dX7_find_30 : decode cX7_find 30 = .ok (.goto (-27), 3) := by decide +kernel
theorem dX7_find_33 : decode cX7_find 33 = .ok (.iconst (-1), 1) := by decide +kernel
theorem dX7_find_34 : decode cX7_find 34 = .ok (.ireturn, 1) := by decide +kernel
theorem dX7_isNamed_0 : decode cX7_isNamed 0 = .ok (.aload_n 0, 1) := by decide +kernel
theorem dX7_isNamed_1 : decode cX7_isNamed 1 = .ok (.getfield 9, 3) := by decide +kernel
theorem dX7_isNamed_4 : decode cX7_isNamed 4 = .ok (.iload_n 1, 1) := by decide +kernel
theorem dX7_isNamed_5 : decode cX7_isNamed 5 = .ok (.invokestatic 36, 3) := by decide +kernel
theorem dX7_isNamed_8 : decode cX7_isNamed 8 = .ok (.istore 5, 2) := by decide +kernel
theorem dX7_isNamed_10 : decode cX7_isNamed 10 = .ok (.iload 5, 2) := by decide +kernel
theorem dX7_isNamed_12 : decode cX7_isNamed 12 = .ok (.iload 4, 2) := by decide +kernel
theorem dX7_isNamed_14 : decode cX7_isNamed 14 = .ok (.iload_n 3, 1) := by decide +kernel
theorem dX7_isNamed_15 : decode cX7_isNamed 15 = .ok (.isub, 1) := by decide +kernel
theorem dX7_isNamed_16 : decode cX7_isNamed 16 = .ok (.if_icmp .eq 5, 3) := by decide +kernel
theorem dX7_isNamed_19 : decode cX7_isNamed 19 = .ok (.iconst 0, 1) := by decide +kernel
theorem dX7_isNamed_20 : decode cX7_isNamed 20 = .ok (.ireturn, 1) := by decide +kernel
theorem dX7_isNamed_21 : decode cX7_isNamed 21 = .ok (.iconst 0, 1) := by decide +kernel
theorem dX7_isNamed_22 : decode cX7_isNamed 22 = .ok (.istore 6, 2) := by decide +kernel
theorem dX7_isNamed_24 : decode cX7_isNamed 24 = .ok (.iload 6, 2) := by decide +kernel
theorem dX7_isNamed_26 : decode cX7_isNamed 26 = .ok (.iload 5, 2) := by decide +kernel
theorem dX7_isNamed_28 : decode cX7_isNamed 28 = .ok (.if_icmp .ge 35, 3) := by decide +kernel
theorem dX7_isNamed_31 : decode cX7_isNamed 31 = .ok (.aload_n 0, 1) := by decide +kernel
theorem dX7_isNamed_32 : decode cX7_isNamed 32 = .ok (.getfield 15, 3) := by decide +kernel
theorem dX7_isNamed_35 : decode cX7_isNamed 35 = .ok (.iload_n 1, 1) := by decide +kernel
theorem dX7_isNamed_36 : decode cX7_isNamed 36 = .ok (.iconst 4, 1) := by decide +kernel
theorem dX7_isNamed_37 : decode cX7_isNamed 37 = .ok (.imul, 1) := by decide +kernel
theorem dX7_isNamed_38 : decode cX7_isNamed 38 = .ok (.iload 6, 2) := by decide +kernel
theorem dX7_isNamed_40 : decode cX7_isNamed 40 = .ok (.iadd, 1) := by decide +kernel
theorem dX7_isNamed_41 : decode cX7_isNamed 41 = .ok (.invokestatic 36, 3) := by decide +kernel
theorem dX7_isNamed_44 : decode cX7_isNamed 44 = .ok (.aload_n 2, 1) := by decide +kernel
theorem dX7_isNamed_45 : decode cX7_isNamed 45 = .ok (.iload_n 3, 1) := by decide +kernel
theorem dX7_isNamed_46 : decode cX7_isNamed 46 = .ok (.iload 6, 2) := by decide +kernel
theorem dX7_isNamed_48 : decode cX7_isNamed 48 = .ok (.iadd, 1) := by decide +kernel
theorem dX7_isNamed_49 : decode cX7_isNamed 49 = .ok (.invokevirtual 26, 3) := by decide +kernel
theorem dX7_isNamed_52 : decode cX7_isNamed 52 = .ok (.if_icmp .eq 5, 3) := by decide +kernel
theorem dX7_isNamed_55 : decode cX7_isNamed 55 = .ok (.iconst 0, 1) := by decide +kernel
theorem dX7_isNamed_56 : decode cX7_isNamed 56 = .ok (.ireturn, 1) := by decide +kernel
theorem dX7_isNamed_57 : decode cX7_isNamed 57 = .ok (.iinc 6 1, 3) := by decide +kernel
theorem dX7_isNamed_60 : decode cX7_isNamed 60 = .ok (.goto (-36), 3) := by decide +kernel
theorem dX7_isNamed_63 : decode cX7_isNamed 63 = .ok (.iconst 1, 1) := by decide +kernel
theorem dX7_isNamed_64 : decode cX7_isNamed 64 = .ok (.ireturn, 1) := by decide +kernel
theorem dX7_comesBefore_0 : decode cX7_comesBefore 0 = .ok (.iconst 0, 1) := by decide +kernel
theorem dX7_comesBefore_1 : decode cX7_comesBefore 1 = .ok (.istore_n 3, 1) := by decide +kernel
theorem dX7_comesBefore_2 : decode cX7_comesBefore 2 = .ok (.iload_n 3, 1) := by decide +kernel
theorem dX7_comesBefore_3 : decode cX7_comesBefore 3 = .ok (.iconst 4, 1) := by decide +kernel
theorem dX7_comesBefore_4 : decode cX7_comesBefore 4 = .ok (.if_icmp .ge 40, 3) := by decide +kernel
theorem dX7_comesBefore_7 : decode cX7_comesBefore 7 = .ok (.aload_n 0, 1) := by decide +kernel
theorem dX7_comesBefore_8 : decode cX7_comesBefore 8 = .ok (.iload_n 1, 1) := by decide +kernel
theorem dX7_comesBefore_9 : decode cX7_comesBefore 9 = .ok (.iload_n 3, 1) := by decide +kernel
theorem dX7_comesBefore_10 : decode cX7_comesBefore 10 = .ok (.invokevirtual 44, 3) := by decide +kernel
theorem dX7_comesBefore_13 : decode cX7_comesBefore 13 = .ok (.aload_n 0, 1) := by decide +kernel
theorem dX7_comesBefore_14 : decode cX7_comesBefore 14 = .ok (.iload_n 2, 1) := by decide +kernel
theorem dX7_comesBefore_15 : decode cX7_comesBefore 15 = .ok (.iload_n 3, 1) := by decide +kernel
theorem dX7_comesBefore_16 : decode cX7_comesBefore 16 = .ok (.invokevirtual 44, 3) := by decide +kernel
theorem dX7_comesBefore_19 : decode cX7_comesBefore 19 = .ok (.isub, 1) := by decide +kernel
theorem dX7_comesBefore_20 : decode cX7_comesBefore 20 = .ok (.istore 4, 2) := by decide +kernel
theorem dX7_comesBefore_22 : decode cX7_comesBefore 22 = .ok (.iload 4, 2) := by decide +kernel
theorem dX7_comesBefore_24 : decode cX7_comesBefore 24 = .ok (.ifCond .eq 14, 3) := by decide +kernel
theorem dX7_comesBefore_27 : decode cX7_comesBefore 27 = .ok (.iload 4, 2) := by decide +kernel
theorem dX7_comesBefore_29 : decode cX7_comesBefore 29 = .ok (.ifCond .ge 7, 3) := by decide +kernel
theorem dX7_comesBefore_32 : decode cX7_comesBefore 32 = .ok (.iconst 1, 1) := by decide +kernel
theorem dX7_comesBefore_33 : decode cX7_comesBefore 33 = .ok (.goto 4, 3) := by decide +kernel
theorem dX7_comesBefore_36 : decode cX7_comesBefore 36 = .ok (.iconst 0, 1) := by decide +kernel
theorem dX7_comesBefore_37 : decode cX7_comesBefore 37 = .ok (.ireturn, 1) := by decide +kernel
theorem dX7_comesBefore_38 : decode cX7_comesBefore 38 = .ok (.iinc 3 1, 3) := by decide +kernel
theorem dX7_comesBefore_41 : decode cX7_comesBefore 41 = .ok (.goto (-39), 3) := by decide +kernel
theorem dX7_comesBefore_44 : decode cX7_comesBefore 44 = .ok (.iconst 0, 1) := by decide +kernel
theorem dX7_comesBefore_45 : decode cX7_comesBefore 45 = .ok (.ireturn, 1) := by decide +kernel
theorem dX7_playerInPlace_0 : decode cX7_playerInPlace 0 = .ok (.iconst 0, 1) := by decide +kernel
theorem dX7_playerInPlace_1 : decode cX7_playerInPlace 1 = .ok (.istore_n 2, 1) := by decide +kernel
theorem dX7_playerInPlace_2 : decode cX7_playerInPlace 2 = .ok (.iload_n 2, 1) := by decide +kernel
theorem dX7_playerInPlace_3 : decode cX7_playerInPlace 3 = .ok (.aload_n 0, 1) := by decide +kernel
theorem dX7_playerInPlace_4 : decode cX7_playerInPlace 4 = .ok (.getfield 18, 3) := by decide +kernel
theorem dX7_playerInPlace_7 : decode cX7_playerInPlace 7 = .ok (.if_icmp .ge 20, 3) := by decide +kernel
theorem dX7_playerInPlace_10 : decode cX7_playerInPlace 10 = .ok (.aload_n 0, 1) := by decide +kernel
theorem dX7_playerInPlace_11 : decode cX7_playerInPlace 11 = .ok (.iload_n 2, 1) := by decide +kernel
theorem dX7_playerInPlace_12 : decode cX7_playerInPlace 12 = .ok (.invokevirtual 48, 3) := by decide +kernel
theorem dX7_playerInPlace_15 : decode cX7_playerInPlace 15 = .ok (.iload_n 1, 1) := by decide +kernel
theorem dX7_playerInPlace_16 : decode cX7_playerInPlace 16 = .ok (.if_icmp .ne 5, 3) := by decide +kernel
theorem dX7_playerInPlace_19 : decode cX7_playerInPlace 19 = .ok (.iload_n 2, 1) := by decide +kernel
theorem dX7_playerInPlace_20 : decode cX7_playerInPlace 20 = .ok (.ireturn, 1) := by decide +kernel
theorem dX7_playerInPlace_21 : decode cX7_playerInPlace 21 = .ok (.iinc 2 1, 3) := by decide +kernel
theorem dX7_playerInPlace_24 : decode cX7_playerInPlace 24 = .ok (.goto (-22), 3) := by decide +kernel
theorem dX7_playerInPlace_27 : decode cX7_playerInPlace 27 = .ok (.iconst (-1), 1) := by decide +kernel
theorem dX7_playerInPlace_28 : decode cX7_playerInPlace 28 = .ok (.ireturn, 1) := by decide +kernel
theorem dX7_placeByName_0 : decode cX7_placeByName 0 = .ok (.iconst 0, 1) := by decide +kernel
theorem dX7_placeByName_1 : decode cX7_placeByName 1 = .ok (.istore_n 2, 1) := by decide +kernel
theorem dX7_placeByName_2 : decode cX7_placeByName 2 = .ok (.iconst 0, 1) := by decide +kernel
theorem dX7_placeByName_3 : decode cX7_placeByName 3 = .ok (.istore_n 3, 1) := by decide +kernel
theorem dX7_placeByName_4 : decode cX7_placeByName 4 = .ok (.iload_n 3, 1) := by decide +kernel
theorem dX7_placeByName_5 : decode cX7_placeByName 5 = .ok (.aload_n 0, 1) := by decide +kernel
theorem dX7_placeByName_6 : decode cX7_placeByName 6 = .ok (.getfield 18, 3) := by decide +kernel
theorem dX7_placeByName_9 : decode cX7_placeByName 9 = .ok (.if_icmp .ge 21, 3) := by decide +kernel
theorem dX7_placeByName_12 : decode cX7_placeByName 12 = .ok (.aload_n 0, 1) := by decide +kernel
theorem dX7_placeByName_13 : decode cX7_placeByName 13 = .ok (.iload_n 3, 1) := by decide +kernel
theorem dX7_placeByName_14 : decode cX7_placeByName 14 = .ok (.iload_n 1, 1) := by decide +kernel
theorem dX7_placeByName_15 : decode cX7_placeByName 15 = .ok (.invokevirtual 51, 3) := by decide +kernel
theorem dX7_placeByName_18 : decode cX7_placeByName 18 = .ok (.ifCond .eq 6, 3) := by decide +kernel
theorem dX7_placeByName_21 : decode cX7_placeByName 21 = .ok (.iinc 2 1, 3) := by decide +kernel
theorem dX7_placeByName_24 : decode cX7_placeByName 24 = .ok (.iinc 3 1, 3) := by decide +kernel
theorem dX7_placeByName_27 : decode cX7_placeByName 27 = .ok (.goto (-23), 3) := by decide +kernel
theorem dX7_placeByName_30 : decode cX7_placeByName 30 = .ok (.iload_n 2, 1) := by decide +kernel
theorem dX7_placeByName_31 : decode cX7_placeByName 31 = .ok (.ireturn, 1) := by decide +kernel
theorem dX8_init_0 : decode cX8_init 0 = .ok (.aload_n 0, 1) := by decide +kernel
theorem dX8_init_1 : decode cX8_init 1 = .ok (.invokespecial 3, 3) := by decide +kernel
theorem dX8_init_4 : decode cX8_init 4 = .ok (.aload_n 0, 1) := by decide +kernel
theorem dX8_init_5 : decode cX8_init 5 = .ok (.sipush 900, 3) := by decide +kernel
theorem dX8_init_8 : decode cX8_init 8 = .ok (.newarray .int, 2) := by decide +kernel
theorem dX8_init_10 : decode cX8_init 10 = .ok (.putfield 9, 3) := by decide +kernel
theorem dX8_init_13 : decode cX8_init 13 = .ok (.aload_n 0, 1) := by decide +kernel
theorem dX8_init_14 : decode cX8_init 14 = .ok (.iconst 0, 1) := by decide +kernel
theorem dX8_init_15 : decode cX8_init 15 = .ok (.putfield 15, 3) := by decide +kernel
theorem dX8_init_18 : decode cX8_init 18 = .ok (.return_, 1) := by decide +kernel
theorem dX8_byteIn_0 : decode cX8_byteIn 0 = .ok (.iload_n 1, 1) := by decide +kernel
theorem dX8_byteIn_1 : decode cX8_byteIn 1 = .ok (.ifCond .lt 27, 3) := by decide +kernel
theorem dX8_byteIn_4 : decode cX8_byteIn 4 = .ok (.iload_n 1, 1) := by decide +kernel
theorem dX8_byteIn_5 : decode cX8_byteIn 5 = .ok (.aload_n 0, 1) := by decide +kernel
theorem dX8_byteIn_6 : decode cX8_byteIn 6 = .ok (.getfield 15, 3) := by decide +kernel
theorem dX8_byteIn_9 : decode cX8_byteIn 9 = .ok (.if_icmp .ge 19, 3) := by decide +kernel
theorem dX8_byteIn_12 : decode cX8_byteIn 12 = .ok (.iload_n 1, 1) := by decide +kernel
theorem dX8_byteIn_13 : decode cX8_byteIn 13 = .ok (.sipush 900, 3) := by decide +kernel
theorem dX8_byteIn_16 : decode cX8_byteIn 16 = .ok (.if_icmp .ge 12, 3) := by decide +kernel
theorem dX8_byteIn_19 : decode cX8_byteIn 19 = .ok (.aload_n 0, 1) := by decide +kernel
theorem dX8_byteIn_20 : decode cX8_byteIn 20 = .ok (.getfield 9, 3) := by decide +kernel
theorem dX8_byteIn_23 : decode cX8_byteIn 23 = .ok (.iload_n 1, 1) := by decide +kernel
theorem dX8_byteIn_24 : decode cX8_byteIn 24 = .ok (.iaload, 1) := by decide +kernel
theorem dX8_byteIn_25 : decode cX8_byteIn 25 = .ok (.goto 4, 3) := by decide +kernel
theorem dX8_byteIn_28 : decode cX8_byteIn 28 = .ok (.iconst (-1), 1) := by decide +kernel
theorem dX8_byteIn_29 : decode cX8_byteIn 29 = .ok (.ireturn, 1) := by decide +kernel
theorem dX8_append_0 : decode cX8_append 0 = .ok (.aload_n 0, 1) := by decide +kernel
theorem dX8_append_1 : decode cX8_append 1 = .ok (.getfield 15, 3) := by decide +kernel
theorem dX8_append_4 : decode cX8_append 4 = .ok (.sipush 900, 3) := by decide +kernel
theorem dX8_append_7 : decode cX8_append 7 = .ok (.if_icmp .ge 25, 3) := by decide +kernel
theorem dX8_append_10 : decode cX8_append 10 = .ok (.aload_n 0, 1) := by decide +kernel
theorem dX8_append_11 : decode cX8_append 11 = .ok (.getfield 9, 3) := by decide +kernel
theorem dX8_append_14 : decode cX8_append 14 = .ok (.aload_n 0, 1) := by decide +kernel
theorem dX8_append_15 : decode cX8_append 15 = .ok (.getfield 15, 3) := by decide +kernel
theorem dX8_append_18 : decode cX8_append 18 = .ok (.iload_n 1, 1) := by decide +kernel
theorem dX8_append_19 : decode cX8_append 19 = .ok (.invokestatic 19, 3) := by decide +kernel
theorem dX8_append_22 : decode cX8_append 22 = .ok (.aload_n 0, 1) := by decide +kernel
theorem dX8_append_23 : decode cX8_append 23 = .ok (.dup, 1) := by decide +kernel
theorem dX8_append_24 : decode cX8_append 24 = .ok (.getfield 15, 3) := by decide +kernel
theorem dX8_append_27 : decode cX8_append 27 = .ok (.iconst 1, 1) := by decide +kernel
theorem dX8_append_28 : decode cX8_append 28 = .ok (.iadd, 1) := by decide +kernel
theorem dX8_append_29 : decode cX8_append 29 = .ok (.putfield 15, 3) := by decide +kernel
theorem dX8_append_32 : decode cX8_append 32 = .ok (.return_, 1) := by decide +kernel
theorem dX8_appendWord_0 : decode cX8_appendWord 0 = .ok (.bipush 24, 2) := by decide +kernel
theorem dX8_appendWord_2 : decode cX8_appendWord 2 = .ok (.istore_n 2, 1) := by decide +kernel
theorem dX8_appendWord_3 : decode cX8_appendWord 3 = .ok (.iload_n 2, 1) := by decide +kernel
theorem dX8_appendWord_4 : decode cX8_appendWord 4 = .ok (.ifCond .lt 20, 3) := by decide +kernel
theorem dX8_appendWord_7 : decode cX8_appendWord 7 = .ok (.aload_n 0, 1) := by decide +kernel
theorem dX8_appendWord_8 : decode cX8_appendWord 8 = .ok (.iload_n 1, 1) := by decide +kernel
theorem dX8_appendWord_9 : decode cX8_appendWord 9 = .ok (.iload_n 2, 1) := by decide +kernel
theorem dX8_appendWord_10 : decode cX8_appendWord 10 = .ok (.ishr, 1) := by decide +kernel
theorem dX8_appendWord_11 : decode cX8_appendWord 11 = .ok (.sipush 255, 3) := by decide +kernel
theorem dX8_appendWord_14 : decode cX8_appendWord 14 = .ok (.iand, 1) := by decide +kernel
theorem dX8_appendWord_15 : decode cX8_appendWord 15 = .ok (.invokevirtual 23, 3) := by decide +kernel
theorem dX8_appendWord_18 : decode cX8_appendWord 18 = .ok (.iinc 2 (-8), 3) := by decide +kernel
theorem dX8_appendWord_21 : decode cX8_appendWord 21 = .ok (.goto (-18), 3) := by decide +kernel
theorem dX8_appendWord_24 : decode cX8_appendWord 24 = .ok (.return_, 1) := by decide +kernel
theorem dX8_appendString_0 : decode cX8_appendString 0 = .ok (.iconst 0, 1) := by decide +kernel
theorem dX8_appendString_1 : decode cX8_appendString 1 = .ok (.istore_n 2, 1) := by decide +kernel
theorem dX8_appendString_2 : decode cX8_appendString 2 = .ok (.iload_n 2, 1) := by decide +kernel
theorem dX8_appendString_3 : decode cX8_appendString 3 = .ok (.aload_n 1, 1) := by decide +kernel
theorem dX8_appendString_4 : decode cX8_appendString 4 = .ok (.invokevirtual 27, 3) := by decide +kernel
theorem dX8_appendString_7 : decode cX8_appendString 7 = .ok (.if_icmp .ge 18, 3) := by decide +kernel
theorem dX8_appendString_10 : decode cX8_appendString 10 = .ok (.aload_n 0, 1) := by decide +kernel
theorem dX8_appendString_11 : decode cX8_appendString 11 = .ok (.aload_n 1, 1) := by decide +kernel
theorem dX8_appendString_12 : decode cX8_appendString 12 = .ok (.iload_n 2, 1) := by decide +kernel
theorem dX8_appendString_13 : decode cX8_appendString 13 = .ok (.invokevirtual 32, 3) := by decide +kernel
theorem dX8_appendString_16 : decode cX8_appendString 16 = .ok (.invokevirtual 23, 3) := by decide +kernel
theorem dX8_appendString_19 : decode cX8_appendString 19 = .ok (.iinc 2 1, 3) := by decide +kernel
theorem dX8_appendString_22 : decode cX8_appendString 22 = .ok (.goto (-20), 3) := by decide +kernel
theorem dX8_appendString_25 : decode cX8_appendString 25 = .ok (.return_, 1) := by decide +kernel
theorem dX8_appendSeparator_0 : decode cX8_appendSeparator 0 = .ok (.aload_n 0, 1) := by decide +kernel
theorem dX8_appendSeparator_1 : decode cX8_appendSeparator 1 = .ok (.getfield 15, 3) := by decide +kernel
theorem dX8_appendSeparator_4 : decode cX8_appendSeparator 4 = .ok (.ifCond .le 8, 3) := by decide +kernel
theorem dX8_appendSeparator_7 : decode cX8_appendSeparator 7 = .ok (.aload_n 0, 1) := by decide +kernel
theorem dX8_appendSeparator_8 : decode cX8_appendSeparator 8 = .ok (.iload_n 1, 1) := by decide +kernel
theorem dX8_appendSeparator_9 : decode cX8_appendSeparator 9 = .ok (.invokevirtual 23, 3) := by decide +kernel
theorem dX8_appendSeparator_12 : decode cX8_appendSeparator 12 = .ok (.return_, 1) := by decide +kernel
theorem dX8_appendNumber_0 : decode cX8_appendNumber 0 = .ok (.sipush 1000, 3) := by decide +kernel
theorem dX8_appendNumber_3 : decode cX8_appendNumber 3 = .ok (.istore_n 2, 1) := by decide +kernel
theorem dX8_appendNumber_4 : decode cX8_appendNumber 4 = .ok (.iload_n 2, 1) := by decide +kernel
theorem dX8_appendNumber_5 : decode cX8_appendNumber 5 = .ok (.iconst 1, 1) := by decide +kernel
theorem dX8_appendNumber_6 : decode cX8_appendNumber 6 = .ok (.if_icmp .lt 34, 3) := by decide +kernel
theorem dX8_appendNumber_9 : decode cX8_appendNumber 9 = .ok (.iload_n 1, 1) := by decide +kernel
theorem dX8_appendNumber_10 : decode cX8_appendNumber 10 = .ok (.iload_n 2, 1) := by decide +kernel
theorem dX8_appendNumber_11 : decode cX8_appendNumber 11 = .ok (.if_icmp .ge 8, 3) := by decide +kernel
theorem dX8_appendNumber_14 : decode cX8_appendNumber 14 = .ok (.iload_n 2, 1) := by decide +kernel
theorem dX8_appendNumber_15 : decode cX8_appendNumber 15 = .ok (.iconst 1, 1) := by decide +kernel
theorem dX8_appendNumber_16 : decode cX8_appendNumber 16 = .ok (.if_icmp .ne 16, 3) := by decide +kernel
theorem dX8_appendNumber_19 : decode cX8_appendNumber 19 = .ok (.aload_n 0, 1) := by decide +kernel
theorem dX8_appendNumber_20 : decode cX8_appendNumber 20 = .ok (.bipush 48, 2) := by decide +kernel
theorem dX8_appendNumber_22 : decode cX8_appendNumber 22 = .ok (.iload_n 1, 1) := by decide +kernel
theorem dX8_appendNumber_23 : decode cX8_appendNumber 23 = .ok (.iload_n 2, 1) := by decide +kernel
theorem dX8_appendNumber_24 : decode cX8_appendNumber 24 = .ok (.idiv, 1) := by decide +kernel
theorem dX8_appendNumber_25 : decode cX8_appendNumber 25 = .ok (.bipush 10, 2) := by decide +kernel
theorem dX8_appendNumber_27 : decode cX8_appendNumber 27 = .ok (.irem, 1) := by decide +kernel
theorem dX8_appendNumber_28 : decode cX8_appendNumber 28 = .ok (.iadd, 1) := by decide +kernel
theorem dX8_appendNumber_29 : decode cX8_appendNumber 29 = .ok (.invokevirtual 23, 3) := by decide +kernel
theorem dX8_appendNumber_32 : decode cX8_appendNumber 32 = .ok (.iload_n 2, 1) := by decide +kernel
theorem dX8_appendNumber_33 : decode cX8_appendNumber 33 = .ok (.bipush 10, 2) := by decide +kernel
theorem dX8_appendNumber_35 : decode cX8_appendNumber 35 = .ok (.idiv, 1) := by decide +kernel
theorem dX8_appendNumber_36 : decode cX8_appendNumber 36 = .ok (.istore_n 2, 1) := by decide +kernel
theorem dX8_appendNumber_37 : decode cX8_appendNumber 37 = .ok (.goto (-33), 3) := by decide +kernel
theorem dX8_appendNumber_40 : decode cX8_appendNumber 40 = .ok (.return_, 1) := by decide +kernel
theorem dX8_cutTo_0 : decode cX8_cutTo 0 = .ok (.aload_n 0, 1) := by decide +kernel
theorem dX8_cutTo_1 : decode cX8_cutTo 1 = .ok (.iload_n 1, 1) := by decide +kernel
theorem dX8_cutTo_2 : decode cX8_cutTo 2 = .ok (.putfield 15, 3) := by decide +kernel
theorem dX8_cutTo_5 : decode cX8_cutTo 5 = .ok (.return_, 1) := by decide +kernel
theorem dX9_init_0 : decode cX9_init 0 = .ok (.aload_n 0, 1) := by decide +kernel
theorem dX9_init_1 : decode cX9_init 1 = .ok (.invokespecial 1, 3) := by decide +kernel
theorem dX9_init_4 : decode cX9_init 4 = .ok (.aload_n 0, 1) := by decide +kernel
theorem dX9_init_5 : decode cX9_init 5 = .ok (.iconst 0, 1) := by decide +kernel
theorem dX9_init_6 : decode cX9_init 6 = .ok (.putfield 9, 3) := by decide +kernel
theorem dX9_init_9 : decode cX9_init 9 = .ok (.aload_n 0, 1) := by decide +kernel
theorem dX9_init_10 : decode cX9_init 10 = .ok (.iconst 0, 1) := by decide +kernel
theorem dX9_init_11 : decode cX9_init 11 = .ok (.putfield 13, 3) := by decide +kernel
theorem dX9_init_14 : decode cX9_init 14 = .ok (.aload_n 0, 1) := by decide +kernel
theorem dX9_init_15 : decode cX9_init 15 = .ok (.iconst 0, 1) := by decide +kernel
theorem dX9_init_16 : decode cX9_init 16 = .ok (.putfield 16, 3) := by decide +kernel
theorem dX9_init_19 : decode cX9_init 19 = .ok (.aload_n 0, 1) := by decide +kernel
theorem dX9_init_20 : decode cX9_init 20 = .ok (.iconst 0, 1) := by decide +kernel
theorem dX9_init_21 : decode cX9_init 21 = .ok (.putfield 19, 3) := by decide +kernel
theorem dX9_init_24 : decode cX9_init 24 = .ok (.aload_n 0, 1) := by decide +kernel
theorem dX9_init_25 : decode cX9_init 25 = .ok (.aload_n 1, 1) := by decide +kernel
theorem dX9_init_26 : decode cX9_init 26 = .ok (.putfield 22, 3) := by decide +kernel
theorem dX9_init_29 : decode cX9_init 29 = .ok (.return_, 1) := by decide +kernel
theorem dX9_rewind_0 : decode cX9_rewind 0 = .ok (.aload_n 0, 1) := by decide +kernel
theorem dX9_rewind_1 : decode cX9_rewind 1 = .ok (.iconst 0, 1) := by decide +kernel
theorem dX9_rewind_2 : decode cX9_rewind 2 = .ok (.putfield 16, 3) := by decide +kernel
theorem dX9_rewind_5 : decode cX9_rewind 5 = .ok (.aload_n 0, 1) := by decide +kernel
theorem dX9_rewind_6 : decode cX9_rewind 6 = .ok (.invokevirtual 26, 3) := by decide +kernel
theorem dX9_rewind_9 : decode cX9_rewind 9 = .ok (.return_, 1) := by decide +kernel
theorem dX9_advance_0 : decode cX9_advance 0 = .ok (.aload_n 0, 1) := by decide +kernel
theorem dX9_advance_1 : decode cX9_advance 1 = .ok (.aload_n 0, 1) := by decide +kernel
theorem dX9_advance_2 : decode cX9_advance 2 = .ok (.getfield 16, 3) := by decide +kernel
theorem dX9_advance_5 : decode cX9_advance 5 = .ok (.putfield 13, 3) := by decide +kernel
theorem dX9_advance_8 : decode cX9_advance 8 = .ok (.aload_n 0, 1) := by decide +kernel
theorem dX9_advance_9 : decode cX9_advance 9 = .ok (.getfield 13, 3) := by decide +kernel
theorem dX9_advance_12 : decode cX9_advance 12 = .ok (.aload_n 0, 1) := by decide +kernel
theorem dX9_advance_13 : decode cX9_advance 13 = .ok (.getfield 22, 3) := by decide +kernel
theorem dX9_advance_16 : decode cX9_advance 16 = .ok (.getfield 29, 3) := by decide +kernel
theorem dX9_advance_19 : decode cX9_advance 19 = .ok (.if_icmp .ge 33, 3) := by decide +kernel
theorem dX9_advance_22 : decode cX9_advance 22 = .ok (.aload_n 0, 1) := by decide +kernel
theorem dX9_advance_23 : decode cX9_advance 23 = .ok (.getfield 22, 3) := by decide +kernel
theorem dX9_advance_26 : decode cX9_advance 26 = .ok (.aload_n 0, 1) := by decide +kernel
theorem dX9_advance_27 : decode cX9_advance 27 = .ok (.getfield 13, 3) := by decide +kernel
theorem dX9_advance_30 : decode cX9_advance 30 = .ok (.invokevirtual 34, 3) := by decide +kernel
theorem dX9_advance_33 : decode cX9_advance 33 = .ok (.invokestatic 38, 3) := by decide +kernel
theorem dX9_advance_36 : decode cX9_advance 36 = .ok (.ifCond .eq 16, 3) := by decide +kernel
theorem dX9_advance_39 : decode cX9_advance 39 = .ok (.aload_n 0, 1) := by decide +kernel
theorem dX9_advance_40 : decode cX9_advance 40 = .ok (.dup, 1) := by decide +kernel
theorem dX9_advance_41 : decode cX9_advance 41 = .ok (.getfield 13, 3) := by decide +kernel
theorem dX9_advance_44 : decode cX9_advance 44 = .ok (.iconst 1, 1) := by decide +kernel
theorem dX9_advance_45 : decode cX9_advance 45 = .ok (.iadd, 1) := by decide +kernel
theorem dX9_advance_46 : decode cX9_advance 46 = .ok (.putfield 13, 3) := by decide +kernel
theorem dX9_advance_49 : decode cX9_advance 49 = .ok (.goto (-41), 3) := by decide +kernel
theorem dX9_advance_52 : decode cX9_advance 52 = .ok (.aload_n 0, 1) := by decide +kernel
theorem dX9_advance_53 : decode cX9_advance 53 = .ok (.aload_n 0, 1) := by decide +kernel
theorem dX9_advance_54 : decode cX9_advance 54 = .ok (.getfield 13, 3) := by decide +kernel
theorem dX9_advance_57 : decode cX9_advance 57 = .ok (.putfield 16, 3) := by decide +kernel
theorem dX9_advance_60 : decode cX9_advance 60 = .ok (.aload_n 0, 1) := by decide +kernel
theorem dX9_advance_61 : decode cX9_advance 61 = .ok (.getfield 22, 3) := by decide +kernel
theorem dX9_advance_64 : decode cX9_advance 64 = .ok (.aload_n 0, 1) := by decide +kernel
theorem dX9_advance_65 : decode cX9_advance 65 = .ok (.getfield 13, 3) := by decide +kernel
theorem dX9_advance_68 : decode cX9_advance 68 = .ok (.invokevirtual 34, 3) := by decide +kernel
theorem dX9_advance_71 : decode cX9_advance 71 = .ok (.istore_n 1, 1) := by decide +kernel
theorem dX9_advance_72 : decode cX9_advance 72 = .ok (.aload_n 0, 1) := by decide +kernel
theorem dX9_advance_73 : decode cX9_advance 73 = .ok (.getfield 13, 3) := by decide +kernel
theorem dX9_advance_76 : decode cX9_advance 76 = .ok (.aload_n 0, 1) := by decide +kernel
theorem dX9_advance_77 : decode cX9_advance 77 = .ok (.getfield 22, 3) := by decide +kernel
theorem dX9_advance_80 : decode cX9_advance 80 = .ok (.getfield 29, 3) := by decide +kernel
theorem dX9_advance_83 : decode cX9_advance 83 = .ok (.if_icmp .lt 11, 3) := by decide +kernel
theorem dX9_advance_86 : decode cX9_advance 86 = .ok (.aload_n 0, 1) := by decide +kernel
theorem dX9_advance_87 : decode cX9_advance 87 = .ok (.iconst 0, 1) := by decide +kernel
theorem dX9_advance_88 : decode cX9_advance 88 = .ok (.putfield 9, 3) := by decide +kernel
theorem dX9_advance_91 : decode cX9_advance 91 = .ok (.goto 56, 3) := by decide +kernel
theorem dX9_advance_94 : decode cX9_advance 94 = .ok (.iload_n 1, 1) := by decide +kernel
theorem dX9_advance_95 : decode cX9_advance 95 = .ok (.invokestatic 42, 3) := by decide +kernel
theorem dX9_advance_98 : decode cX9_advance 98 = .ok (.ifCond .eq 15, 3) := by decide +kernel
theorem dX9_advance_101 : decode cX9_advance 101 = .ok (.aload_n 0, 1) := by decide +kernel
theorem dX9_advance_102 : decode cX9_advance 102 = .ok (.iconst 1, 1) := by decide +kernel
theorem dX9_advance_103 : decode cX9_advance 103 = .ok (.putfield 9, 3) := by decide +kernel
theorem dX9_advance_106 : decode cX9_advance 106 = .ok (.aload_n 0, 1) := by decide +kernel
theorem dX9_advance_107 : decode cX9_advance 107 = .ok (.invokevirtual 45, 3) := by decide +kernel
theorem dX9_advance_110 : decode cX9_advance 110 = .ok (.goto 37, 3) := by decide +kernel
theorem dX9_advance_113 : decode cX9_advance 113 = .ok (.iload_n 1, 1) := by decide +kernel
theorem dX9_advance_114 : decode cX9_advance 114 = .ok (.invokestatic 48, 3) := by decide +kernel
theorem dX9_advance_117 : decode cX9_advance 117 = .ok (.ifCond .eq 15, 3) := by decide +kernel
theorem dX9_advance_120 : decode cX9_advance 120 = .ok (.aload_n 0, 1) := by decide +kernel
theorem dX9_advance_121 : decode cX9_advance 121 = .ok (.iconst 2, 1) := by decide +kernel
theorem dX9_advance_122 : decode cX9_advance 122 = .ok (.putfield 9, 3) := by decide +kernel
theorem dX9_advance_125 : decode cX9_advance 125 = .ok (.aload_n 0, 1) := by decide +kernel
theorem dX9_advance_126 : decode cX9_advance 126 = .ok (.invokevirtual 51, 3) := by decide +kernel
theorem dX9_advance_129 : decode cX9_advance 129 = .ok (.goto 18, 3) := by decide +kernel
theorem dX9_advance_132 : decode cX9_advance 132 = .ok (.aload_n 0, 1) := by decide +kernel
theorem dX9_advance_133 : decode cX9_advance 133 = .ok (.iconst 3, 1) := by decide +kernel
theorem dX9_advance_134 : decode cX9_advance 134 = .ok (.putfield 9, 3) := by decide +kernel
theorem dX9_advance_137 : decode cX9_advance 137 = .ok (.aload_n 0, 1) := by decide +kernel
theorem dX9_advance_138 : decode cX9_advance 138 = .ok (.aload_n 0, 1) := by decide +kernel
theorem dX9_advance_139 : decode cX9_advance 139 = .ok (.getfield 13, 3) := by decide +kernel
theorem dX9_advance_142 : decode cX9_advance 142 = .ok (.iconst 1, 1) := by decide +kernel
theorem dX9_advance_143 : decode cX9_advance 143 = .ok (.iadd, 1) := by decide +kernel
theorem dX9_advance_144 : decode cX9_advance 144 = .ok (.putfield 16, 3) := by decide +kernel
theorem dX9_advance_147 : decode cX9_advance 147 = .ok (.return_, 1) := by decide +kernel
theorem dX9_passLetters_0 : decode cX9_passLetters 0 = .ok (.aload_n 0, 1) := by decide +kernel
theorem dX9_passLetters_1 : decode cX9_passLetters 1 = .ok (.getfield 16, 3) := by decide +kernel
theorem dX9_passLetters_4 : decode cX9_passLetters 4 = .ok (.aload_n 0, 1) := by decide +kernel
theorem dX9_passLetters_5 : decode cX9_passLetters 5 = .ok (.getfield 22, 3) := by decide +kernel
theorem dX9_passLetters_8 : decode cX9_passLetters 8 = .ok (.getfield 29, 3) := by decide +kernel
theorem dX9_passLetters_11 : decode cX9_passLetters 11 = .ok (.if_icmp .ge 33, 3) := by decide +kernel
theorem dX9_passLetters_14 : decode cX9_passLetters 14 = .ok (.aload_n 0, 1) := by decide +kernel
theorem dX9_passLetters_15 : decode cX9_passLetters 15 = .ok (.getfield 22, 3) := by decide +kernel
theorem dX9_passLetters_18 : decode cX9_passLetters 18 = .ok (.aload_n 0, 1) := by decide +kernel
theorem dX9_passLetters_19 : decode cX9_passLetters 19 = .ok (.getfield 16, 3) := by decide +kernel
theorem dX9_passLetters_22 : decode cX9_passLetters 22 = .ok (.invokevirtual 34, 3) := by decide +kernel
theorem dX9_passLetters_25 : decode cX9_passLetters 25 = .ok (.invokestatic 42, 3) := by decide +kernel
theorem dX9_passLetters_28 : decode cX9_passLetters 28 = .ok (.ifCond .eq 16, 3) := by decide +kernel
theorem dX9_passLetters_31 : decode cX9_passLetters 31 = .ok (.aload_n 0, 1) := by decide +kernel
theorem dX9_passLetters_32 : decode cX9_passLetters 32 = .ok (.dup, 1) := by decide +kernel
theorem dX9_passLetters_33 : decode cX9_passLetters 33 = .ok (.getfield 16, 3) := by decide +kernel
theorem dX9_passLetters_36 : decode cX9_passLetters 36 = .ok (.iconst 1, 1) := by decide +kernel
theorem dX9_passLetters_37 : decode cX9_passLetters 37 = .ok (.iadd, 1) := by decide +kernel
theorem dX9_passLetters_38 : decode cX9_passLetters 38 = .ok (.putfield 16, 3) := by decide +kernel
theorem dX9_passLetters_41 : decode cX9_passLetters 41 = .ok (.goto (-41), 3) := by decide +kernel
theorem dX9_passLetters_44 : decode cX9_passLetters 44 = .ok (.return_, 1) := by decide +kernel
theorem dX9_passDigits_0 : decode cX9_passDigits 0 = .ok (.aload_n 0, 1) := by decide +kernel
theorem dX9_passDigits_1 : decode cX9_passDigits 1 = .ok (.iconst 0, 1) := by decide +kernel
theorem dX9_passDigits_2 : decode cX9_passDigits 2 = .ok (.putfield 19, 3) := by decide +kernel
theorem dX9_passDigits_5 : decode cX9_passDigits 5 = .ok (.aload_n 0, 1) := by decide +kernel
theorem dX9_passDigits_6 : decode cX9_passDigits 6 = .ok (.getfield 16, 3) := by decide +kernel
theorem dX9_passDigits_9 : decode cX9_passDigits 9 = .ok (.aload_n 0, 1) := by decide +kernel
theorem dX9_passDigits_10 : decode cX9_passDigits 10 = .ok (.getfield 22, 3) := by decide +kernel
theorem dX9_passDigits_13 : decode cX9_passDigits 13 = .ok (.getfield 29, 3) := by decide +kernel
theorem dX9_passDigits_16 : decode cX9_passDigits 16 = .ok (.if_icmp .ge 64, 3) := by decide +kernel
theorem dX9_passDigits_19 : decode cX9_passDigits 19 = .ok (.aload_n 0, 1) := by decide +kernel
theorem dX9_passDigits_20 : decode cX9_passDigits 20 = .ok (.getfield 22, 3) := by decide +kernel
theorem dX9_passDigits_23 : decode cX9_passDigits 23 = .ok (.aload_n 0, 1) := by decide +kernel
theorem dX9_passDigits_24 : decode cX9_passDigits 24 = .ok (.getfield 16, 3) := by decide +kernel
theorem dX9_passDigits_27 : decode cX9_passDigits 27 = .ok (.invokevirtual 34, 3) := by decide +kernel
theorem dX9_passDigits_30 : decode cX9_passDigits 30 = .ok (.invokestatic 48, 3) := by decide +kernel
theorem dX9_passDigits_33 : decode cX9_passDigits 33 = .ok (.ifCond .eq 47, 3) := by decide +kernel
theorem dX9_passDigits_36 : decode cX9_passDigits 36 = .ok (.aload_n 0, 1) := by decide +kernel
theorem dX9_passDigits_37 : decode cX9_passDigits 37 = .ok (.aload_n 0, 1) := by decide +kernel
theorem dX9_passDigits_38 : decode cX9_passDigits 38 = .ok (.getfield 19, 3) := by decide +kernel
theorem dX9_passDigits_41 : decode cX9_passDigits 41 = .ok (.bipush 10, 2) := by decide +kernel
theorem dX9_passDigits_43 : decode cX9_passDigits 43 = .ok (.imul, 1) := by decide +kernel
theorem dX9_passDigits_44 : decode cX9_passDigits 44 = .ok (.aload_n 0, 1) := by decide +kernel
theorem dX9_passDigits_45 : decode cX9_passDigits 45 = .ok (.getfield 22, 3) := by decide +kernel
theorem dX9_passDigits_48 : decode cX9_passDigits 48 = .ok (.aload_n 0, 1) := by decide +kernel
theorem dX9_passDigits_49 : decode cX9_passDigits 49 = .ok (.getfield 16, 3) := by decide +kernel
theorem dX9_passDigits_52 : decode cX9_passDigits 52 = .ok (.invokevirtual 34, 3) := by decide +kernel
theorem dX9_passDigits_55 : decode cX9_passDigits 55 = .ok (.iadd, 1) := by decide +kernel
theorem dX9_passDigits_56 : decode cX9_passDigits 56 = .ok (.bipush 48, 2) := by decide +kernel
theorem dX9_passDigits_58 : decode cX9_passDigits 58 = .ok (.isub, 1) := by decide +kernel
theorem dX9_passDigits_59 : decode cX9_passDigits 59 = .ok (.ldc 54, 2) := by decide +kernel
theorem dX9_passDigits_61 : decode cX9_passDigits 61 = .ok (.invokestatic 55, 3) := by decide +kernel
theorem dX9_passDigits_64 : decode cX9_passDigits 64 = .ok (.putfield 19, 3) := by decide +kernel
theorem dX9_passDigits_67 : decode cX9_passDigits 67 = .ok (.aload_n 0, 1) := by decide +kernel
theorem dX9_passDigits_68 : decode cX9_passDigits 68 = .ok (.dup, 1) := by decide +kernel
theorem dX9_passDigits_69 : decode cX9_passDigits 69 = .ok (.getfield 16, 3) := by decide +kernel
theorem dX9_passDigits_72 : decode cX9_passDigits 72 = .ok (.iconst 1, 1) := by decide +kernel
theorem dX9_passDigits_73 : decode cX9_passDigits 73 = .ok (.iadd, 1) := by decide +kernel
theorem dX9_passDigits_74 : decode cX9_passDigits 74 = .ok (.putfield 16, 3) := by decide +kernel
theorem dX9_passDigits_77 : decode cX9_passDigits 77 = .ok (.goto (-72), 3) := by decide +kernel
theorem dX9_passDigits_80 : decode cX9_passDigits 80 = .ok (.return_, 1) := by decide +kernel
theorem dX9_isWord_0 : decode cX9_isWord 0 = .ok (.aload_n 0, 1) := by decide +kernel
theorem dX9_isWord_1 : decode cX9_isWord 1 = .ok (.getfield 9, 3) := by decide +kernel
theorem dX9_isWord_4 : decode cX9_isWord 4 = .ok (.iconst 1, 1) := by decide +kernel
theorem dX9_isWord_5 : decode cX9_isWord 5 = .ok (.if_icmp .ne 19, 3) := by decide +kernel
theorem dX9_isWord_8 : decode cX9_isWord 8 = .ok (.aload_n 0, 1) := by decide +kernel
theorem dX9_isWord_9 : decode cX9_isWord 9 = .ok (.getfield 16, 3) := by decide +kernel
theorem dX9_isWord_12 : decode cX9_isWord 12 = .ok (.aload_n 0, 1) := by decide +kernel
theorem dX9_isWord_13 : decode cX9_isWord 13 = .ok (.getfield 13, 3) := by decide +kernel
theorem dX9_isWord_16 : decode cX9_isWord 16 = .ok (.isub, 1) := by decide +kernel
theorem dX9_isWord_17 : decode cX9_isWord 17 = .ok (.aload_n 1, 1) := by decide +kernel
theorem dX9_isWord_18 : decode cX9_isWord 18 = .ok (.invokevirtual 61, 3) := by decide +kernel
theorem dX9_isWord_21 : decode cX9_isWord 21 = .ok (.if_icmp .eq 5, 3) := by decide +kernel
theorem dX9_isWord_24 : decode cX9_isWord 24 = .ok (.iconst 0, 1) := by decide +kernel
theorem dX9_isWord_25 : decode cX9_isWord 25 = .ok (.ireturn, 1) := by decide +kernel
theorem dX9_isWord_26 : decode cX9_isWord 26 = .ok (.iconst 0, 1) := by decide +kernel
theorem dX9_isWord_27 : decode cX9_isWord 27 = .ok (.istore_n 2, 1) := by decide +kernel
theorem dX9_isWord_28 : decode cX9_isWord 28 = .ok (.iload_n 2, 1) := by decide +kernel
theorem dX9_isWord_29 : decode cX9_isWord 29 = .ok (.aload_n 1, 1) := by decide +kernel
theorem dX9_isWord_30 : decode cX9_isWord 30 = .ok (.invokevirtual 61, 3) := by decide +kernel
theorem dX9_isWord_33 : decode cX9_isWord 33 = .ok (.if_icmp .ge 32, 3) := by decide +kernel
theorem dX9_isWord_36 : decode cX9_isWord 36 = .ok (.aload_n 1, 1) := by decide +kernel
theorem dX9_isWord_37 : decode cX9_isWord 37 = .ok (.iload_n 2, 1) := by decide +kernel
theorem dX9_isWord_38 : decode cX9_isWord 38 = .ok (.invokevirtual 66, 3) := by decide +kernel
theorem dX9_isWord_41 : decode cX9_isWord 41 = .ok (.aload_n 0, 1) := by decide +kernel
theorem dX9_isWord_42 : decode cX9_isWord 42 = .ok (.getfield 22, 3) := by decide +kernel
theorem dX9_isWord_45 : decode cX9_isWord 45 = .ok (.aload_n 0, 1) := by decide +kernel
theorem dX9_isWord_46 : decode cX9_isWord 46 = .ok (.getfield 13, 3) := by decide +kernel
theorem dX9_isWord_49 : decode cX9_isWord 49 = .ok (.iload_n 2, 1) := by decide +kernel
theorem dX9_isWord_50 : decode cX9_isWord 50 = .ok (.iadd, 1) := by decide +kernel
theorem dX9_isWord_51 : decode cX9_isWord 51 = .ok (.invokevirtual 34, 3) := by decide +kernel
theorem dX9_isWord_54 : decode cX9_isWord 54 = .ok (.if_icmp .eq 5, 3) := by decide +kernel
theorem dX9_isWord_57 : decode cX9_isWord 57 = .ok (.iconst 0, 1) := by decide +kernel
theorem dX9_isWord_58 : decode cX9_isWord 58 = .ok (.ireturn, 1) := by decide +kernel
theorem dX9_isWord_59 : decode cX9_isWord 59 = .ok (.iinc 2 1, 3) := by decide +kernel
theorem dX9_isWord_62 : decode cX9_isWord 62 = .ok (.goto (-34), 3) := by decide +kernel
theorem dX9_isWord_65 : decode cX9_isWord 65 = .ok (.iconst 1, 1) := by decide +kernel
theorem dX9_isWord_66 : decode cX9_isWord 66 = .ok (.ireturn, 1) := by decide +kernel
theorem dX9_isSemicolon_0 : decode cX9_isSemicolon 0 = .ok (.aload_n 0, 1) := by decide +kernel
theorem dX9_isSemicolon_1 : decode cX9_isSemicolon 1 = .ok (.getfield 9, 3) := by decide +kernel
theorem dX9_isSemicolon_4 : decode cX9_isSemicolon 4 = .ok (.iconst 3, 1) := by decide +kernel
theorem dX9_isSemicolon_5 : decode cX9_isSemicolon 5 = .ok (.if_icmp .ne 23, 3) := by decide +kernel
theorem dX9_isSemicolon_8 : decode cX9_isSemicolon 8 = .ok (.aload_n 0, 1) := by decide +kernel
theorem dX9_isSemicolon_9 : decode cX9_isSemicolon 9 = .ok (.getfield 22, 3) := by decide +kernel
theorem dX9_isSemicolon_12 : decode cX9_isSemicolon 12 = .ok (.aload_n 0, 1) := by decide +kernel
theorem dX9_isSemicolon_13 : decode cX9_isSemicolon 13 = .ok (.getfield 13, 3) := by decide +kernel
theorem dX9_isSemicolon_16 : decode cX9_isSemicolon 16 = .ok (.invokevirtual 34, 3) := by decide +kernel
theorem dX9_isSemicolon_19 : decode cX9_isSemicolon 19 = .ok (.bipush 59, 2) := by decide +kernel
theorem dX9_isSemicolon_21 : decode cX9_isSemicolon 21 = .ok (.if_icmp .ne 7, 3) := by decide +kernel
theorem dX9_isSemicolon_24 : decode cX9_isSemicolon 24 = .ok (.iconst 1, 1) := by decide +kernel
theorem dX9_isSemicolon_25 : decode cX9_isSemicolon 25 = .ok (.goto 4, 3) := by decide +kernel
theorem dX9_isSemicolon_28 : decode cX9_isSemicolon 28 = .ok (.iconst 0, 1) := by decide +kernel
theorem dX9_isSemicolon_29 : decode cX9_isSemicolon 29 = .ok (.ireturn, 1) := by decide +kernel
theorem dX9_isBlank_0 : decode cX9_isBlank 0 = .ok (.iload_n 0, 1) := by decide +kernel
theorem dX9_isBlank_1 : decode cX9_isBlank 1 = .ok (.bipush 32, 2) := by decide +kernel
theorem dX9_isBlank_3 : decode cX9_isBlank 3 = .ok (.if_icmp .eq 9, 3) := by decide +kernel
theorem dX9_isBlank_6 : decode cX9_isBlank 6 = .ok (.iload_n 0, 1) := by decide +kernel
theorem dX9_isBlank_7 : decode cX9_isBlank 7 = .ok (.bipush 10, 2) := by decide +kernel
theorem dX9_isBlank_9 : decode cX9_isBlank 9 = .ok (.if_icmp .ne 7, 3) := by decide +kernel
theorem dX9_isBlank_12 : decode cX9_isBlank 12 = .ok (.iconst 1, 1) := by decide +kernel
theorem dX9_isBlank_13 : decode cX9_isBlank 13 = .ok (.goto 4, 3) := by decide +kernel
theorem dX9_isBlank_16 : decode cX9_isBlank 16 = .ok (.iconst 0, 1) := by decide +kernel
theorem dX9_isBlank_17 : decode cX9_isBlank 17 = .ok (.ireturn, 1) := by decide +kernel
theorem dX9_isLetter_0 : decode cX9_isLetter 0 = .ok (.iload_n 0, 1) := by decide +kernel
theorem dX9_isLetter_1 : decode cX9_isLetter 1 = .ok (.bipush 97, 2) := by decide +kernel
theorem dX9_isLetter_3 : decode cX9_isLetter 3 = .ok (.if_icmp .lt 13, 3) := by decide +kernel
theorem dX9_isLetter_6 : decode cX9_isLetter 6 = .ok (.iload_n 0, 1) := by decide +kernel
theorem dX9_isLetter_7 : decode cX9_isLetter 7 = .ok (.bipush 122, 2) := by decide +kernel
theorem dX9_isLetter_9 : decode cX9_isLetter 9 = .ok (.if_icmp .gt 7, 3) := by decide +kernel
theorem dX9_isLetter_12 : decode cX9_isLetter 12 = .ok (.iconst 1, 1) := by decide +kernel
theorem dX9_isLetter_13 : decode cX9_isLetter 13 = .ok (.goto 4, 3) := by decide +kernel
theorem dX9_isLetter_16 : decode cX9_isLetter 16 = .ok (.iconst 0, 1) := by decide +kernel
theorem dX9_isLetter_17 : decode cX9_isLetter 17 = .ok (.ireturn, 1) := by decide +kernel
theorem dX9_isDigit_0 : decode cX9_isDigit 0 = .ok (.iload_n 0, 1) := by decide +kernel
theorem dX9_isDigit_1 : decode cX9_isDigit 1 = .ok (.bipush 48, 2) := by decide +kernel
theorem dX9_isDigit_3 : decode cX9_isDigit 3 = .ok (.if_icmp .lt 13, 3) := by decide +kernel
theorem dX9_isDigit_6 : decode cX9_isDigit 6 = .ok (.iload_n 0, 1) := by decide +kernel
theorem dX9_isDigit_7 : decode cX9_isDigit 7 = .ok (.bipush 57, 2) := by decide +kernel
theorem dX9_isDigit_9 : decode cX9_isDigit 9 = .ok (.if_icmp .gt 7, 3) := by decide +kernel
theorem dX9_isDigit_12 : decode cX9_isDigit 12 = .ok (.iconst 1, 1) := by decide +kernel
theorem dX9_isDigit_13 : decode cX9_isDigit 13 = .ok (.goto 4, 3) := by decide +kernel
theorem dX9_isDigit_16 : decode cX9_isDigit 16 = .ok (.iconst 0, 1) := by decide +kernel
theorem dX9_isDigit_17 : decode cX9_isDigit 17 = .ok (.ireturn, 1) := by decide +kernel
theorem dX10_init_0 : decode cX10_init 0 = .ok (.aload_n 0, 1) := by decide +kernel
theorem dX10_init_1 : decode cX10_init 1 = .ok (.invokespecial 3, 3) := by decide +kernel
theorem dX10_init_4 : decode cX10_init 4 = .ok (.aload_n 0, 1) := by decide +kernel
theorem dX10_init_5 : decode cX10_init 5 = .ok (.new 9, 3) := by decide +kernel
theorem dX10_init_8 : decode cX10_init 8 = .ok (.dup, 1) := by decide +kernel
theorem dX10_init_9 : decode cX10_init 9 = .ok (.invokespecial 11, 3) := by decide +kernel
theorem dX10_init_12 : decode cX10_init 12 = .ok (.putfield 12, 3) := by decide +kernel
theorem dX10_init_15 : decode cX10_init 15 = .ok (.aload_n 0, 1) := by decide +kernel
theorem dX10_init_16 : decode cX10_init 16 = .ok (.new 16, 3) := by decide +kernel
theorem dX10_init_19 : decode cX10_init 19 = .ok (.dup, 1) := by decide +kernel
theorem dX10_init_20 : decode cX10_init 20 = .ok (.invokespecial 18, 3) := by decide +kernel
theorem dX10_init_23 : decode cX10_init 23 = .ok (.putfield 19, 3) := by decide +kernel
theorem dX10_init_26 : decode cX10_init 26 = .ok (.aload_n 0, 1) := by decide +kernel
theorem dX10_init_27 : decode cX10_init 27 = .ok (.new 23, 3) := by decide +kernel
theorem dX10_init_30 : decode cX10_init 30 = .ok (.dup, 1) := by decide +kernel
theorem dX10_init_31 : decode cX10_init 31 = .ok (.invokespecial 25, 3) := by decide +kernel
theorem dX10_init_34 : decode cX10_init 34 = .ok (.putfield 26, 3) := by decide +kernel
theorem dX10_init_37 : decode cX10_init 37 = .ok (.aload_n 0, 1) := by decide +kernel
theorem dX10_init_38 : decode cX10_init 38 = .ok (.new 30, 3) := by decide +kernel
theorem dX10_init_41 : decode cX10_init 41 = .ok (.dup, 1) := by decide +kernel
theorem dX10_init_42 : decode cX10_init 42 = .ok (.invokespecial 32, 3) := by decide +kernel
theorem dX10_init_45 : decode cX10_init 45 = .ok (.putfield 33, 3) := by decide +kernel
theorem dX10_init_48 : decode cX10_init 48 = .ok (.aload_n 0, 1) := by decide +kernel
theorem dX10_init_49 : decode cX10_init 49 = .ok (.iconst 2, 1) := by decide +kernel
theorem dX10_init_50 : decode cX10_init 50 = .ok (.anewarray 16, 3) := by decide +kernel
theorem dX10_init_53 : decode cX10_init 53 = .ok (.putfield 37, 3) := by decide +kernel
theorem dX10_init_56 : decode cX10_init 56 = .ok (.aload_n 0, 1) := by decide +kernel
theorem dX10_init_57 : decode cX10_init 57 = .ok (.iconst 2, 1) := by decide +kernel
theorem dX10_init_58 : decode cX10_init 58 = .ok (.newarray .int, 2) := by decide +kernel
theorem dX10_init_60 : decode cX10_init 60 = .ok (.putfield 41, 3) := by decide +kernel
theorem dX10_init_63 : decode cX10_init 63 = .ok (.new 9, 3) := by decide +kernel
theorem dX10_init_66 : decode cX10_init 66 = .ok (.dup, 1) := by decide +kernel
theorem dX10_init_67 : decode cX10_init 67 = .ok (.invokespecial 11, 3) := by decide +kernel
theorem dX10_init_70 : decode cX10_init 70 = .ok (.astore_n 1, 1) := by decide +kernel
theorem dX10_init_71 : decode cX10_init 71 = .ok (.new 45, 3) := by decide +kernel
theorem dX10_init_74 : decode cX10_init 74 = .ok (.dup, 1) := by decide +kernel
theorem dX10_init_75 : decode cX10_init 75 = .ok (.aload_n 1, 1) := by decide +kernel
theorem dX10_init_76 : decode cX10_init 76 = .ok (.invokespecial 47, 3) := by decide +kernel
theorem dX10_init_79 : decode cX10_init 79 = .ok (.astore_n 2, 1) := by decide +kernel
theorem dX10_init_80 : decode cX10_init 80 = .ok (.aload_n 1, 1) := by decide +kernel
theorem dX10_init_81 : decode cX10_init 81 = .ok (.ldc 50, 2) := by decide +kernel
theorem dX10_init_83 : decode cX10_init 83 = .ok (.invokevirtual 52, 3) := by decide +kernel
theorem dX10_init_86 : decode cX10_init 86 = .ok (.aload_n 2, 1) := by decide +kernel
theorem dX10_init_87 : decode cX10_init 87 = .ok (.invokevirtual 56, 3) := by decide +kernel
theorem dX10_init_90 : decode cX10_init 90 = .ok (.pop, 1) := by decide +kernel
theorem dX10_init_91 : decode cX10_init 91 = .ok (.aload_n 1, 1) := by decide +kernel
theorem dX10_init_92 : decode cX10_init 92 = .ok (.iconst 0, 1) := by decide +kernel
theorem dX10_init_93 : decode cX10_init 93 = .ok (.invokevirtual 60, 3) := by decide +kernel
theorem dX10_init_96 : decode cX10_init 96 = .ok (.aload_n 0, 1) := by decide +kernel
theorem dX10_init_97 : decode cX10_init 97 = .ok (.aload_n 1, 1) := by decide +kernel
theorem dX10_init_98 : decode cX10_init 98 = .ok (.putfield 64, 3) := by decide +kernel
theorem dX10_init_101 : decode cX10_init 101 = .ok (.aload_n 0, 1) := by decide +kernel
theorem dX10_init_102 : decode cX10_init 102 = .ok (.aload_n 2, 1) := by decide +kernel
theorem dX10_init_103 : decode cX10_init 103 = .ok (.putfield 67, 3) := by decide +kernel
theorem dX10_init_106 : decode cX10_init 106 = .ok (.aload_n 0, 1) := by decide +kernel
theorem dX10_init_107 : decode cX10_init 107 = .ok (.getfield 19, 3) := by decide +kernel
theorem dX10_init_110 : decode cX10_init 110 = .ok (.aload_n 2, 1) := by decide +kernel
theorem dX10_init_111 : decode cX10_init 111 = .ok (.getfield 71, 3) := by decide +kernel
theorem dX10_init_114 : decode cX10_init 114 = .ok (.invokevirtual 74, 3) := by decide +kernel
theorem dX10_init_117 : decode cX10_init 117 = .ok (.iconst 0, 1) := by decide +kernel
theorem dX10_init_118 : decode cX10_init 118 = .ok (.istore_n 3, 1) := by decide +kernel
theorem dX10_init_119 : decode cX10_init 119 = .ok (.iload_n 3, 1) := by decide +kernel
theorem dX10_init_120 : decode cX10_init 120 = .ok (.aload_n 0, 1) := by decide +kernel
theorem dX10_init_121 : decode cX10_init 121 = .ok (.getfield 37, 3) := by decide +kernel
theorem dX10_init_124 : decode cX10_init 124 = .ok (.arraylength, 1) := by decide +kernel
theorem dX10_init_125 : decode cX10_init 125 = .ok (.if_icmp .ge 22, 3) := by decide +kernel
theorem dX10_init_128 : decode cX10_init 128 = .ok (.aload_n 0, 1) := by decide +kernel
theorem dX10_init_129 : decode cX10_init 129 = .ok (.getfield 37, 3) := by decide +kernel
theorem dX10_init_132 : decode cX10_init 132 = .ok (.iload_n 3, 1) := by decide +kernel
theorem dX10_init_133 : decode cX10_init 133 = .ok (.new 16, 3) := by decide +kernel
theorem dX10_init_136 : decode cX10_init 136 = .ok (.dup, 1) := by decide +kernel
theorem dX10_init_137 : decode cX10_init 137 = .ok (.invokespecial 18, 3) := by decide +kernel
theorem dX10_init_140 : decode cX10_init 140 = .ok (.aastore, 1) := by decide +kernel
theorem dX10_init_141 : decode cX10_init 141 = .ok (.iinc 3 1, 3) := by decide +kernel
theorem dX10_init_144 : decode cX10_init 144 = .ok (.goto (-25), 3) := by decide +kernel
theorem dX10_init_147 : decode cX10_init 147 = .ok (.return_, 1) := by decide +kernel
theorem dX10_appendInput_0 : decode cX10_appendInput 0 = .ok (.aload_n 0, 1) := by decide +kernel
theorem dX10_appendInput_1 : decode cX10_appendInput 1 = .ok (.getfield 64, 3) := by decide +kernel
theorem dX10_appendInput_4 : decode cX10_appendInput 4 = .ok (.getfield 78, 3) := by decide +kernel
theorem dX10_appendInput_7 : decode cX10_appendInput 7 = .ok (.bipush 20, 2) := by decide +kernel
theorem dX10_appendInput_9 : decode cX10_appendInput 9 = .ok (.iadd, 1) := by decide +kernel
theorem dX10_appendInput_10 : decode cX10_appendInput 10 = .ok (.sipush 600, 3) := by decide +kernel
theorem dX10_appendInput_13 : decode cX10_appendInput 13 = .ok (.if_icmp .le 13, 3) := by decide +kernel
theorem dX10_appendInput_16 : decode cX10_appendInput 16 = .ok (.new 82, 3) := by decide +kernel
theorem dX10_appendInput_19 : decode cX10_appendInput 19 = .ok (.dup, 1) := by decide +kernel
theorem dX10_appendInput_20 : decode cX10_appendInput 20 = .ok (.ldc 84, 2) := by decide +kernel
theorem dX10_appendInput_22 : decode cX10_appendInput 22 = .ok (.invokespecial 86, 3) := by decide +kernel
theorem dX10_appendInput_25 : decode cX10_appendInput 25 = .ok (.athrow, 1) := by decide +kernel
theorem dX10_appendInput_26 : decode cX10_appendInput 26 = .ok (.aload_n 0, 1) := by decide +kernel
theorem dX10_appendInput_27 : decode cX10_appendInput 27 = .ok (.getfield 64, 3) := by decide +kernel
theorem dX10_appendInput_30 : decode cX10_appendInput 30 = .ok (.iload_n 1, 1) := by decide +kernel
theorem dX10_appendInput_31 : decode cX10_appendInput 31 = .ok (.invokevirtual 88, 3) := by decide +kernel
theorem dX10_appendInput_34 : decode cX10_appendInput 34 = .ok (.aload_n 0, 1) := by decide +kernel
theorem dX10_appendInput_35 : decode cX10_appendInput 35 = .ok (.getfield 64, 3) := by decide +kernel
theorem dX10_appendInput_38 : decode cX10_appendInput 38 = .ok (.iload_n 2, 1) := by decide +kernel
theorem dX10_appendInput_39 : decode cX10_appendInput 39 = .ok (.invokevirtual 88, 3) := by decide +kernel
theorem dX10_appendInput_42 : decode cX10_appendInput 42 = .ok (.aload_n 0, 1) := by decide +kernel
theorem dX10_appendInput_43 : decode cX10_appendInput 43 = .ok (.getfield 64, 3) := by decide +kernel
theorem dX10_appendInput_46 : decode cX10_appendInput 46 = .ok (.iload_n 3, 1) := by decide +kernel
theorem dX10_appendInput_47 : decode cX10_appendInput 47 = .ok (.invokevirtual 88, 3) := by decide +kernel
theorem dX10_appendInput_50 : decode cX10_appendInput 50 = .ok (.aload_n 0, 1) := by decide +kernel
theorem dX10_appendInput_51 : decode cX10_appendInput 51 = .ok (.getfield 64, 3) := by decide +kernel
theorem dX10_appendInput_54 : decode cX10_appendInput 54 = .ok (.iload 4, 2) := by decide +kernel
theorem dX10_appendInput_56 : decode cX10_appendInput 56 = .ok (.invokevirtual 88, 3) := by decide +kernel
theorem dX10_appendInput_59 : decode cX10_appendInput 59 = .ok (.aload_n 0, 1) := by decide +kernel
theorem dX10_appendInput_60 : decode cX10_appendInput 60 = .ok (.getfield 64, 3) := by decide +kernel
theorem dX10_appendInput_63 : decode cX10_appendInput 63 = .ok (.iload 5, 2) := by decide +kernel
theorem dX10_appendInput_65 : decode cX10_appendInput 65 = .ok (.invokevirtual 88, 3) := by decide +kernel
theorem dX10_appendInput_68 : decode cX10_appendInput 68 = .ok (.aload_n 0, 1) := by decide +kernel
theorem dX10_appendInput_69 : decode cX10_appendInput 69 = .ok (.getfield 64, 3) := by decide +kernel
theorem dX10_appendInput_72 : decode cX10_appendInput 72 = .ok (.getfield 78, 3) := by decide +kernel
theorem dX10_appendInput_75 : decode cX10_appendInput 75 = .ok (.ireturn, 1) := by decide +kernel
theorem dX10_truncateInput_0 : decode cX10_truncateInput 0 = .ok (.iload_n 1, 1) := by decide +kernel
theorem dX10_truncateInput_1 : decode cX10_truncateInput 1 = .ok (.iconst 0, 1) := by decide +kernel
theorem dX10_truncateInput_2 : decode cX10_truncateInput 2 = .ok (.aload_n 0, 1) := by decide +kernel
theorem dX10_truncateInput_3 : decode cX10_truncateInput 3 = .ok (.getfield 64, 3) := by decide +kernel
theorem dX10_truncateInput_6 : decode cX10_truncateInput 6 = .ok (.getfield 78, 3) := by decide +kernel
theorem dX10_truncateInput_9 : decode cX10_truncateInput 9 = .ok (.invokestatic 91, 3) := by decide +kernel
theorem dX10_truncateInput_12 : decode cX10_truncateInput 12 = .ok (.aload_n 0, 1) := by decide +kernel
theorem dX10_truncateInput_13 : decode cX10_truncateInput 13 = .ok (.getfield 64, 3) := by decide +kernel
theorem dX10_truncateInput_16 : decode cX10_truncateInput 16 = .ok (.iload_n 1, 1) := by decide +kernel
theorem dX10_truncateInput_17 : decode cX10_truncateInput 17 = .ok (.invokevirtual 60, 3) := by decide +kernel
theorem dX10_truncateInput_20 : decode cX10_truncateInput 20 = .ok (.aload_n 0, 1) := by decide +kernel
theorem dX10_truncateInput_21 : decode cX10_truncateInput 21 = .ok (.getfield 64, 3) := by decide +kernel
theorem dX10_truncateInput_24 : decode cX10_truncateInput 24 = .ok (.getfield 78, 3) := by decide +kernel
theorem dX10_truncateInput_27 : decode cX10_truncateInput 27 = .ok (.ireturn, 1) := by decide +kernel
theorem dX10_load_0 : decode cX10_load 0 = .ok (.aload_n 0, 1) := by decide +kernel
theorem dX10_load_1 : decode cX10_load 1 = .ok (.getfield 67, 3) := by decide +kernel
theorem dX10_load_4 : decode cX10_load 4 = .ok (.invokevirtual 56, 3) := by decide +kernel
theorem dX10_load_7 : decode cX10_load 7 = .ok (.istore_n 1, 1) := by decide +kernel
theorem dX10_load_8 : decode cX10_load 8 = .ok (.aload_n 0, 1) := by decide +kernel
theorem dX10_load_9 : decode cX10_load 9 = .ok (.getfield 64, 3) := by decide +kernel
theorem dX10_load_12 : decode cX10_load 12 = .ok (.iconst 0, 1) := by decide +kernel
theorem dX10_load_13 : decode cX10_load 13 = .ok (.invokevirtual 60, 3) := by decide +kernel
theorem dX10_load_16 : decode cX10_load 16 = .ok (.iload_n 1, 1) := by decide +kernel
theorem dX10_load_17 : decode cX10_load 17 = .ok (.ifCond .ne 13, 3) := by decide +kernel
theorem dX10_load_20 : decode cX10_load 20 = .ok (.new 95, 3) := by decide +kernel
theorem dX10_load_23 : decode cX10_load 23 = .ok (.dup, 1) := by decide +kernel
theorem dX10_load_24 : decode cX10_load 24 = .ok (.ldc 97, 2) := by decide +kernel
theorem dX10_load_26 : decode cX10_load 26 = .ok (.invokespecial 99, 3) := by decide +kernel
theorem dX10_load_29 : decode cX10_load 29 = .ok (.athrow, 1) := by decide +kernel
theorem dX10_load_30 : decode cX10_load 30 = .ok (.aload_n 0, 1) := by decide +kernel
theorem dX10_load_31 : decode cX10_load 31 = .ok (.getfield 33, 3) := by decide +kernel
theorem dX10_load_34 : decode cX10_load 34 = .ok (.aload_n 0, 1) := by decide +kernel
theorem dX10_load_35 : decode cX10_load 35 = .ok (.getfield 19, 3) := by decide +kernel
theorem dX10_load_38 : decode cX10_load 38 = .ok (.invokevirtual 100, 3) := by decide +kernel
theorem dX10_load_41 : decode cX10_load 41 = .ok (.aload_n 0, 1) := by decide +kernel
theorem dX10_load_42 : decode cX10_load 42 = .ok (.getfield 19, 3) := by decide +kernel
theorem dX10_load_45 : decode cX10_load 45 = .ok (.aload_n 0, 1) := by decide +kernel
theorem dX10_load_46 : decode cX10_load 46 = .ok (.getfield 67, 3) := by decide +kernel
theorem dX10_load_49 : decode cX10_load 49 = .ok (.getfield 71, 3) := by decide +kernel
theorem dX10_load_52 : decode cX10_load 52 = .ok (.invokevirtual 74, 3) := by decide +kernel
theorem dX10_load_55 : decode cX10_load 55 = .ok (.aload_n 0, 1) := by decide +kernel
theorem dX10_load_56 : decode cX10_load 56 = .ok (.getfield 19, 3) := by decide +kernel
theorem dX10_load_59 : decode cX10_load 59 = .ok (.getfield 103, 3) := by decide +kernel
theorem dX10_load_62 : decode cX10_load 62 = .ok (.getfield 107, 3) := by decide +kernel
theorem dX10_load_65 : decode cX10_load 65 = .ok (.ireturn, 1) := by decide +kernel
theorem dX10_errorCode_0 : decode cX10_errorCode 0 = .ok (.aload_n 0, 1) := by decide +kernel
theorem dX10_errorCode_1 : decode cX10_errorCode 1 = .ok (.getfield 67, 3) := by decide +kernel
theorem dX10_errorCode_4 : decode cX10_errorCode 4 = .ok (.getfield 112, 3) := by decide +kernel
theorem dX10_errorCode_7 : decode cX10_errorCode 7 = .ok (.ireturn, 1) := by decide +kernel
theorem dX10_errorPosition_0 : decode cX10_errorPosition 0 = .ok (.aload_n 0, 1) := by decide +kernel
theorem dX10_errorPosition_1 : decode cX10_errorPosition 1 = .ok (.getfield 67, 3) := by decide +kernel
theorem dX10_errorPosition_4 : decode cX10_errorPosition 4 = .ok (.getfield 115, 3) := by decide +kernel
theorem dX10_errorPosition_7 : decode cX10_errorPosition 7 = .ok (.ireturn, 1) := by decide +kernel
theorem dX10_seed_0 : decode cX10_seed 0 = .ok (.aload_n 0, 1) := by decide +kernel
theorem dX10_seed_1 : decode cX10_seed 1 = .ok (.getfield 19, 3) := by decide +kernel
theorem dX10_seed_4 : decode cX10_seed 4 = .ok (.getfield 118, 3) := by decide +kernel
theorem dX10_seed_7 : decode cX10_seed 7 = .ok (.ireturn, 1) := by decide +kernel
theorem dX10_minimum_0 : decode cX10_minimum 0 = .ok (.aload_n 0, 1) := by decide +kernel
theorem dX10_minimum_1 : decode cX10_minimum 1 = .ok (.getfield 19, 3) := by decide +kernel
theorem dX10_minimum_4 : decode cX10_minimum 4 = .ok (.getfield 121, 3) := by decide +kernel
theorem dX10_minimum_7 : decode cX10_minimum 7 = .ok (.ireturn, 1) := by decide +kernel
theorem dX10_threshold_0 : decode cX10_threshold 0 = .ok (.aload_n 0, 1) := by decide +kernel
theorem dX10_threshold_1 : decode cX10_threshold 1 = .ok (.getfield 19, 3) := by decide +kernel
theorem dX10_threshold_4 : decode cX10_threshold 4 = .ok (.getfield 124, 3) := by decide +kernel
theorem dX10_threshold_7 : decode cX10_threshold 7 = .ok (.ireturn, 1) := by decide +kernel
theorem dX10_dieCount_0 : decode cX10_dieCount 0 = .ok (.aload_n 0, 1) := by decide +kernel
theorem dX10_dieCount_1 : decode cX10_dieCount 1 = .ok (.getfield 19, 3) := by decide +kernel
theorem dX10_dieCount_4 : decode cX10_dieCount 4 = .ok (.getfield 127, 3) := by decide +kernel
theorem dX10_dieCount_7 : decode cX10_dieCount 7 = .ok (.getfield 131, 3) := by decide +kernel
theorem dX10_dieCount_10 : decode cX10_dieCount 10 = .ok (.ireturn, 1) := by decide +kernel
theorem dX10_playerCount_0 : decode cX10_playerCount 0 = .ok (.aload_n 0, 1) := by decide +kernel
theorem dX10_playerCount_1 : decode cX10_playerCount 1 = .ok (.getfield 19, 3) := by decide +kernel
theorem dX10_playerCount_4 : decode cX10_playerCount 4 = .ok (.getfield 134, 3) := by decide +kernel
theorem dX10_playerCount_7 : decode cX10_playerCount 7 = .ok (.getfield 138, 3) := by decide +kernel
theorem dX10_playerCount_10 : decode cX10_playerCount 10 = .ok (.ireturn, 1) := by decide +kernel
theorem dX10_throwCount_0 : decode cX10_throwCount 0 = .ok (.aload_n 0, 1) := by decide +kernel
theorem dX10_throwCount_1 : decode cX10_throwCount 1 = .ok (.getfield 19, 3) := by decide +kernel
theorem dX10_throwCount_4 : decode cX10_throwCount 4 = .ok (.getfield 103, 3) := by decide +kernel
theorem dX10_throwCount_7 : decode cX10_throwCount 7 = .ok (.getfield 107, 3) := by decide +kernel
theorem dX10_throwCount_10 : decode cX10_throwCount 10 = .ok (.ireturn, 1) := by decide +kernel
theorem dX10_faces_0 : decode cX10_faces 0 = .ok (.aload_n 0, 1) := by decide +kernel
theorem dX10_faces_1 : decode cX10_faces 1 = .ok (.iload_n 1, 1) := by decide +kernel
theorem dX10_faces_2 : decode cX10_faces 2 = .ok (.invokevirtual 141, 3) := by decide +kernel
theorem dX10_faces_5 : decode cX10_faces 5 = .ok (.aload_n 0, 1) := by decide +kernel
theorem dX10_faces_6 : decode cX10_faces 6 = .ok (.getfield 19, 3) := by decide +kernel
theorem dX10_faces_9 : decode cX10_faces 9 = .ok (.getfield 127, 3) := by decide +kernel
theorem dX10_faces_12 : decode cX10_faces 12 = .ok (.iload_n 1, 1) := by decide +kernel
theorem dX10_faces_13 : decode cX10_faces 13 = .ok (.invokevirtual 144, 3) := by decide +kernel
theorem dX10_faces_16 : decode cX10_faces 16 = .ok (.ireturn, 1) := by decide +kernel
theorem dX10_weightOf_0 : decode cX10_weightOf 0 = .ok (.aload_n 0, 1) := by decide +kernel
theorem dX10_weightOf_1 : decode cX10_weightOf 1 = .ok (.iload_n 1, 1) := by decide +kernel
theorem dX10_weightOf_2 : decode cX10_weightOf 2 = .ok (.invokevirtual 141, 3) := by decide +kernel
theorem dX10_weightOf_5 : decode cX10_weightOf 5 = .ok (.aload_n 0, 1) := by decide +kernel
theorem dX10_weightOf_6 : decode cX10_weightOf 6 = .ok (.iload_n 1, 1) := by decide +kernel
theorem dX10_weightOf_7 : decode cX10_weightOf 7 = .ok (.iload_n 2, 1) := by decide +kernel
theorem dX10_weightOf_8 : decode cX10_weightOf 8 = .ok (.invokevirtual 148, 3) := by decide +kernel
theorem dX10_weightOf_11 : decode cX10_weightOf 11 = .ok (.aload_n 0, 1) := by decide +kernel
theorem dX10_weightOf_12 : decode cX10_weightOf 12 = .ok (.getfield 19, 3) := by decide +kernel
theorem dX10_weightOf_15 : decode cX10_weightOf 15 = .ok (.getfield 127, 3) := by decide +kernel
theorem dX10_weightOf_18 : decode cX10_weightOf 18 = .ok (.iload_n 1, 1) := by decide +kernel
theorem dX10_weightOf_19 : decode cX10_weightOf 19 = .ok (.iload_n 2, 1) := by decide +kernel
theorem dX10_weightOf_20 : decode cX10_weightOf 20 = .ok (.invokevirtual 152, 3) := by decide +kernel
theorem dX10_weightOf_23 : decode cX10_weightOf 23 = .ok (.ireturn, 1) := by decide +kernel
theorem dX10_isBalanced_0 : decode cX10_isBalanced 0 = .ok (.aload_n 0, 1) := by decide +kernel
theorem dX10_isBalanced_1 : decode cX10_isBalanced 1 = .ok (.iload_n 1, 1) := by decide +kernel
theorem dX10_isBalanced_2 : decode cX10_isBalanced 2 = .ok (.invokevirtual 141, 3) := by decide +kernel
theorem dX10_isBalanced_5 : decode cX10_isBalanced 5 = .ok (.aload_n 0, 1) := by decide +kernel
theorem dX10_isBalanced_6 : decode cX10_isBalanced 6 = .ok (.getfield 19, 3) := by decide +kernel
theorem dX10_isBalanced_9 : decode cX10_isBalanced 9 = .ok (.getfield 127, 3) := by decide +kernel
theorem dX10_isBalanced_12 : decode cX10_isBalanced 12 = .ok (.iload_n 1, 1) := by decide +kernel
theorem dX10_isBalanced_13 : decode cX10_isBalanced 13 = .ok (.invokevirtual 156, 3) := by decide +kernel
theorem dX10_isBalanced_16 : decode cX10_isBalanced 16 = .ok (.ireturn, 1) := by decide +kernel
theorem dX10_heaviestFace_0 : decode cX10_heaviestFace 0 = .ok (.aload_n 0, 1) := by decide +kernel
theorem dX10_heaviestFace_1 : decode cX10_heaviestFace 1 = .ok (.iload_n 1, 1) := by decide +kernel
theorem dX10_heaviestFace_2 : decode cX10_heaviestFace 2 = .ok (.invokevirtual 141, 3) := by decide +kernel
theorem dX10_heaviestFace_5 : decode cX10_heaviestFace 5 = .ok (.aload_n 0, 1) := by decide +kernel
theorem dX10_heaviestFace_6 : decode cX10_heaviestFace 6 = .ok (.getfield 19, 3) := by decide +kernel
theorem dX10_heaviestFace_9 : decode cX10_heaviestFace 9 = .ok (.getfield 127, 3) := by decide +kernel
theorem dX10_heaviestFace_12 : decode cX10_heaviestFace 12 = .ok (.getfield 160, 3) := by decide +kernel
theorem dX10_heaviestFace_15 : decode cX10_heaviestFace 15 = .ok (.iload_n 1, 1) := by decide +kernel
theorem dX10_heaviestFace_16 : decode cX10_heaviestFace 16 = .ok (.iconst 1, 1) := by decide +kernel
theorem dX10_heaviestFace_17 : decode cX10_heaviestFace 17 = .ok (.invokestatic 163, 3) := by decide +kernel
theorem dX10_heaviestFace_20 : decode cX10_heaviestFace 20 = .ok (.aload_n 0, 1) := by decide +kernel
theorem dX10_heaviestFace_21 : decode cX10_heaviestFace 21 = .ok (.getfield 19, 3) := by decide +kernel
theorem dX10_heaviestFace_24 : decode cX10_heaviestFace 24 = .ok (.getfield 127, 3) := by decide +kernel
theorem dX10_heaviestFace_27 : decode cX10_heaviestFace 27 = .ok (.iload_n 1, 1) := by decide +kernel
theorem dX10_heaviestFace_28 : decode cX10_heaviestFace 28 = .ok (.invokevirtual 144, 3) := by decide +kernel
theorem dX10_heaviestFace_31 : decode cX10_heaviestFace 31 = .ok (.invokestatic 166, 3) := by decide +kernel
theorem dX10_heaviestFace_34 : decode cX10_heaviestFace 34 = .ok (.ireturn, 1) := by decide +kernel
theorem dX10_nameByte_0 : decode cX10_nameByte 0 = .ok (.aload_n 0, 1) := by decide +kernel
theorem dX10_nameByte_1 : decode cX10_nameByte 1 = .ok (.iload_n 1, 1) := by decide +kernel
theorem dX10_nameByte_2 : decode cX10_nameByte 2 = .ok (.invokevirtual 170, 3) := by decide +kernel
theorem dX10_nameByte_5 : decode cX10_nameByte 5 = .ok (.iload_n 2, 1) := by decide +kernel
theorem dX10_nameByte_6 : decode cX10_nameByte 6 = .ok (.ifCond .lt 18, 3) := by decide +kernel
theorem dX10_nameByte_9 : decode cX10_nameByte 9 = .ok (.iload_n 2, 1) := by decide +kernel
theorem dX10_nameByte_10 : decode cX10_nameByte 10 = .ok (.aload_n 0, 1) := by decide +kernel
theorem dX10_nameByte_11 : decode cX10_nameByte 11 = .ok (.getfield 19, 3) := by decide +kernel
theorem dX10_nameByte_14 : decode cX10_nameByte 14 = .ok (.getfield 134, 3) := by decide +kernel
theorem dX10_nameByte_17 : decode cX10_nameByte 17 = .ok (.iload_n 1, 1) := by decide +kernel
theorem dX10_nameByte_18 : decode cX10_nameByte 18 = .ok (.invokevirtual 173, 3) := by decide +kernel
theorem dX10_nameByte_21 : decode cX10_nameByte 21 = .ok (.if_icmp .lt 13, 3) := by decide +kernel
theorem dX10_nameByte_24 : decode cX10_nameByte 24 = .ok (.new 176, 3) := by decide +kernel
theorem dX10_nameByte_27 : decode cX10_nameByte 27 = .ok (.dup, 1) := by decide +kernel
theorem dX10_nameByte_28 : decode cX10_nameByte 28 = .ok (.ldc 178, 2) := by decide +kernel
theorem dX10_nameByte_30 : decode cX10_nameByte 30 = .ok (.invokespecial 180, 3) := by decide +kernel
theorem dX10_nameByte_33 : decode cX10_nameByte 33 = .ok (.athrow, 1) := by decide +kernel
theorem dX10_nameByte_34 : decode cX10_nameByte 34 = .ok (.aload_n 0, 1) := by decide +kernel
theorem dX10_nameByte_35 : decode cX10_nameByte 35 = .ok (.getfield 19, 3) := by decide +kernel
theorem dX10_nameByte_38 : decode cX10_nameByte 38 = .ok (.getfield 134, 3) := by decide +kernel
theorem dX10_nameByte_41 : decode cX10_nameByte 41 = .ok (.iload_n 1, 1) := by decide +kernel
theorem dX10_nameByte_42 : decode cX10_nameByte 42 = .ok (.iload_n 2, 1) := by decide +kernel
theorem dX10_nameByte_43 : decode cX10_nameByte 43 = .ok (.invokevirtual 181, 3) := by decide +kernel
theorem dX10_nameByte_46 : decode cX10_nameByte 46 = .ok (.ireturn, 1) := by decide +kernel
theorem dX10_playerAt_0 : decode cX10_playerAt 0 = .ok (.aload_n 0, 1) := by decide +kernel
theorem dX10_playerAt_1 : decode cX10_playerAt 1 = .ok (.iload_n 1, 1) := by decide +kernel
theorem dX10_playerAt_2 : decode cX10_playerAt 2 = .ok (.invokevirtual 184, 3) := by decide +kernel
theorem dX10_playerAt_5 : decode cX10_playerAt 5 = .ok (.aload_n 0, 1) := by decide +kernel
theorem dX10_playerAt_6 : decode cX10_playerAt 6 = .ok (.getfield 19, 3) := by decide +kernel
theorem dX10_playerAt_9 : decode cX10_playerAt 9 = .ok (.getfield 103, 3) := by decide +kernel
theorem dX10_playerAt_12 : decode cX10_playerAt 12 = .ok (.iload_n 1, 1) := by decide +kernel
theorem dX10_playerAt_13 : decode cX10_playerAt 13 = .ok (.invokevirtual 187, 3) := by decide +kernel
theorem dX10_playerAt_16 : decode cX10_playerAt 16 = .ok (.invokestatic 190, 3) := by decide +kernel
theorem dX10_playerAt_19 : decode cX10_playerAt 19 = .ok (.ireturn, 1) := by decide +kernel
theorem dX10_dieAt_0 : decode cX10_dieAt 0 = .ok (.aload_n 0, 1) := by decide +kernel
theorem dX10_dieAt_1 : decode cX10_dieAt 1 = .ok (.iload_n 1, 1) := by decide +kernel
theorem dX10_dieAt_2 : decode cX10_dieAt 2 = .ok (.invokevirtual 184, 3) := by decide +kernel
theorem dX10_dieAt_5 : decode cX10_dieAt 5 = .ok (.aload_n 0, 1) := by decide +kernel
theorem dX10_dieAt_6 : decode cX10_dieAt 6 = .ok (.getfield 19, 3) := by decide +kernel
theorem dX10_dieAt_9 : decode cX10_dieAt 9 = .ok (.getfield 103, 3) := by decide +kernel
theorem dX10_dieAt_12 : decode cX10_dieAt 12 = .ok (.iload_n 1, 1) := by decide +kernel
theorem dX10_dieAt_13 : decode cX10_dieAt 13 = .ok (.invokevirtual 187, 3) := by decide +kernel
theorem dX10_dieAt_16 : decode cX10_dieAt 16 = .ok (.invokestatic 193, 3) := by decide +kernel
theorem dX10_dieAt_19 : decode cX10_dieAt 19 = .ok (.ireturn, 1) := by decide +kernel
theorem dX10_faceAt_0 : decode cX10_faceAt 0 = .ok (.aload_n 0, 1) := by decide +kernel
theorem dX10_faceAt_1 : decode cX10_faceAt 1 = .ok (.iload_n 1, 1) := by decide +kernel
theorem dX10_faceAt_2 : decode cX10_faceAt 2 = .ok (.invokevirtual 184, 3) := by decide +kernel
theorem dX10_faceAt_5 : decode cX10_faceAt 5 = .ok (.aload_n 0, 1) := by decide +kernel
theorem dX10_faceAt_6 : decode cX10_faceAt 6 = .ok (.getfield 19, 3) := by decide +kernel
theorem dX10_faceAt_9 : decode cX10_faceAt 9 = .ok (.getfield 103, 3) := by decide +kernel
theorem dX10_faceAt_12 : decode cX10_faceAt 12 = .ok (.iload_n 1, 1) := by decide +kernel
theorem dX10_faceAt_13 : decode cX10_faceAt 13 = .ok (.invokevirtual 196, 3) := by decide +kernel
theorem dX10_faceAt_16 : decode cX10_faceAt 16 = .ok (.ireturn, 1) := by decide +kernel
theorem dX10_isFairAt_0 : decode cX10_isFairAt 0 = .ok (.aload_n 0, 1) := by decide +kernel
theorem dX10_isFairAt_1 : decode cX10_isFairAt 1 = .ok (.iload_n 1, 1) := by decide +kernel
theorem dX10_isFairAt_2 : decode cX10_isFairAt 2 = .ok (.invokevirtual 184, 3) := by decide +kernel
theorem dX10_isFairAt_5 : decode cX10_isFairAt 5 = .ok (.aload_n 0, 1) := by decide +kernel
theorem dX10_isFairAt_6 : decode cX10_isFairAt 6 = .ok (.getfield 19, 3) := by decide +kernel
theorem dX10_isFairAt_9 : decode cX10_isFairAt 9 = .ok (.getfield 103, 3) := by decide +kernel
theorem dX10_isFairAt_12 : decode cX10_isFairAt 12 = .ok (.iload_n 1, 1) := by decide +kernel
theorem dX10_isFairAt_13 : decode cX10_isFairAt 13 = .ok (.invokevirtual 199, 3) := by decide +kernel
theorem dX10_isFairAt_16 : decode cX10_isFairAt 16 = .ok (.ireturn, 1) := by decide +kernel
theorem dX10_throwsOf_0 : decode cX10_throwsOf 0 = .ok (.aload_n 0, 1) := by decide +kernel
theorem dX10_throwsOf_1 : decode cX10_throwsOf 1 = .ok (.iload_n 1, 1) := by decide +kernel
theorem dX10_throwsOf_2 : decode cX10_throwsOf 2 = .ok (.invokevirtual 170, 3) := by decide +kernel
theorem dX10_throwsOf_5 : decode cX10_throwsOf 5 = .ok (.aload_n 0, 1) := by decide +kernel
theorem dX10_throwsOf_6 : decode cX10_throwsOf 6 = .ok (.getfield 19, 3) := by decide +kernel
theorem dX10_throwsOf_9 : decode cX10_throwsOf 9 = .ok (.getfield 103, 3) := by decide +kernel
theorem dX10_throwsOf_12 : decode cX10_throwsOf 12 = .ok (.iload_n 1, 1) := by decide +kernel
theorem dX10_throwsOf_13 : decode cX10_throwsOf 13 = .ok (.invokevirtual 202, 3) := by decide +kernel
theorem dX10_throwsOf_16 : decode cX10_throwsOf 16 = .ok (.ireturn, 1) := by decide +kernel
theorem dX10_total_0 : decode cX10_total 0 = .ok (.aload_n 0, 1) := by decide +kernel
theorem dX10_total_1 : decode cX10_total 1 = .ok (.iload_n 1, 1) := by decide +kernel
theorem dX10_total_2 : decode cX10_total 2 = .ok (.invokevirtual 170, 3) := by decide +kernel
theorem dX10_total_5 : decode cX10_total 5 = .ok (.aload_n 0, 1) := by decide +kernel
theorem dX10_total_6 : decode cX10_total 6 = .ok (.getfield 19, 3) := by decide +kernel
theorem dX10_total_9 : decode cX10_total 9 = .ok (.getfield 103, 3) := by decide +kernel
theorem dX10_total_12 : decode cX10_total 12 = .ok (.iload_n 1, 1) := by decide +kernel
theorem dX10_total_13 : decode cX10_total 13 = .ok (.invokevirtual 205, 3) := by decide +kernel
theorem dX10_total_16 : decode cX10_total 16 = .ok (.ireturn, 1) := by decide +kernel
theorem dX10_meanFace_0 : decode cX10_meanFace 0 = .ok (.aload_n 0, 1) := by decide +kernel
theorem dX10_meanFace_1 : decode cX10_meanFace 1 = .ok (.iload_n 1, 1) := by decide +kernel
theorem dX10_meanFace_2 : decode cX10_meanFace 2 = .ok (.invokevirtual 170, 3) := by decide +kernel
theorem dX10_meanFace_5 : decode cX10_meanFace 5 = .ok (.aload_n 0, 1) := by decide +kernel
theorem dX10_meanFace_6 : decode cX10_meanFace 6 = .ok (.getfield 19, 3) := by decide +kernel
theorem dX10_meanFace_9 : decode cX10_meanFace 9 = .ok (.getfield 103, 3) := by decide +kernel
theorem dX10_meanFace_12 : decode cX10_meanFace 12 = .ok (.iload_n 1, 1) := by decide +kernel
theorem dX10_meanFace_13 : decode cX10_meanFace 13 = .ok (.invokevirtual 202, 3) := by decide +kernel
theorem dX10_meanFace_16 : decode cX10_meanFace 16 = .ok (.istore_n 2, 1) := by decide +kernel
theorem dX10_meanFace_17 : decode cX10_meanFace 17 = .ok (.iload_n 2, 1) := by decide +kernel
theorem dX10_meanFace_18 : decode cX10_meanFace 18 = .ok (.ifCond .ne 5, 3) := by decide +kernel
theorem dX10_meanFace_21 : decode cX10_meanFace 21 = .ok (.dconst 0, 1) := by decide +kernel
theorem dX10_meanFace_22 : decode cX10_meanFace 22 = .ok (.dreturn, 1) := by decide +kernel
theorem dX10_meanFace_23 : decode cX10_meanFace 23 = .ok (.aload_n 0, 1) := by decide +kernel
theorem dX10_meanFace_24 : decode cX10_meanFace 24 = .ok (.getfield 19, 3) := by decide +kernel
theorem dX10_meanFace_27 : decode cX10_meanFace 27 = .ok (.getfield 103, 3) := by decide +kernel
theorem dX10_meanFace_30 : decode cX10_meanFace 30 = .ok (.iload_n 1, 1) := by decide +kernel
theorem dX10_meanFace_31 : decode cX10_meanFace 31 = .ok (.invokevirtual 205, 3) := by decide +kernel
theorem dX10_meanFace_34 : decode cX10_meanFace 34 = .ok (.i2d, 1) := by decide +kernel
theorem dX10_meanFace_35 : decode cX10_meanFace 35 = .ok (.iload_n 2, 1) := by decide +kernel
theorem dX10_meanFace_36 : decode cX10_meanFace 36 = .ok (.i2d, 1) := by decide +kernel
theorem dX10_meanFace_37 : decode cX10_meanFace 37 = .ok (.ddiv, 1) := by decide +kernel
theorem dX10_meanFace_38 : decode cX10_meanFace 38 = .ok (.dreturn, 1) := by decide +kernel
theorem dX10_rankOf_0 : decode cX10_rankOf 0 = .ok (.aload_n 0, 1) := by decide +kernel
theorem dX10_rankOf_1 : decode cX10_rankOf 1 = .ok (.iload_n 1, 1) := by decide +kernel
theorem dX10_rankOf_2 : decode cX10_rankOf 2 = .ok (.invokevirtual 170, 3) := by decide +kernel
theorem dX10_rankOf_5 : decode cX10_rankOf 5 = .ok (.aload_n 0, 1) := by decide +kernel
theorem dX10_rankOf_6 : decode cX10_rankOf 6 = .ok (.getfield 19, 3) := by decide +kernel
theorem dX10_rankOf_9 : decode cX10_rankOf 9 = .ok (.iload_n 1, 1) := by decide +kernel
theorem dX10_rankOf_10 : decode cX10_rankOf 10 = .ok (.invokevirtual 208, 3) := by decide +kernel
theorem dX10_rankOf_13 : decode cX10_rankOf 13 = .ok (.ireturn, 1) := by decide +kernel
theorem dX10_playerWithRank_0 : decode cX10_playerWithRank 0 = .ok (.iconst 0, 1) := by decide +kernel
theorem dX10_playerWithRank_1 : decode cX10_playerWithRank 1 = .ok (.istore_n 2, 1) := by decide +kernel
theorem dX10_playerWithRank_2 : decode cX10_playerWithRank 2 = .ok (.iload_n 2, 1) := by decide +kernel
theorem dX10_playerWithRank_3 : decode cX10_playerWithRank 3 = .ok (.aload_n 0, 1) := by decide +kernel
theorem dX10_playerWithRank_4 : decode cX10_playerWithRank 4 = .ok (.getfield 19, 3) := by decide +kernel
theorem dX10_playerWithRank_7 : decode cX10_playerWithRank 7 = .ok (.getfield 134, 3) := by decide +kernel
theorem dX10_playerWithRank_10 : decode cX10_playerWithRank 10 = .ok (.getfield 138, 3) := by decide +kernel
theorem dX10_playerWithRank_13 : decode cX10_playerWithRank 13 = .ok (.if_icmp .ge 23, 3) := by decide +kernel
theorem dX10_playerWithRank_16 : decode cX10_playerWithRank 16 = .ok (.aload_n 0, 1) := by decide +kernel
theorem dX10_playerWithRank_17 : decode cX10_playerWithRank 17 = .ok (.getfield 19, 3) := by decide +kernel
theorem dX10_playerWithRank_20 : decode cX10_playerWithRank 20 = .ok (.iload_n 2, 1) := by decide +kernel
theorem dX10_playerWithRank_21 : decode cX10_playerWithRank 21 = .ok (.invokevirtual 208, 3) := by decide +kernel
theorem dX10_playerWithRank_24 : decode cX10_playerWithRank 24 = .ok (.iload_n 1, 1) := by decide +kernel
theorem dX10_playerWithRank_25 : decode cX10_playerWithRank 25 = .ok (.if_icmp .ne 5, 3) := by decide +kernel
theorem dX10_playerWithRank_28 : decode cX10_playerWithRank 28 = .ok (.iload_n 2, 1) := by decide +kernel
theorem dX10_playerWithRank_29 : decode cX10_playerWithRank 29 = .ok (.ireturn, 1) := by decide +kernel
theorem dX10_playerWithRank_30 : decode cX10_playerWithRank 30 = .ok (.iinc 2 1, 3) := by decide +kernel
theorem dX10_playerWithRank_33 : decode cX10_playerWithRank 33 = .ok (.goto (-31), 3) := by decide +kernel
theorem dX10_playerWithRank_36 : decode cX10_playerWithRank 36 = .ok (.new 176, 3) := by decide +kernel
theorem dX10_playerWithRank_39 : decode cX10_playerWithRank 39 = .ok (.dup, 1) := by decide +kernel
theorem dX10_playerWithRank_40 : decode cX10_playerWithRank 40 = .ok (.ldc 211, 2) := by decide +kernel
theorem dX10_playerWithRank_42 : decode cX10_playerWithRank 42 = .ok (.invokespecial 180, 3) := by decide +kernel
theorem dX10_playerWithRank_45 : decode cX10_playerWithRank 45 = .ok (.athrow, 1) := by decide +kernel
theorem dX10_longestRun_0 : decode cX10_longestRun 0 = .ok (.aload_n 0, 1) := by decide +kernel
theorem dX10_longestRun_1 : decode cX10_longestRun 1 = .ok (.iload_n 1, 1) := by decide +kernel
theorem dX10_longestRun_2 : decode cX10_longestRun 2 = .ok (.invokevirtual 170, 3) := by decide +kernel
theorem dX10_longestRun_5 : decode cX10_longestRun 5 = .ok (.aload_n 0, 1) := by decide +kernel
theorem dX10_longestRun_6 : decode cX10_longestRun 6 = .ok (.getfield 19, 3) := by decide +kernel
theorem dX10_longestRun_9 : decode cX10_longestRun 9 = .ok (.getfield 103, 3) := by decide +kernel
theorem dX10_longestRun_12 : decode cX10_longestRun 12 = .ok (.iload_n 1, 1) := by decide +kernel
theorem dX10_longestRun_13 : decode cX10_longestRun 13 = .ok (.invokevirtual 213, 3) := by decide +kernel
theorem dX10_longestRun_16 : decode cX10_longestRun 16 = .ok (.ireturn, 1) := by decide +kernel
theorem dX10_findPlayer_0 : decode cX10_findPlayer 0 = .ok (.aload_n 0, 1) := by decide +kernel
theorem dX10_findPlayer_1 : decode cX10_findPlayer 1 = .ok (.getfield 19, 3) := by decide +kernel
theorem dX10_findPlayer_4 : decode cX10_findPlayer 4 = .ok (.getfield 134, 3) := by decide +kernel
theorem dX10_findPlayer_7 : decode cX10_findPlayer 7 = .ok (.aload_n 0, 1) := by decide +kernel
theorem dX10_findPlayer_8 : decode cX10_findPlayer 8 = .ok (.getfield 64, 3) := by decide +kernel
theorem dX10_findPlayer_11 : decode cX10_findPlayer 11 = .ok (.iconst 0, 1) := by decide +kernel
theorem dX10_findPlayer_12 : decode cX10_findPlayer 12 = .ok (.aload_n 0, 1) := by decide +kernel
theorem dX10_findPlayer_13 : decode cX10_findPlayer 13 = .ok (.getfield 64, 3) := by decide +kernel
theorem dX10_findPlayer_16 : decode cX10_findPlayer 16 = .ok (.getfield 78, 3) := by decide +kernel
theorem dX10_findPlayer_19 : decode cX10_findPlayer 19 = .ok (.invokevirtual 216, 3) := by decide +kernel
theorem dX10_findPlayer_22 : decode cX10_findPlayer 22 = .ok (.ireturn, 1) := by decide +kernel
theorem dX10_throwsOfPair_0 : decode cX10_throwsOfPair 0 = .ok (.aload_n 0, 1) := by decide +kernel
theorem dX10_throwsOfPair_1 : decode cX10_throwsOfPair 1 = .ok (.iload_n 1, 1) := by decide +kernel
theorem dX10_throwsOfPair_2 : decode cX10_throwsOfPair 2 = .ok (.iload_n 2, 1) := by decide +kernel
theorem dX10_throwsOfPair_3 : decode cX10_throwsOfPair 3 = .ok (.invokevirtual 220, 3) := by decide +kernel
theorem dX10_throwsOfPair_6 : decode cX10_throwsOfPair 6 = .ok (.aload_n 0, 1) := by decide +kernel
theorem dX10_throwsOfPair_7 : decode cX10_throwsOfPair 7 = .ok (.getfield 19, 3) := by decide +kernel
theorem dX10_throwsOfPair_10 : decode cX10_throwsOfPair 10 = .ok (.getfield 103, 3) := by decide +kernel
theorem dX10_throwsOfPair_13 : decode cX10_throwsOfPair 13 = .ok (.iload_n 1, 1) := by decide +kernel
theorem dX10_throwsOfPair_14 : decode cX10_throwsOfPair 14 = .ok (.iload_n 2, 1) := by decide +kernel
theorem dX10_throwsOfPair_15 : decode cX10_throwsOfPair 15 = .ok (.invokestatic 223, 3) := by decide +kernel
theorem dX10_throwsOfPair_18 : decode cX10_throwsOfPair 18 = .ok (.invokevirtual 226, 3) := by decide +kernel
theorem dX10_throwsOfPair_21 : decode cX10_throwsOfPair 21 = .ok (.ireturn, 1) := by decide +kernel
theorem dX10_frequency_0 : decode cX10_frequency 0 = .ok (.aload_n 0, 1) := by decide +kernel
theorem dX10_frequency_1 : decode cX10_frequency 1 = .ok (.iload_n 1, 1) := by decide +kernel
theorem dX10_frequency_2 : decode cX10_frequency 2 = .ok (.iload_n 2, 1) := by decide +kernel
theorem dX10_frequency_3 : decode cX10_frequency 3 = .ok (.invokevirtual 220, 3) := by decide +kernel
theorem dX10_frequency_6 : decode cX10_frequency 6 = .ok (.aload_n 0, 1) := by decide +kernel
theorem dX10_frequency_7 : decode cX10_frequency 7 = .ok (.iload_n 2, 1) := by decide +kernel
theorem dX10_frequency_8 : decode cX10_frequency 8 = .ok (.iload_n 3, 1) := by decide +kernel
theorem dX10_frequency_9 : decode cX10_frequency 9 = .ok (.invokevirtual 148, 3) := by decide +kernel
theorem dX10_frequency_12 : decode cX10_frequency 12 = .ok (.aload_n 0, 1) := by decide +kernel
theorem dX10_frequency_13 : decode cX10_frequency 13 = .ok (.getfield 19, 3) := by decide +kernel
theorem dX10_frequency_16 : decode cX10_frequency 16 = .ok (.getfield 103, 3) := by decide +kernel
theorem dX10_frequency_19 : decode cX10_frequency 19 = .ok (.getfield 229, 3) := by decide +kernel
theorem dX10_frequency_22 : decode cX10_frequency 22 = .ok (.iload_n 1, 1) := by decide +kernel
theorem dX10_frequency_23 : decode cX10_frequency 23 = .ok (.iload_n 2, 1) := by decide +kernel
theorem dX10_frequency_24 : decode cX10_frequency 24 = .ok (.invokestatic 223, 3) := by decide +kernel
theorem dX10_frequency_27 : decode cX10_frequency 27 = .ok (.iload_n 3, 1) := by decide +kernel
theorem dX10_frequency_28 : decode cX10_frequency 28 = .ok (.invokestatic 163, 3) := by decide +kernel
theorem dX10_frequency_31 : decode cX10_frequency 31 = .ok (.invokestatic 232, 3) := by decide +kernel
theorem dX10_frequency_34 : decode cX10_frequency 34 = .ok (.ireturn, 1) := by decide +kernel
theorem dX10_commonFace_0 : decode cX10_commonFace 0 = .ok (.aload_n 0, 1) := by decide +kernel
theorem dX10_commonFace_1 : decode cX10_commonFace 1 = .ok (.iload_n 1, 1) := by decide +kernel
theorem dX10_commonFace_2 : decode cX10_commonFace 2 = .ok (.iload_n 2, 1) := by decide +kernel
theorem dX10_commonFace_3 : decode cX10_commonFace 3 = .ok (.invokevirtual 220, 3) := by decide +kernel
theorem dX10_commonFace_6 : decode cX10_commonFace 6 = .ok (.iload_n 1, 1) := by decide +kernel
theorem dX10_commonFace_7 : decode cX10_commonFace 7 = .ok (.iload_n 2, 1) := by decide +kernel
theorem dX10_commonFace_8 : decode cX10_commonFace 8 = .ok (.invokestatic 223, 3) := by decide +kernel
theorem dX10_commonFace_11 : decode cX10_commonFace 11 = .ok (.istore_n 3, 1) := by decide +kernel
theorem dX10_commonFace_12 : decode cX10_commonFace 12 = .ok (.aload_n 0, 1) := by decide +kernel
theorem dX10_commonFace_13 : decode cX10_commonFace 13 = .ok (.getfield 19, 3) := by decide +kernel
theorem dX10_commonFace_16 : decode cX10_commonFace 16 = .ok (.getfield 103, 3) := by decide +kernel
theorem dX10_commonFace_19 : decode cX10_commonFace 19 = .ok (.getfield 229, 3) := by decide +kernel
theorem dX10_commonFace_22 : decode cX10_commonFace 22 = .ok (.iload_n 3, 1) := by decide +kernel
theorem dX10_commonFace_23 : decode cX10_commonFace 23 = .ok (.iconst 1, 1) := by decide +kernel
theorem dX10_commonFace_24 : decode cX10_commonFace 24 = .ok (.invokestatic 163, 3) := by decide +kernel
theorem dX10_commonFace_27 : decode cX10_commonFace 27 = .ok (.aload_n 0, 1) := by decide +kernel
theorem dX10_commonFace_28 : decode cX10_commonFace 28 = .ok (.getfield 19, 3) := by decide +kernel
theorem dX10_commonFace_31 : decode cX10_commonFace 31 = .ok (.getfield 127, 3) := by decide +kernel
theorem dX10_commonFace_34 : decode cX10_commonFace 34 = .ok (.iload_n 2, 1) := by decide +kernel
theorem dX10_commonFace_35 : decode cX10_commonFace 35 = .ok (.invokevirtual 144, 3) := by decide +kernel
theorem dX10_commonFace_38 : decode cX10_commonFace 38 = .ok (.invokestatic 166, 3) := by decide +kernel
theorem dX10_commonFace_41 : decode cX10_commonFace 41 = .ok (.ireturn, 1) := by decide +kernel
theorem dX10_facesSeen_0 : decode cX10_facesSeen 0 = .ok (.aload_n 0, 1) := by decide +kernel
theorem dX10_facesSeen_1 : decode cX10_facesSeen 1 = .ok (.iload_n 1, 1) := by decide +kernel
theorem dX10_facesSeen_2 : decode cX10_facesSeen 2 = .ok (.iload_n 2, 1) := by decide +kernel
theorem dX10_facesSeen_3 : decode cX10_facesSeen 3 = .ok (.invokevirtual 220, 3) := by decide +kernel
theorem dX10_facesSeen_6 : decode cX10_facesSeen 6 = .ok (.aload_n 0, 1) := by decide +kernel
theorem dX10_facesSeen_7 : decode cX10_facesSeen 7 = .ok (.getfield 19, 3) := by decide +kernel
theorem dX10_facesSeen_10 : decode cX10_facesSeen 10 = .ok (.getfield 103, 3) := by decide +kernel
theorem dX10_facesSeen_13 : decode cX10_facesSeen 13 = .ok (.iload_n 1, 1) := by decide +kernel
theorem dX10_facesSeen_14 : decode cX10_facesSeen 14 = .ok (.iload_n 2, 1) := by decide +kernel
theorem dX10_facesSeen_15 : decode cX10_facesSeen 15 = .ok (.invokestatic 223, 3) := by decide +kernel
theorem dX10_facesSeen_18 : decode cX10_facesSeen 18 = .ok (.invokevirtual 236, 3) := by decide +kernel
theorem dX10_facesSeen_21 : decode cX10_facesSeen 21 = .ok (.ireturn, 1) := by decide +kernel
theorem dX10_latestThrow_0 : decode cX10_latestThrow 0 = .ok (.aload_n 0, 1) := by decide +kernel
theorem dX10_latestThrow_1 : decode cX10_latestThrow 1 = .ok (.iload_n 1, 1) := by decide +kernel
theorem dX10_latestThrow_2 : decode cX10_latestThrow 2 = .ok (.iload_n 2, 1) := by decide +kernel
theorem dX10_latestThrow_3 : decode cX10_latestThrow 3 = .ok (.invokevirtual 220, 3) := by decide +kernel
theorem dX10_latestThrow_6 : decode cX10_latestThrow 6 = .ok (.aload_n 0, 1) := by decide +kernel
theorem dX10_latestThrow_7 : decode cX10_latestThrow 7 = .ok (.getfield 19, 3) := by decide +kernel
theorem dX10_latestThrow_10 : decode cX10_latestThrow 10 = .ok (.getfield 103, 3) := by decide +kernel
theorem dX10_latestThrow_13 : decode cX10_latestThrow 13 = .ok (.iload_n 1, 1) := by decide +kernel
theorem dX10_latestThrow_14 : decode cX10_latestThrow 14 = .ok (.iload_n 2, 1) := by decide +kernel
theorem dX10_latestThrow_15 : decode cX10_latestThrow 15 = .ok (.invokestatic 223, 3) := by decide +kernel
theorem dX10_latestThrow_18 : decode cX10_latestThrow 18 = .ok (.invokevirtual 239, 3) := by decide +kernel
theorem dX10_latestThrow_21 : decode cX10_latestThrow 21 = .ok (.ireturn, 1) := by decide +kernel
theorem dX10_score_0 : decode cX10_score 0 = .ok (.aload_n 0, 1) := by decide +kernel
theorem dX10_score_1 : decode cX10_score 1 = .ok (.iload_n 1, 1) := by decide +kernel
theorem dX10_score_2 : decode cX10_score 2 = .ok (.iload_n 2, 1) := by decide +kernel
theorem dX10_score_3 : decode cX10_score 3 = .ok (.invokevirtual 220, 3) := by decide +kernel
theorem dX10_score_6 : decode cX10_score 6 = .ok (.aload_n 0, 1) := by decide +kernel
theorem dX10_score_7 : decode cX10_score 7 = .ok (.getfield 19, 3) := by decide +kernel
theorem dX10_score_10 : decode cX10_score 10 = .ok (.iload_n 1, 1) := by decide +kernel
theorem dX10_score_11 : decode cX10_score 11 = .ok (.iload_n 2, 1) := by decide +kernel
theorem dX10_score_12 : decode cX10_score 12 = .ok (.invokestatic 223, 3) := by decide +kernel
theorem dX10_score_15 : decode cX10_score 15 = .ok (.invokevirtual 242, 3) := by decide +kernel
theorem dX10_score_18 : decode cX10_score 18 = .ok (.ireturn, 1) := by decide +kernel
theorem dX10_isSuspicious_0 : decode cX10_isSuspicious 0 = .ok (.aload_n 0, 1) := by decide +kernel
theorem dX10_isSuspicious_1 : decode cX10_isSuspicious 1 = .ok (.iload_n 1, 1) := by decide +kernel
theorem dX10_isSuspicious_2 : decode cX10_isSuspicious 2 = .ok (.iload_n 2, 1) := by decide +kernel
theorem dX10_isSuspicious_3 : decode cX10_isSuspicious 3 = .ok (.invokevirtual 220, 3) := by decide +kernel
theorem dX10_isSuspicious_6 : decode cX10_isSuspicious 6 = .ok (.aload_n 0, 1) := by decide +kernel
theorem dX10_isSuspicious_7 : decode cX10_isSuspicious 7 = .ok (.getfield 19, 3) := by decide +kernel
theorem dX10_isSuspicious_10 : decode cX10_isSuspicious 10 = .ok (.iload_n 1, 1) := by decide +kernel
theorem dX10_isSuspicious_11 : decode cX10_isSuspicious 11 = .ok (.iload_n 2, 1) := by decide +kernel
theorem dX10_isSuspicious_12 : decode cX10_isSuspicious 12 = .ok (.invokestatic 223, 3) := by decide +kernel
theorem dX10_isSuspicious_15 : decode cX10_isSuspicious 15 = .ok (.invokevirtual 245, 3) := by decide +kernel
theorem dX10_isSuspicious_18 : decode cX10_isSuspicious 18 = .ok (.ireturn, 1) := by decide +kernel
theorem dX10_suspiciousPairs_0 : decode cX10_suspiciousPairs 0 = .ok (.aload_n 0, 1) := by decide +kernel
theorem dX10_suspiciousPairs_1 : decode cX10_suspiciousPairs 1 = .ok (.getfield 19, 3) := by decide +kernel
theorem dX10_suspiciousPairs_4 : decode cX10_suspiciousPairs 4 = .ok (.invokevirtual 248, 3) := by decide +kernel
theorem dX10_suspiciousPairs_7 : decode cX10_suspiciousPairs 7 = .ok (.ireturn, 1) := by decide +kernel
theorem dX10_worstPair_0 : decode cX10_worstPair 0 = .ok (.aload_n 0, 1) := by decide +kernel
theorem dX10_worstPair_1 : decode cX10_worstPair 1 = .ok (.getfield 19, 3) := by decide +kernel
theorem dX10_worstPair_4 : decode cX10_worstPair 4 = .ok (.getfield 103, 3) := by decide +kernel
theorem dX10_worstPair_7 : decode cX10_worstPair 7 = .ok (.getfield 107, 3) := by decide +kernel
theorem dX10_worstPair_10 : decode cX10_worstPair 10 = .ok (.ifCond .ne 5, 3) := by decide +kernel
theorem dX10_worstPair_13 : decode cX10_worstPair 13 = .ok (.iconst (-1), 1) := by decide +kernel
theorem dX10_worstPair_14 : decode cX10_worstPair 14 = .ok (.ireturn, 1) := by decide +kernel
theorem dX10_worstPair_15 : decode cX10_worstPair 15 = .ok (.aload_n 0, 1) := by decide +kernel
theorem dX10_worstPair_16 : decode cX10_worstPair 16 = .ok (.getfield 19, 3) := by decide +kernel
theorem dX10_worstPair_19 : decode cX10_worstPair 19 = .ok (.invokevirtual 252, 3) := by decide +kernel
theorem dX10_worstPair_22 : decode cX10_worstPair 22 = .ok (.istore_n 1, 1) := by decide +kernel
theorem dX10_worstPair_23 : decode cX10_worstPair 23 = .ok (.bipush 10, 2) := by decide +kernel
theorem dX10_worstPair_25 : decode cX10_worstPair 25 = .ok (.iload_n 1, 1) := by decide +kernel
theorem dX10_worstPair_26 : decode cX10_worstPair 26 = .ok (.invokestatic 190, 3) := by decide +kernel
theorem dX10_worstPair_29 : decode cX10_worstPair 29 = .ok (.imul, 1) := by decide +kernel
theorem dX10_worstPair_30 : decode cX10_worstPair 30 = .ok (.iload_n 1, 1) := by decide +kernel
theorem dX10_worstPair_31 : decode cX10_worstPair 31 = .ok (.invokestatic 193, 3) := by decide +kernel
theorem dX10_worstPair_34 : decode cX10_worstPair 34 = .ok (.iadd, 1) := by decide +kernel
theorem dX10_worstPair_35 : decode cX10_worstPair 35 = .ok (.ireturn, 1) := by decide +kernel
theorem dX10_offenceCount_0 : decode cX10_offenceCount 0 = .ok (.aload_n 0, 1) := by decide +kernel
theorem dX10_offenceCount_1 : decode cX10_offenceCount 1 = .ok (.getfield 19, 3) := by decide +kernel
theorem dX10_offenceCount_4 : decode cX10_offenceCount 4 = .ok (.getfield 255, 3) := by decide +kernel
theorem dX10_offenceCount_7 : decode cX10_offenceCount 7 = .ok (.getfield 259, 3) := by decide +kernel
theorem dX10_offenceCount_10 : decode cX10_offenceCount 10 = .ok (.ireturn, 1) := by decide +kernel
theorem dX10_offencePlayer_0 : decode cX10_offencePlayer 0 = .ok (.aload_n 0, 1) := by decide +kernel
theorem dX10_offencePlayer_1 : decode cX10_offencePlayer 1 = .ok (.iload_n 1, 1) := by decide +kernel
theorem dX10_offencePlayer_2 : decode cX10_offencePlayer 2 = .ok (.invokevirtual 262, 3) := by decide +kernel
theorem dX10_offencePlayer_5 : decode cX10_offencePlayer 5 = .ok (.aload_n 0, 1) := by decide +kernel
theorem dX10_offencePlayer_6 : decode cX10_offencePlayer 6 = .ok (.getfield 19, 3) := by decide +kernel
theorem dX10_offencePlayer_9 : decode cX10_offencePlayer 9 = .ok (.getfield 255, 3) := by decide +kernel
theorem dX10_offencePlayer_12 : decode cX10_offencePlayer 12 = .ok (.getfield 265, 3) := by decide +kernel
theorem dX10_offencePlayer_15 : decode cX10_offencePlayer 15 = .ok (.iload_n 1, 1) := by decide +kernel
theorem dX10_offencePlayer_16 : decode cX10_offencePlayer 16 = .ok (.invokestatic 232, 3) := by decide +kernel
theorem dX10_offencePlayer_19 : decode cX10_offencePlayer 19 = .ok (.invokestatic 190, 3) := by decide +kernel
theorem dX10_offencePlayer_22 : decode cX10_offencePlayer 22 = .ok (.ireturn, 1) := by decide +kernel
theorem dX10_offenceDie_0 : decode cX10_offenceDie 0 = .ok (.aload_n 0, 1) := by decide +kernel
theorem dX10_offenceDie_1 : decode cX10_offenceDie 1 = .ok (.iload_n 1, 1) := by decide +kernel
theorem dX10_offenceDie_2 : decode cX10_offenceDie 2 = .ok (.invokevirtual 262, 3) := by decide +kernel
theorem dX10_offenceDie_5 : decode cX10_offenceDie 5 = .ok (.aload_n 0, 1) := by decide +kernel
theorem dX10_offenceDie_6 : decode cX10_offenceDie 6 = .ok (.getfield 19, 3) := by decide +kernel
theorem dX10_offenceDie_9 : decode cX10_offenceDie 9 = .ok (.getfield 255, 3) := by decide +kernel
theorem dX10_offenceDie_12 : decode cX10_offenceDie 12 = .ok (.getfield 265, 3) := by decide +kernel
theorem dX10_offenceDie_15 : decode cX10_offenceDie 15 = .ok (.iload_n 1, 1) := by decide +kernel
theorem dX10_offenceDie_16 : decode cX10_offenceDie 16 = .ok (.invokestatic 232, 3) := by decide +kernel
theorem dX10_offenceDie_19 : decode cX10_offenceDie 19 = .ok (.invokestatic 193, 3) := by decide +kernel
theorem dX10_offenceDie_22 : decode cX10_offenceDie 22 = .ok (.ireturn, 1) := by decide +kernel
theorem dX10_offenceScore_0 : decode cX10_offenceScore 0 = .ok (.aload_n 0, 1) := by decide +kernel
theorem dX10_offenceScore_1 : decode cX10_offenceScore 1 = .ok (.iload_n 1, 1) := by decide +kernel
theorem dX10_offenceScore_2 : decode cX10_offenceScore 2 = .ok (.invokevirtual 262, 3) := by decide +kernel
theorem dX10_offenceScore_5 : decode cX10_offenceScore 5 = .ok (.aload_n 0, 1) := by decide +kernel
theorem dX10_offenceScore_6 : decode cX10_offenceScore 6 = .ok (.getfield 19, 3) := by decide +kernel
theorem dX10_offenceScore_9 : decode cX10_offenceScore 9 = .ok (.getfield 255, 3) := by decide +kernel
theorem dX10_offenceScore_12 : decode cX10_offenceScore 12 = .ok (.getfield 268, 3) := by decide +kernel
theorem dX10_offenceScore_15 : decode cX10_offenceScore 15 = .ok (.iload_n 1, 1) := by decide +kernel
theorem dX10_offenceScore_16 : decode cX10_offenceScore 16 = .ok (.invokestatic 232, 3) := by decide +kernel
theorem dX10_offenceScore_19 : decode cX10_offenceScore 19 = .ok (.ireturn, 1) := by decide +kernel
theorem dX10_offencesOf_0 : decode cX10_offencesOf 0 = .ok (.aload_n 0, 1) := by decide +kernel
theorem dX10_offencesOf_1 : decode cX10_offencesOf 1 = .ok (.iload_n 1, 1) := by decide +kernel
theorem dX10_offencesOf_2 : decode cX10_offencesOf 2 = .ok (.invokevirtual 170, 3) := by decide +kernel
theorem dX10_offencesOf_5 : decode cX10_offencesOf 5 = .ok (.aload_n 0, 1) := by decide +kernel
theorem dX10_offencesOf_6 : decode cX10_offencesOf 6 = .ok (.getfield 19, 3) := by decide +kernel
theorem dX10_offencesOf_9 : decode cX10_offencesOf 9 = .ok (.getfield 255, 3) := by decide +kernel
theorem dX10_offencesOf_12 : decode cX10_offencesOf 12 = .ok (.iload_n 1, 1) := by decide +kernel
theorem dX10_offencesOf_13 : decode cX10_offencesOf 13 = .ok (.invokevirtual 271, 3) := by decide +kernel
theorem dX10_offencesOf_16 : decode cX10_offencesOf 16 = .ok (.ireturn, 1) := by decide +kernel
theorem dX10_nextFace_0 : decode cX10_nextFace 0 = .ok (.aload_n 0, 1) := by decide +kernel
theorem dX10_nextFace_1 : decode cX10_nextFace 1 = .ok (.iload_n 1, 1) := by decide +kernel
theorem dX10_nextFace_2 : decode cX10_nextFace 2 = .ok (.invokevirtual 141, 3) := by decide +kernel
theorem dX10_nextFace_5 : decode cX10_nextFace 5 = .ok (.aload_n 0, 1) := by decide +kernel
theorem dX10_nextFace_6 : decode cX10_nextFace 6 = .ok (.getfield 19, 3) := by decide +kernel
theorem dX10_nextFace_9 : decode cX10_nextFace 9 = .ok (.getfield 127, 3) := by decide +kernel
theorem dX10_nextFace_12 : decode cX10_nextFace 12 = .ok (.iload_n 1, 1) := by decide +kernel
theorem dX10_nextFace_13 : decode cX10_nextFace 13 = .ok (.aload_n 0, 1) := by decide +kernel
theorem dX10_nextFace_14 : decode cX10_nextFace 14 = .ok (.getfield 19, 3) := by decide +kernel
theorem dX10_nextFace_17 : decode cX10_nextFace 17 = .ok (.getfield 118, 3) := by decide +kernel
theorem dX10_nextFace_20 : decode cX10_nextFace 20 = .ok (.invokestatic 274, 3) := by decide +kernel
theorem dX10_nextFace_23 : decode cX10_nextFace 23 = .ok (.invokevirtual 277, 3) := by decide +kernel
theorem dX10_nextFace_26 : decode cX10_nextFace 26 = .ok (.ireturn, 1) := by decide +kernel
theorem dX10_faceAfter_0 : decode cX10_faceAfter 0 = .ok (.aload_n 0, 1) := by decide +kernel
theorem dX10_faceAfter_1 : decode cX10_faceAfter 1 = .ok (.iload_n 1, 1) := by decide +kernel
theorem dX10_faceAfter_2 : decode cX10_faceAfter 2 = .ok (.invokevirtual 141, 3) := by decide +kernel
theorem dX10_faceAfter_5 : decode cX10_faceAfter 5 = .ok (.iload_n 2, 1) := by decide +kernel
theorem dX10_faceAfter_6 : decode cX10_faceAfter 6 = .ok (.iconst 1, 1) := by decide +kernel
theorem dX10_faceAfter_7 : decode cX10_faceAfter 7 = .ok (.sipush 200, 3) := by decide +kernel
theorem dX10_faceAfter_10 : decode cX10_faceAfter 10 = .ok (.invokestatic 91, 3) := by decide +kernel
theorem dX10_faceAfter_13 : decode cX10_faceAfter 13 = .ok (.aload_n 0, 1) := by decide +kernel
theorem dX10_faceAfter_14 : decode cX10_faceAfter 14 = .ok (.getfield 19, 3) := by decide +kernel
theorem dX10_faceAfter_17 : decode cX10_faceAfter 17 = .ok (.getfield 118, 3) := by decide +kernel
theorem dX10_faceAfter_20 : decode cX10_faceAfter 20 = .ok (.istore_n 3, 1) := by decide +kernel
theorem dX10_faceAfter_21 : decode cX10_faceAfter 21 = .ok (.iconst 0, 1) := by decide +kernel
theorem dX10_faceAfter_22 : decode cX10_faceAfter 22 = .ok (.istore 4, 2) := by decide +kernel
theorem dX10_faceAfter_24 : decode cX10_faceAfter 24 = .ok (.iload 4, 2) := by decide +kernel
theorem dX10_faceAfter_26 : decode cX10_faceAfter 26 = .ok (.iload_n 2, 1) := by decide +kernel
theorem dX10_faceAfter_27 : decode cX10_faceAfter 27 = .ok (.if_icmp .ge 14, 3) := by decide +kernel
theorem dX10_faceAfter_30 : decode cX10_faceAfter 30 = .ok (.iload_n 3, 1) := by decide +kernel
theorem dX10_faceAfter_31 : decode cX10_faceAfter 31 = .ok (.invokestatic 274, 3) := by decide +kernel
theorem dX10_faceAfter_34 : decode cX10_faceAfter 34 = .ok (.istore_n 3, 1) := by decide +kernel
theorem dX10_faceAfter_35 : decode cX10_faceAfter 35 = .ok (.iinc 4 1, 3) := by decide +kernel
theorem dX10_faceAfter_38 : decode cX10_faceAfter 38 = .ok (.goto (-14), 3) := by decide +kernel
theorem dX10_faceAfter_41 : decode cX10_faceAfter 41 = .ok (.aload_n 0, 1) := by decide +kernel
theorem dX10_faceAfter_42 : decode cX10_faceAfter 42 = .ok (.getfield 19, 3) := by decide +kernel
theorem dX10_faceAfter_45 : decode cX10_faceAfter 45 = .ok (.getfield 127, 3) := by decide +kernel
theorem dX10_faceAfter_48 : decode cX10_faceAfter 48 = .ok (.iload_n 1, 1) := by decide +kernel
theorem dX10_faceAfter_49 : decode cX10_faceAfter 49 = .ok (.iload_n 3, 1) := by decide +kernel
theorem dX10_faceAfter_50 : decode cX10_faceAfter 50 = .ok (.invokevirtual 277, 3) := by decide +kernel
theorem dX10_faceAfter_53 : decode cX10_faceAfter 53 = .ok (.ireturn, 1) := by decide +kernel
theorem dX10_throwsUntil_0 : decode cX10_throwsUntil 0 = .ok (.aload_n 0, 1) := by decide +kernel
theorem dX10_throwsUntil_1 : decode cX10_throwsUntil 1 = .ok (.iload_n 1, 1) := by decide +kernel
theorem dX10_throwsUntil_2 : decode cX10_throwsUntil 2 = .ok (.invokevirtual 141, 3) := by decide +kernel
theorem dX10_throwsUntil_5 : decode cX10_throwsUntil 5 = .ok (.aload_n 0, 1) := by decide +kernel
theorem dX10_throwsUntil_6 : decode cX10_throwsUntil 6 = .ok (.iload_n 1, 1) := by decide +kernel
theorem dX10_throwsUntil_7 : decode cX10_throwsUntil 7 = .ok (.iload_n 2, 1) := by decide +kernel
theorem dX10_throwsUntil_8 : decode cX10_throwsUntil 8 = .ok (.invokevirtual 148, 3) := by decide +kernel
theorem dX10_throwsUntil_11 : decode cX10_throwsUntil 11 = .ok (.aload_n 0, 1) := by decide +kernel
theorem dX10_throwsUntil_12 : decode cX10_throwsUntil 12 = .ok (.getfield 19, 3) := by decide +kernel
theorem dX10_throwsUntil_15 : decode cX10_throwsUntil 15 = .ok (.getfield 118, 3) := by decide +kernel
theorem dX10_throwsUntil_18 : decode cX10_throwsUntil 18 = .ok (.istore_n 3, 1) := by decide +kernel
theorem dX10_throwsUntil_19 : decode cX10_throwsUntil 19 = .ok (.iconst 1, 1) := by decide +kernel
theorem dX10_throwsUntil_20 : decode cX10_throwsUntil 20 = .ok (.istore 4, 2) := by decide +kernel
theorem dX10_throwsUntil_22 : decode cX10_throwsUntil 22 = .ok (.iload 4, 2) := by decide +kernel
theorem dX10_throwsUntil_24 : decode cX10_throwsUntil 24 = .ok (.sipush 200, 3) := by decide +kernel
theorem dX10_throwsUntil_27 : decode cX10_throwsUntil 27 = .ok (.if_icmp .gt 33, 3) := by decide +kernel
theorem dX10_throwsUntil_30 : decode cX10_throwsUntil 30 = .ok (.iload_n 3, 1) := by decide +kernel
theorem dX10_throwsUntil_31 : decode cX10_throwsUntil 31 = .ok (.invokestatic 274, 3) := by decide +kernel
theorem dX10_throwsUntil_34 : decode cX10_throwsUntil 34 = .ok (.istore_n 3, 1) := by decide +kernel
theorem dX10_throwsUntil_35 : decode cX10_throwsUntil 35 = .ok (.aload_n 0, 1) := by decide +kernel
theorem dX10_throwsUntil_36 : decode cX10_throwsUntil 36 = .ok (.getfield 19, 3) := by decide +kernel
theorem dX10_throwsUntil_39 : decode cX10_throwsUntil 39 = .ok (.getfield 127, 3) := by decide +kernel
theorem dX10_throwsUntil_42 : decode cX10_throwsUntil 42 = .ok (.iload_n 1, 1) := by decide +kernel
theorem dX10_throwsUntil_43 : decode cX10_throwsUntil 43 = .ok (.iload_n 3, 1) := by decide +kernel
theorem dX10_throwsUntil_44 : decode cX10_throwsUntil 44 = .ok (.invokevirtual 277, 3) := by decide +kernel
theorem dX10_throwsUntil_47 : decode cX10_throwsUntil 47 = .ok (.iload_n 2, 1) := by decide +kernel
theorem dX10_throwsUntil_48 : decode cX10_throwsUntil 48 = .ok (.if_icmp .ne 6, 3) := by decide +kernel
theorem dX10_throwsUntil_51 : decode cX10_throwsUntil 51 = .ok (.iload 4, 2) := by decide +kernel
theorem dX10_throwsUntil_53 : decode cX10_throwsUntil 53 = .ok (.ireturn, 1) := by decide +kernel
theorem dX10_throwsUntil_54 : decode cX10_throwsUntil 54 = .ok (.iinc 4 1, 3) := by decide +kernel
theorem dX10_throwsUntil_57 : decode cX10_throwsUntil 57 = .ok (.goto (-35), 3) := by decide +kernel
theorem dX10_throwsUntil_60 : decode cX10_throwsUntil 60 = .ok (.iconst (-1), 1) := by decide +kernel
theorem dX10_throwsUntil_61 : decode cX10_throwsUntil 61 = .ok (.ireturn, 1) := by decide +kernel
theorem dX10_scoreAfter_0 : decode cX10_scoreAfter 0 = .ok (.aload_n 0, 1) := by decide +kernel
theorem dX10_scoreAfter_1 : decode cX10_scoreAfter 1 = .ok (.iload_n 1, 1) := by decide +kernel
theorem dX10_scoreAfter_2 : decode cX10_scoreAfter 2 = .ok (.iload_n 2, 1) := by decide +kernel
theorem dX10_scoreAfter_3 : decode cX10_scoreAfter 3 = .ok (.invokevirtual 220, 3) := by decide +kernel
theorem dX10_scoreAfter_6 : decode cX10_scoreAfter 6 = .ok (.iload_n 3, 1) := by decide +kernel
theorem dX10_scoreAfter_7 : decode cX10_scoreAfter 7 = .ok (.iconst 0, 1) := by decide +kernel
theorem dX10_scoreAfter_8 : decode cX10_scoreAfter 8 = .ok (.bipush 50, 2) := by decide +kernel
theorem dX10_scoreAfter_10 : decode cX10_scoreAfter 10 = .ok (.invokestatic 91, 3) := by decide +kernel
theorem dX10_scoreAfter_13 : decode cX10_scoreAfter 13 = .ok (.aload_n 0, 1) := by decide +kernel
theorem dX10_scoreAfter_14 : decode cX10_scoreAfter 14 = .ok (.getfield 26, 3) := by decide +kernel
theorem dX10_scoreAfter_17 : decode cX10_scoreAfter 17 = .ok (.aload_n 0, 1) := by decide +kernel
theorem dX10_scoreAfter_18 : decode cX10_scoreAfter 18 = .ok (.getfield 19, 3) := by decide +kernel
theorem dX10_scoreAfter_21 : decode cX10_scoreAfter 21 = .ok (.iload_n 1, 1) := by decide +kernel
theorem dX10_scoreAfter_22 : decode cX10_scoreAfter 22 = .ok (.iload_n 2, 1) := by decide +kernel
theorem dX10_scoreAfter_23 : decode cX10_scoreAfter 23 = .ok (.invokevirtual 280, 3) := by decide +kernel
theorem dX10_scoreAfter_26 : decode cX10_scoreAfter 26 = .ok (.iconst 0, 1) := by decide +kernel
theorem dX10_scoreAfter_27 : decode cX10_scoreAfter 27 = .ok (.istore 4, 2) := by decide +kernel
theorem dX10_scoreAfter_29 : decode cX10_scoreAfter 29 = .ok (.iload 4, 2) := by decide +kernel
theorem dX10_scoreAfter_31 : decode cX10_scoreAfter 31 = .ok (.iload_n 3, 1) := by decide +kernel
theorem dX10_scoreAfter_32 : decode cX10_scoreAfter 32 = .ok (.if_icmp .ge 20, 3) := by decide +kernel
theorem dX10_scoreAfter_35 : decode cX10_scoreAfter 35 = .ok (.aload_n 0, 1) := by decide +kernel
theorem dX10_scoreAfter_36 : decode cX10_scoreAfter 36 = .ok (.getfield 26, 3) := by decide +kernel
theorem dX10_scoreAfter_39 : decode cX10_scoreAfter 39 = .ok (.aload_n 0, 1) := by decide +kernel
theorem dX10_scoreAfter_40 : decode cX10_scoreAfter 40 = .ok (.getfield 19, 3) := by decide +kernel
theorem dX10_scoreAfter_43 : decode cX10_scoreAfter 43 = .ok (.invokevirtual 284, 3) := by decide +kernel
theorem dX10_scoreAfter_46 : decode cX10_scoreAfter 46 = .ok (.iinc 4 1, 3) := by decide +kernel
theorem dX10_scoreAfter_49 : decode cX10_scoreAfter 49 = .ok (.goto (-20), 3) := by decide +kernel
theorem dX10_scoreAfter_52 : decode cX10_scoreAfter 52 = .ok (.aload_n 0, 1) := by decide +kernel
theorem dX10_scoreAfter_53 : decode cX10_scoreAfter 53 = .ok (.getfield 26, 3) := by decide +kernel
theorem dX10_scoreAfter_56 : decode cX10_scoreAfter 56 = .ok (.aload_n 0, 1) := by decide +kernel
theorem dX10_scoreAfter_57 : decode cX10_scoreAfter 57 = .ok (.getfield 19, 3) := by decide +kernel
theorem dX10_scoreAfter_60 : decode cX10_scoreAfter 60 = .ok (.invokevirtual 287, 3) := by decide +kernel
theorem dX10_scoreAfter_63 : decode cX10_scoreAfter 63 = .ok (.ireturn, 1) := by decide +kernel
theorem dX10_throwsUntilSuspicious_0 : decode cX10_throwsUntilSuspicious 0 = .ok (.aload_n 0, 1) := by decide +kernel
theorem dX10_throwsUntilSuspicious_1 : decode cX10_throwsUntilSuspicious 1 = .ok (.iload_n 1, 1) := by decide +kernel
theorem dX10_throwsUntilSuspicious_2 : decode cX10_throwsUntilSuspicious 2 = .ok (.iload_n 2, 1) := by decide +kernel
theorem dX10_throwsUntilSuspicious_3 : decode cX10_throwsUntilSuspicious 3 = .ok (.invokevirtual 220, 3) := by decide +kernel
theorem dX10_throwsUntilSuspicious_6 : decode cX10_throwsUntilSuspicious 6 = .ok (.aload_n 0, 1) := by decide +kernel
theorem dX10_throwsUntilSuspicious_7 : decode cX10_throwsUntilSuspicious 7 = .ok (.getfield 26, 3) := by decide +kernel
theorem dX10_throwsUntilSuspicious_10 : decode cX10_throwsUntilSuspicious 10 = .ok (.aload_n 0, 1) := by decide +kernel
theorem dX10_throwsUntilSuspicious_11 : decode cX10_throwsUntilSuspicious 11 = .ok (.getfield 19, 3) := by decide +kernel
theorem dX10_throwsUntilSuspicious_14 : decode cX10_throwsUntilSuspicious 14 = .ok (.iload_n 1, 1) := by decide +kernel
theorem dX10_throwsUntilSuspicious_15 : decode cX10_throwsUntilSuspicious 15 = .ok (.iload_n 2, 1) := by decide +kernel
theorem dX10_throwsUntilSuspicious_16 : decode cX10_throwsUntilSuspicious 16 = .ok (.invokevirtual 280, 3) := by decide +kernel
theorem dX10_throwsUntilSuspicious_19 : decode cX10_throwsUntilSuspicious 19 = .ok (.iconst 0, 1) := by decide +kernel
theorem dX10_throwsUntilSuspicious_20 : decode cX10_throwsUntilSuspicious 20 = .ok (.istore_n 3, 1) := by decide +kernel
theorem dX10_throwsUntilSuspicious_21 : decode cX10_throwsUntilSuspicious 21 = .ok (.iload_n 3, 1) := by decide +kernel
theorem dX10_throwsUntilSuspicious_22 : decode cX10_throwsUntilSuspicious 22 = .ok (.bipush 50, 2) := by decide +kernel
theorem dX10_throwsUntilSuspicious_24 : decode cX10_throwsUntilSuspicious 24 = .ok (.if_icmp .gt 50, 3) := by decide +kernel
theorem dX10_throwsUntilSuspicious_27 : decode cX10_throwsUntilSuspicious 27 = .ok (.aload_n 0, 1) := by decide +kernel
theorem dX10_throwsUntilSuspicious_28 : decode cX10_throwsUntilSuspicious 28 = .ok (.getfield 19, 3) := by decide +kernel
theorem dX10_throwsUntilSuspicious_31 : decode cX10_throwsUntilSuspicious 31 = .ok (.aload_n 0, 1) := by decide +kernel
theorem dX10_throwsUntilSuspicious_32 : decode cX10_throwsUntilSuspicious 32 = .ok (.getfield 26, 3) := by decide +kernel
theorem dX10_throwsUntilSuspicious_35 : decode cX10_throwsUntilSuspicious 35 = .ok (.invokevirtual 291, 3) := by decide +kernel
theorem dX10_throwsUntilSuspicious_38 : decode cX10_throwsUntilSuspicious 38 = .ok (.aload_n 0, 1) := by decide +kernel
theorem dX10_throwsUntilSuspicious_39 : decode cX10_throwsUntilSuspicious 39 = .ok (.getfield 26, 3) := by decide +kernel
theorem dX10_throwsUntilSuspicious_42 : decode cX10_throwsUntilSuspicious 42 = .ok (.aload_n 0, 1) := by decide +kernel
theorem dX10_throwsUntilSuspicious_43 : decode cX10_throwsUntilSuspicious 43 = .ok (.getfield 19, 3) := by decide +kernel
theorem dX10_throwsUntilSuspicious_46 : decode cX10_throwsUntilSuspicious 46 = .ok (.invokevirtual 287, 3) := by decide +kernel
theorem dX10_throwsUntilSuspicious_49 : decode cX10_throwsUntilSuspicious 49 = .ok (.invokevirtual 294, 3) := by decide +kernel
theorem dX10_throwsUntilSuspicious_52 : decode cX10_throwsUntilSuspicious 52 = .ok (.ifCond .eq 5, 3) := by decide +kernel
theorem dX10_throwsUntilSuspicious_55 : decode cX10_throwsUntilSuspicious 55 = .ok (.iload_n 3, 1) := by decide +kernel
theorem dX10_throwsUntilSuspicious_56 : decode cX10_throwsUntilSuspicious 56 = .ok (.ireturn, 1) := by decide +kernel
theorem dX10_throwsUntilSuspicious_57 : decode cX10_throwsUntilSuspicious 57 = .ok (.aload_n 0, 1) := by decide +kernel
theorem dX10_throwsUntilSuspicious_58 : decode cX10_throwsUntilSuspicious 58 = .ok (.getfield 26, 3) := by decide +kernel
theorem dX10_throwsUntilSuspicious_61 : decode cX10_throwsUntilSuspicious 61 = .ok (.aload_n 0, 1) := by decide +kernel
theorem dX10_throwsUntilSuspicious_62 : decode cX10_throwsUntilSuspicious 62 = .ok (.getfield 19, 3) := by decide +kernel
theorem dX10_throwsUntilSuspicious_65 : decode cX10_throwsUntilSuspicious 65 = .ok (.invokevirtual 284, 3) := by decide +kernel
theorem dX10_throwsUntilSuspicious_68 : decode cX10_throwsUntilSuspicious 68 = .ok (.iinc 3 1, 3) := by decide +kernel
theorem dX10_throwsUntilSuspicious_71 : decode cX10_throwsUntilSuspicious 71 = .ok (.goto (-50), 3) := by decide +kernel
theorem dX10_throwsUntilSuspicious_74 : decode cX10_throwsUntilSuspicious 74 = .ok (.iconst (-1), 1) := by decide +kernel
theorem dX10_throwsUntilSuspicious_75 : decode cX10_throwsUntilSuspicious 75 = .ok (.ireturn, 1) := by decide +kernel
theorem dX10_penanceNow_0 : decode cX10_penanceNow 0 = .ok (.aload_n 0, 1) := by decide +kernel
theorem dX10_penanceNow_1 : decode cX10_penanceNow 1 = .ok (.getfield 19, 3) := by decide +kernel
theorem dX10_penanceNow_4 : decode cX10_penanceNow 4 = .ok (.invokevirtual 298, 3) := by decide +kernel
theorem dX10_penanceNow_7 : decode cX10_penanceNow 7 = .ok (.ireturn, 1) := by decide +kernel
theorem dX10_frequencyDifference_0 : decode cX10_frequencyDifference 0 = .ok (.aload_n 0, 1) := by decide +kernel
theorem dX10_frequencyDifference_1 : decode cX10_frequencyDifference 1 = .ok (.getfield 19, 3) := by decide +kernel
theorem dX10_frequencyDifference_4 : decode cX10_frequencyDifference 4 = .ok (.getfield 103, 3) := by decide +kernel
theorem dX10_frequencyDifference_7 : decode cX10_frequencyDifference 7 = .ok (.invokevirtual 301, 3) := by decide +kernel
theorem dX10_frequencyDifference_10 : decode cX10_frequencyDifference 10 = .ok (.aload_n 0, 1) := by decide +kernel
theorem dX10_frequencyDifference_11 : decode cX10_frequencyDifference 11 = .ok (.getfield 19, 3) := by decide +kernel
theorem dX10_frequencyDifference_14 : decode cX10_frequencyDifference 14 = .ok (.getfield 103, 3) := by decide +kernel
theorem dX10_frequencyDifference_17 : decode cX10_frequencyDifference 17 = .ok (.getfield 107, 3) := by decide +kernel
theorem dX10_frequencyDifference_20 : decode cX10_frequencyDifference 20 = .ok (.isub, 1) := by decide +kernel
theorem dX10_frequencyDifference_21 : decode cX10_frequencyDifference 21 = .ok (.ireturn, 1) := by decide +kernel
theorem dX10_totalDifference_0 : decode cX10_totalDifference 0 = .ok (.iconst 0, 1) := by decide +kernel
theorem dX10_totalDifference_1 : decode cX10_totalDifference 1 = .ok (.istore_n 1, 1) := by decide +kernel
theorem dX10_totalDifference_2 : decode cX10_totalDifference 2 = .ok (.iconst 0, 1) := by decide +kernel
theorem dX10_totalDifference_3 : decode cX10_totalDifference 3 = .ok (.istore_n 2, 1) := by decide +kernel
theorem dX10_totalDifference_4 : decode cX10_totalDifference 4 = .ok (.iload_n 2, 1) := by decide +kernel
theorem dX10_totalDifference_5 : decode cX10_totalDifference 5 = .ok (.aload_n 0, 1) := by decide +kernel
theorem dX10_totalDifference_6 : decode cX10_totalDifference 6 = .ok (.getfield 19, 3) := by decide +kernel
theorem dX10_totalDifference_9 : decode cX10_totalDifference 9 = .ok (.getfield 134, 3) := by decide +kernel
theorem dX10_totalDifference_12 : decode cX10_totalDifference 12 = .ok (.getfield 138, 3) := by decide +kernel
theorem dX10_totalDifference_15 : decode cX10_totalDifference 15 = .ok (.if_icmp .ge 23, 3) := by decide +kernel
theorem dX10_totalDifference_18 : decode cX10_totalDifference 18 = .ok (.iload_n 1, 1) := by decide +kernel
theorem dX10_totalDifference_19 : decode cX10_totalDifference 19 = .ok (.aload_n 0, 1) := by decide +kernel
theorem dX10_totalDifference_20 : decode cX10_totalDifference 20 = .ok (.getfield 19, 3) := by decide +kernel
theorem dX10_totalDifference_23 : decode cX10_totalDifference 23 = .ok (.getfield 103, 3) := by decide +kernel
theorem dX10_totalDifference_26 : decode cX10_totalDifference 26 = .ok (.iload_n 2, 1) := by decide +kernel
theorem dX10_totalDifference_27 : decode cX10_totalDifference 27 = .ok (.invokevirtual 205, 3) := by decide +kernel
theorem dX10_totalDifference_30 : decode cX10_totalDifference 30 = .ok (.iadd, 1) := by decide +kernel
theorem dX10_totalDifference_31 : decode cX10_totalDifference 31 = .ok (.istore_n 1, 1) := by decide +kernel
theorem dX10_totalDifference_32 : decode cX10_totalDifference 32 = .ok (.iinc 2 1, 3) := by decide +kernel
theorem dX10_totalDifference_35 : decode cX10_totalDifference 35 = .ok (.goto (-31), 3) := by decide +kernel
theorem dX10_totalDifference_38 : decode cX10_totalDifference 38 = .ok (.iload_n 1, 1) := by decide +kernel
theorem dX10_totalDifference_39 : decode cX10_totalDifference 39 = .ok (.aload_n 0, 1) := by decide +kernel
theorem dX10_totalDifference_40 : decode cX10_totalDifference 40 = .ok (.getfield 19, 3) := by decide +kernel
theorem dX10_totalDifference_43 : decode cX10_totalDifference 43 = .ok (.getfield 103, 3) := by decide +kernel
theorem dX10_totalDifference_46 : decode cX10_totalDifference 46 = .ok (.invokevirtual 304, 3) := by decide +kernel
theorem dX10_totalDifference_49 : decode cX10_totalDifference 49 = .ok (.isub, 1) := by decide +kernel
theorem dX10_totalDifference_50 : decode cX10_totalDifference 50 = .ok (.ireturn, 1) := by decide +kernel
theorem dX10_fairShare_0 : decode cX10_fairShare 0 = .ok (.aload_n 0, 1) := by decide +kernel
theorem dX10_fairShare_1 : decode cX10_fairShare 1 = .ok (.getfield 19, 3) := by decide +kernel
theorem dX10_fairShare_4 : decode cX10_fairShare 4 = .ok (.getfield 103, 3) := by decide +kernel
theorem dX10_fairShare_7 : decode cX10_fairShare 7 = .ok (.getfield 107, 3) := by decide +kernel
theorem dX10_fairShare_10 : decode cX10_fairShare 10 = .ok (.istore_n 1, 1) := by decide +kernel
theorem dX10_fairShare_11 : decode cX10_fairShare 11 = .ok (.iload_n 1, 1) := by decide +kernel
theorem dX10_fairShare_12 : decode cX10_fairShare 12 = .ok (.ifCond .ne 5, 3) := by decide +kernel
theorem dX10_fairShare_15 : decode cX10_fairShare 15 = .ok (.fconst 0, 1) := by decide +kernel
theorem dX10_fairShare_16 : decode cX10_fairShare 16 = .ok (.freturn, 1) := by decide +kernel
theorem dX10_fairShare_17 : decode cX10_fairShare 17 = .ok (.aload_n 0, 1) := by decide +kernel
theorem dX10_fairShare_18 : decode cX10_fairShare 18 = .ok (.getfield 19, 3) := by decide +kernel
theorem dX10_fairShare_21 : decode cX10_fairShare 21 = .ok (.getfield 103, 3) := by decide +kernel
theorem dX10_fairShare_24 : decode cX10_fairShare 24 = .ok (.invokevirtual 307, 3) := by decide +kernel
theorem dX10_fairShare_27 : decode cX10_fairShare 27 = .ok (.i2f, 1) := by decide +kernel
theorem dX10_fairShare_28 : decode cX10_fairShare 28 = .ok (.iload_n 1, 1) := by decide +kernel
theorem dX10_fairShare_29 : decode cX10_fairShare 29 = .ok (.i2f, 1) := by decide +kernel
theorem dX10_fairShare_30 : decode cX10_fairShare 30 = .ok (.fdiv, 1) := by decide +kernel
theorem dX10_fairShare_31 : decode cX10_fairShare 31 = .ok (.freturn, 1) := by decide +kernel
theorem dX10_throwDie_0 : decode cX10_throwDie 0 = .ok (.aload_n 0, 1) := by decide +kernel
theorem dX10_throwDie_1 : decode cX10_throwDie 1 = .ok (.iload_n 1, 1) := by decide +kernel
theorem dX10_throwDie_2 : decode cX10_throwDie 2 = .ok (.iload_n 2, 1) := by decide +kernel
theorem dX10_throwDie_3 : decode cX10_throwDie 3 = .ok (.invokevirtual 220, 3) := by decide +kernel
theorem dX10_throwDie_6 : decode cX10_throwDie 6 = .ok (.iload_n 3, 1) := by decide +kernel
theorem dX10_throwDie_7 : decode cX10_throwDie 7 = .ok (.iconst 1, 1) := by decide +kernel
theorem dX10_throwDie_8 : decode cX10_throwDie 8 = .ok (.bipush 50, 2) := by decide +kernel
theorem dX10_throwDie_10 : decode cX10_throwDie 10 = .ok (.invokestatic 91, 3) := by decide +kernel
theorem dX10_throwDie_13 : decode cX10_throwDie 13 = .ok (.aload_n 0, 1) := by decide +kernel
theorem dX10_throwDie_14 : decode cX10_throwDie 14 = .ok (.getfield 19, 3) := by decide +kernel
theorem dX10_throwDie_17 : decode cX10_throwDie 17 = .ok (.getfield 103, 3) := by decide +kernel
theorem dX10_throwDie_20 : decode cX10_throwDie 20 = .ok (.getfield 107, 3) := by decide +kernel
theorem dX10_throwDie_23 : decode cX10_throwDie 23 = .ok (.iload_n 3, 1) := by decide +kernel
theorem dX10_throwDie_24 : decode cX10_throwDie 24 = .ok (.iadd, 1) := by decide +kernel
theorem dX10_throwDie_25 : decode cX10_throwDie 25 = .ok (.sipush 300, 3) := by decide +kernel
theorem dX10_throwDie_28 : decode cX10_throwDie 28 = .ok (.if_icmp .le 14, 3) := by decide +kernel
theorem dX10_throwDie_31 : decode cX10_throwDie 31 = .ok (.new 82, 3) := by decide +kernel
theorem dX10_throwDie_34 : decode cX10_throwDie 34 = .ok (.dup, 1) := by decide +kernel
theorem dX10_throwDie_35 : decode cX10_throwDie 35 = .ok (.ldc_w 310, 3) := by decide +kernel
theorem dX10_throwDie_38 : decode cX10_throwDie 38 = .ok (.invokespecial 86, 3) := by decide +kernel
theorem dX10_throwDie_41 : decode cX10_throwDie 41 = .ok (.athrow, 1) := by decide +kernel
theorem dX10_throwDie_42 : decode cX10_throwDie 42 = .ok (.aload_n 0, 1) := by decide +kernel
theorem dX10_throwDie_43 : decode cX10_throwDie 43 = .ok (.getfield 33, 3) := by decide +kernel
theorem dX10_throwDie_46 : decode cX10_throwDie 46 = .ok (.aload_n 0, 1) := by decide +kernel
theorem dX10_throwDie_47 : decode cX10_throwDie 47 = .ok (.getfield 19, 3) := by decide +kernel
theorem dX10_throwDie_50 : decode cX10_throwDie 50 = .ok (.invokevirtual 100, 3) := by decide +kernel
theorem dX10_throwDie_53 : decode cX10_throwDie 53 = .ok (.aload_n 0, 1) := by decide +kernel
theorem dX10_throwDie_54 : decode cX10_throwDie 54 = .ok (.getfield 19, 3) := by decide +kernel
theorem dX10_throwDie_57 : decode cX10_throwDie 57 = .ok (.iload_n 1, 1) := by decide +kernel
theorem dX10_throwDie_58 : decode cX10_throwDie 58 = .ok (.iload_n 2, 1) := by decide +kernel
theorem dX10_throwDie_59 : decode cX10_throwDie 59 = .ok (.invokestatic 223, 3) := by decide +kernel
theorem dX10_throwDie_62 : decode cX10_throwDie 62 = .ok (.iload_n 3, 1) := by decide +kernel
theorem dX10_throwDie_63 : decode cX10_throwDie 63 = .ok (.iconst 0, 1) := by decide +kernel
theorem dX10_throwDie_64 : decode cX10_throwDie 64 = .ok (.invokevirtual 312, 3) := by decide +kernel
theorem dX10_throwDie_67 : decode cX10_throwDie 67 = .ok (.ireturn, 1) := by decide +kernel
theorem dX10_audit_0 : decode cX10_audit 0 = .ok (.aload_n 0, 1) := by decide +kernel
theorem dX10_audit_1 : decode cX10_audit 1 = .ok (.getfield 33, 3) := by decide +kernel
theorem dX10_audit_4 : decode cX10_audit 4 = .ok (.aload_n 0, 1) := by decide +kernel
theorem dX10_audit_5 : decode cX10_audit 5 = .ok (.getfield 19, 3) := by decide +kernel
theorem dX10_audit_8 : decode cX10_audit 8 = .ok (.invokevirtual 100, 3) := by decide +kernel
theorem dX10_audit_11 : decode cX10_audit 11 = .ok (.aload_n 0, 1) := by decide +kernel
theorem dX10_audit_12 : decode cX10_audit 12 = .ok (.getfield 19, 3) := by decide +kernel
theorem dX10_audit_15 : decode cX10_audit 15 = .ok (.invokevirtual 316, 3) := by decide +kernel
theorem dX10_audit_18 : decode cX10_audit 18 = .ok (.ireturn, 1) := by decide +kernel
theorem dX10_absolve_0 : decode cX10_absolve 0 = .ok (.aload_n 0, 1) := by decide +kernel
theorem dX10_absolve_1 : decode cX10_absolve 1 = .ok (.getfield 19, 3) := by decide +kernel
theorem dX10_absolve_4 : decode cX10_absolve 4 = .ok (.getfield 255, 3) := by decide +kernel
theorem dX10_absolve_7 : decode cX10_absolve 7 = .ok (.getfield 259, 3) := by decide +kernel
theorem dX10_absolve_10 : decode cX10_absolve 10 = .ok (.ifCond .ne 14, 3) := by decide +kernel
theorem dX10_absolve_13 : decode cX10_absolve 13 = .ok (.new 82, 3) := by decide +kernel
theorem dX10_absolve_16 : decode cX10_absolve 16 = .ok (.dup, 1) := by decide +kernel
theorem dX10_absolve_17 : decode cX10_absolve 17 = .ok (.ldc_w 319, 3) := by decide +kernel
theorem dX10_absolve_20 : decode cX10_absolve 20 = .ok (.invokespecial 86, 3) := by decide +kernel
theorem dX10_absolve_23 : decode cX10_absolve 23 = .ok (.athrow, 1) := by decide +kernel
theorem dX10_absolve_24 : decode cX10_absolve 24 = .ok (.aload_n 0, 1) := by decide +kernel
theorem dX10_absolve_25 : decode cX10_absolve 25 = .ok (.getfield 33, 3) := by decide +kernel
theorem dX10_absolve_28 : decode cX10_absolve 28 = .ok (.aload_n 0, 1) := by decide +kernel
theorem dX10_absolve_29 : decode cX10_absolve 29 = .ok (.getfield 19, 3) := by decide +kernel
theorem dX10_absolve_32 : decode cX10_absolve 32 = .ok (.invokevirtual 100, 3) := by decide +kernel
theorem dX10_absolve_35 : decode cX10_absolve 35 = .ok (.aload_n 0, 1) := by decide +kernel
theorem dX10_absolve_36 : decode cX10_absolve 36 = .ok (.getfield 19, 3) := by decide +kernel
theorem dX10_absolve_39 : decode cX10_absolve 39 = .ok (.invokevirtual 321, 3) := by decide +kernel
theorem dX10_absolve_42 : decode cX10_absolve 42 = .ok (.ireturn, 1) := by decide +kernel
theorem dX10_forgive_0 : decode cX10_forgive 0 = .ok (.aload_n 0, 1) := by decide +kernel
theorem dX10_forgive_1 : decode cX10_forgive 1 = .ok (.iload_n 1, 1) := by decide +kernel
theorem dX10_forgive_2 : decode cX10_forgive 2 = .ok (.invokevirtual 170, 3) := by decide +kernel
theorem dX10_forgive_5 : decode cX10_forgive 5 = .ok (.aload_n 0, 1) := by decide +kernel
theorem dX10_forgive_6 : decode cX10_forgive 6 = .ok (.getfield 33, 3) := by decide +kernel
theorem dX10_forgive_9 : decode cX10_forgive 9 = .ok (.aload_n 0, 1) := by decide +kernel
theorem dX10_forgive_10 : decode cX10_forgive 10 = .ok (.getfield 19, 3) := by decide +kernel
theorem dX10_forgive_13 : decode cX10_forgive 13 = .ok (.invokevirtual 100, 3) := by decide +kernel
theorem dX10_forgive_16 : decode cX10_forgive 16 = .ok (.aload_n 0, 1) := by decide +kernel
theorem dX10_forgive_17 : decode cX10_forgive 17 = .ok (.getfield 19, 3) := by decide +kernel
theorem dX10_forgive_20 : decode cX10_forgive 20 = .ok (.getfield 255, 3) := by decide +kernel
theorem dX10_forgive_23 : decode cX10_forgive 23 = .ok (.iload_n 1, 1) := by decide +kernel
theorem dX10_forgive_24 : decode cX10_forgive 24 = .ok (.invokevirtual 324, 3) := by decide +kernel
theorem dX10_forgive_27 : decode cX10_forgive 27 = .ok (.ireturn, 1) := by decide +kernel
theorem dX10_setWeight_0 : decode cX10_setWeight 0 = .ok (.aload_n 0, 1) := by decide +kernel
theorem dX10_setWeight_1 : decode cX10_setWeight 1 = .ok (.iload_n 1, 1) := by decide +kernel
theorem dX10_setWeight_2 : decode cX10_setWeight 2 = .ok (.invokevirtual 141, 3) := by decide +kernel
theorem dX10_setWeight_5 : decode cX10_setWeight 5 = .ok (.aload_n 0, 1) := by decide +kernel
theorem dX10_setWeight_6 : decode cX10_setWeight 6 = .ok (.iload_n 1, 1) := by decide +kernel
theorem dX10_setWeight_7 : decode cX10_setWeight 7 = .ok (.iload_n 2, 1) := by decide +kernel
theorem dX10_setWeight_8 : decode cX10_setWeight 8 = .ok (.invokevirtual 148, 3) := by decide +kernel
theorem dX10_setWeight_11 : decode cX10_setWeight 11 = .ok (.iload_n 3, 1) := by decide +kernel
theorem dX10_setWeight_12 : decode cX10_setWeight 12 = .ok (.iconst 0, 1) := by decide +kernel
theorem dX10_setWeight_13 : decode cX10_setWeight 13 = .ok (.bipush 9, 2) := by decide +kernel
theorem dX10_setWeight_15 : decode cX10_setWeight 15 = .ok (.invokestatic 91, 3) := by decide +kernel
theorem dX10_setWeight_18 : decode cX10_setWeight 18 = .ok (.aload_n 0, 1) := by decide +kernel
theorem dX10_setWeight_19 : decode cX10_setWeight 19 = .ok (.getfield 19, 3) := by decide +kernel
theorem dX10_setWeight_22 : decode cX10_setWeight 22 = .ok (.getfield 127, 3) := by decide +kernel
theorem dX10_setWeight_25 : decode cX10_setWeight 25 = .ok (.iload_n 1, 1) := by decide +kernel
theorem dX10_setWeight_26 : decode cX10_setWeight 26 = .ok (.iload_n 2, 1) := by decide +kernel
theorem dX10_setWeight_27 : decode cX10_setWeight 27 = .ok (.invokevirtual 152, 3) := by decide +kernel
theorem dX10_setWeight_30 : decode cX10_setWeight 30 = .ok (.istore 4, 2) := by decide +kernel
theorem dX10_setWeight_32 : decode cX10_setWeight 32 = .ok (.aload_n 0, 1) := by decide +kernel
theorem dX10_setWeight_33 : decode cX10_setWeight 33 = .ok (.getfield 19, 3) := by decide +kernel
theorem dX10_setWeight_36 : decode cX10_setWeight 36 = .ok (.getfield 127, 3) := by decide +kernel
theorem dX10_setWeight_39 : decode cX10_setWeight 39 = .ok (.iload_n 1, 1) := by decide +kernel
theorem dX10_setWeight_40 : decode cX10_setWeight 40 = .ok (.invokevirtual 327, 3) := by decide +kernel
theorem dX10_setWeight_43 : decode cX10_setWeight 43 = .ok (.iload 4, 2) := by decide +kernel
theorem dX10_setWeight_45 : decode cX10_setWeight 45 = .ok (.isub, 1) := by decide +kernel
theorem dX10_setWeight_46 : decode cX10_setWeight 46 = .ok (.iload_n 3, 1) := by decide +kernel
theorem dX10_setWeight_47 : decode cX10_setWeight 47 = .ok (.iadd, 1) := by decide +kernel
theorem dX10_setWeight_48 : decode cX10_setWeight 48 = .ok (.ifCond .ne 14, 3) := by decide +kernel
theorem dX10_setWeight_51 : decode cX10_setWeight 51 = .ok (.new 82, 3) := by decide +kernel
theorem dX10_setWeight_54 : decode cX10_setWeight 54 = .ok (.dup, 1) := by decide +kernel
theorem dX10_setWeight_55 : decode cX10_setWeight 55 = .ok (.ldc_w 330, 3) := by decide +kernel
theorem dX10_setWeight_58 : decode cX10_setWeight 58 = .ok (.invokespecial 86, 3) := by decide +kernel
theorem dX10_setWeight_61 : decode cX10_setWeight 61 = .ok (.athrow, 1) := by decide +kernel
theorem dX10_setWeight_62 : decode cX10_setWeight 62 = .ok (.aload_n 0, 1) := by decide +kernel
theorem dX10_setWeight_63 : decode cX10_setWeight 63 = .ok (.getfield 33, 3) := by decide +kernel
theorem dX10_setWeight_66 : decode cX10_setWeight 66 = .ok (.aload_n 0, 1) := by decide +kernel
theorem dX10_setWeight_67 : decode cX10_setWeight 67 = .ok (.getfield 19, 3) := by decide +kernel
theorem dX10_setWeight_70 : decode cX10_setWeight 70 = .ok (.invokevirtual 100, 3) := by decide +kernel
theorem dX10_setWeight_73 : decode cX10_setWeight 73 = .ok (.aload_n 0, 1) := by decide +kernel
theorem dX10_setWeight_74 : decode cX10_setWeight 74 = .ok (.getfield 19, 3) := by decide +kernel
theorem dX10_setWeight_77 : decode cX10_setWeight 77 = .ok (.getfield 127, 3) := by decide +kernel
theorem dX10_setWeight_80 : decode cX10_setWeight 80 = .ok (.iload_n 1, 1) := by decide +kernel
theorem dX10_setWeight_81 : decode cX10_setWeight 81 = .ok (.iload_n 2, 1) := by decide +kernel
theorem dX10_setWeight_82 : decode cX10_setWeight 82 = .ok (.iload_n 3, 1) := by decide +kernel
theorem dX10_setWeight_83 : decode cX10_setWeight 83 = .ok (.invokevirtual 332, 3) := by decide +kernel
theorem dX10_setWeight_86 : decode cX10_setWeight 86 = .ok (.iload 4, 2) := by decide +kernel
theorem dX10_setWeight_88 : decode cX10_setWeight 88 = .ok (.ireturn, 1) := by decide +kernel
theorem dX10_setSeed_0 : decode cX10_setSeed 0 = .ok (.iload_n 1, 1) := by decide +kernel
theorem dX10_setSeed_1 : decode cX10_setSeed 1 = .ok (.iconst 0, 1) := by decide +kernel
theorem dX10_setSeed_2 : decode cX10_setSeed 2 = .ok (.ldc_w 335, 3) := by decide +kernel
theorem dX10_setSeed_5 : decode cX10_setSeed 5 = .ok (.invokestatic 91, 3) := by decide +kernel
theorem dX10_setSeed_8 : decode cX10_setSeed 8 = .ok (.aload_n 0, 1) := by decide +kernel
theorem dX10_setSeed_9 : decode cX10_setSeed 9 = .ok (.getfield 33, 3) := by decide +kernel
theorem dX10_setSeed_12 : decode cX10_setSeed 12 = .ok (.aload_n 0, 1) := by decide +kernel
theorem dX10_setSeed_13 : decode cX10_setSeed 13 = .ok (.getfield 19, 3) := by decide +kernel
theorem dX10_setSeed_16 : decode cX10_setSeed 16 = .ok (.invokevirtual 100, 3) := by decide +kernel
theorem dX10_setSeed_19 : decode cX10_setSeed 19 = .ok (.aload_n 0, 1) := by decide +kernel
theorem dX10_setSeed_20 : decode cX10_setSeed 20 = .ok (.getfield 19, 3) := by decide +kernel
theorem dX10_setSeed_23 : decode cX10_setSeed 23 = .ok (.getfield 118, 3) := by decide +kernel
theorem dX10_setSeed_26 : decode cX10_setSeed 26 = .ok (.istore_n 2, 1) := by decide +kernel
theorem dX10_setSeed_27 : decode cX10_setSeed 27 = .ok (.aload_n 0, 1) := by decide +kernel
theorem dX10_setSeed_28 : decode cX10_setSeed 28 = .ok (.getfield 19, 3) := by decide +kernel
theorem dX10_setSeed_31 : decode cX10_setSeed 31 = .ok (.iload_n 1, 1) := by decide +kernel
theorem dX10_setSeed_32 : decode cX10_setSeed 32 = .ok (.putfield 118, 3) := by decide +kernel
theorem dX10_setSeed_35 : decode cX10_setSeed 35 = .ok (.iload_n 2, 1) := by decide +kernel
theorem dX10_setSeed_36 : decode cX10_setSeed 36 = .ok (.ireturn, 1) := by decide +kernel
theorem dX10_setLimits_0 : decode cX10_setLimits 0 = .ok (.iload_n 1, 1) := by decide +kernel
theorem dX10_setLimits_1 : decode cX10_setLimits 1 = .ok (.iconst 1, 1) := by decide +kernel
theorem dX10_setLimits_2 : decode cX10_setLimits 2 = .ok (.bipush 99, 2) := by decide +kernel
theorem dX10_setLimits_4 : decode cX10_setLimits 4 = .ok (.invokestatic 91, 3) := by decide +kernel
theorem dX10_setLimits_7 : decode cX10_setLimits 7 = .ok (.iload_n 2, 1) := by decide +kernel
theorem dX10_setLimits_8 : decode cX10_setLimits 8 = .ok (.iconst 0, 1) := by decide +kernel
theorem dX10_setLimits_9 : decode cX10_setLimits 9 = .ok (.sipush 999, 3) := by decide +kernel
theorem dX10_setLimits_12 : decode cX10_setLimits 12 = .ok (.invokestatic 91, 3) := by decide +kernel
theorem dX10_setLimits_15 : decode cX10_setLimits 15 = .ok (.aload_n 0, 1) := by decide +kernel
theorem dX10_setLimits_16 : decode cX10_setLimits 16 = .ok (.getfield 33, 3) := by decide +kernel
theorem dX10_setLimits_19 : decode cX10_setLimits 19 = .ok (.aload_n 0, 1) := by decide +kernel
theorem dX10_setLimits_20 : decode cX10_setLimits 20 = .ok (.getfield 19, 3) := by decide +kernel
theorem dX10_setLimits_23 : decode cX10_setLimits 23 = .ok (.invokevirtual 100, 3) := by decide +kernel
theorem dX10_setLimits_26 : decode cX10_setLimits 26 = .ok (.aload_n 0, 1) := by decide +kernel
theorem dX10_setLimits_27 : decode cX10_setLimits 27 = .ok (.getfield 19, 3) := by decide +kernel
theorem dX10_setLimits_30 : decode cX10_setLimits 30 = .ok (.iload_n 1, 1) := by decide +kernel
theorem dX10_setLimits_31 : decode cX10_setLimits 31 = .ok (.putfield 121, 3) := by decide +kernel
theorem dX10_setLimits_34 : decode cX10_setLimits 34 = .ok (.aload_n 0, 1) := by decide +kernel
theorem dX10_setLimits_35 : decode cX10_setLimits 35 = .ok (.getfield 19, 3) := by decide +kernel
theorem dX10_setLimits_38 : decode cX10_setLimits 38 = .ok (.iload_n 2, 1) := by decide +kernel
theorem dX10_setLimits_39 : decode cX10_setLimits 39 = .ok (.putfield 124, 3) := by decide +kernel
theorem dX10_setLimits_42 : decode cX10_setLimits 42 = .ok (.aload_n 0, 1) := by decide +kernel
theorem dX10_setLimits_43 : decode cX10_setLimits 43 = .ok (.getfield 19, 3) := by decide +kernel
theorem dX10_setLimits_46 : decode cX10_setLimits 46 = .ok (.invokevirtual 248, 3) := by decide +kernel
theorem dX10_setLimits_49 : decode cX10_setLimits 49 = .ok (.ireturn, 1) := by decide +kernel
theorem dX10_writeRecords_0 : decode cX10_writeRecords 0 = .ok (.aload_n 0, 1) := by decide +kernel
theorem dX10_writeRecords_1 : decode cX10_writeRecords 1 = .ok (.getfield 12, 3) := by decide +kernel
theorem dX10_writeRecords_4 : decode cX10_writeRecords 4 = .ok (.iconst 0, 1) := by decide +kernel
theorem dX10_writeRecords_5 : decode cX10_writeRecords 5 = .ok (.invokevirtual 60, 3) := by decide +kernel
theorem dX10_writeRecords_8 : decode cX10_writeRecords 8 = .ok (.iconst 0, 1) := by decide +kernel
theorem dX10_writeRecords_9 : decode cX10_writeRecords 9 = .ok (.istore_n 1, 1) := by decide +kernel
theorem dX10_writeRecords_10 : decode cX10_writeRecords 10 = .ok (.iload_n 1, 1) := by decide +kernel
theorem dX10_writeRecords_11 : decode cX10_writeRecords 11 = .ok (.aload_n 0, 1) := by decide +kernel
theorem dX10_writeRecords_12 : decode cX10_writeRecords 12 = .ok (.getfield 19, 3) := by decide +kernel
theorem dX10_writeRecords_15 : decode cX10_writeRecords 15 = .ok (.getfield 134, 3) := by decide +kernel
theorem dX10_writeRecords_18 : decode cX10_writeRecords 18 = .ok (.getfield 138, 3) := by decide +kernel
theorem dX10_writeRecords_21 : decode cX10_writeRecords 21 = .ok (.if_icmp .ge 24, 3) := by decide +kernel
theorem dX10_writeRecords_24 : decode cX10_writeRecords 24 = .ok (.aload_n 0, 1) := by decide +kernel
theorem dX10_writeRecords_25 : decode cX10_writeRecords 25 = .ok (.aload_n 0, 1) := by decide +kernel
theorem dX10_writeRecords_26 : decode cX10_writeRecords 26 = .ok (.getfield 19, 3) := by decide +kernel
theorem dX10_writeRecords_29 : decode cX10_writeRecords 29 = .ok (.getfield 134, 3) := by decide +kernel
theorem dX10_writeRecords_32 : decode cX10_writeRecords 32 = .ok (.iload_n 1, 1) := by decide +kernel
theorem dX10_writeRecords_33 : decode cX10_writeRecords 33 = .ok (.invokevirtual 336, 3) := by decide +kernel
theorem dX10_writeRecords_36 : decode cX10_writeRecords 36 = .ok (.invokevirtual 339, 3) := by decide +kernel
theorem dX10_writeRecords_39 : decode cX10_writeRecords 39 = .ok (.iinc 1 1, 3) := by decide +kernel
theorem dX10_writeRecords_42 : decode cX10_writeRecords 42 = .ok (.goto (-32), 3) := by decide +kernel
theorem dX10_writeRecords_45 : decode cX10_writeRecords 45 = .ok (.aload_n 0, 1) := by decide +kernel
theorem dX10_writeRecords_46 : decode cX10_writeRecords 46 = .ok (.getfield 12, 3) := by decide +kernel
theorem dX10_writeRecords_49 : decode cX10_writeRecords 49 = .ok (.getfield 78, 3) := by decide +kernel
theorem dX10_writeRecords_52 : decode cX10_writeRecords 52 = .ok (.ireturn, 1) := by decide +kernel
theorem dX10_writeFaces_0 : decode cX10_writeFaces 0 = .ok (.aload_n 0, 1) := by decide +kernel
theorem dX10_writeFaces_1 : decode cX10_writeFaces 1 = .ok (.iload_n 1, 1) := by decide +kernel
theorem dX10_writeFaces_2 : decode cX10_writeFaces 2 = .ok (.invokevirtual 170, 3) := by decide +kernel
theorem dX10_writeFaces_5 : decode cX10_writeFaces 5 = .ok (.aload_n 0, 1) := by decide +kernel
theorem dX10_writeFaces_6 : decode cX10_writeFaces 6 = .ok (.getfield 12, 3) := by decide +kernel
theorem dX10_writeFaces_9 : decode cX10_writeFaces 9 = .ok (.iconst 0, 1) := by decide +kernel
theorem dX10_writeFaces_10 : decode cX10_writeFaces 10 = .ok (.invokevirtual 60, 3) := by decide +kernel
theorem dX10_writeFaces_13 : decode cX10_writeFaces 13 = .ok (.iconst 0, 1) := by decide +kernel
theorem dX10_writeFaces_14 : decode cX10_writeFaces 14 = .ok (.istore_n 2, 1) := by decide +kernel
theorem dX10_writeFaces_15 : decode cX10_writeFaces 15 = .ok (.iload_n 2, 1) := by decide +kernel
theorem dX10_writeFaces_16 : decode cX10_writeFaces 16 = .ok (.aload_n 0, 1) := by decide +kernel
theorem dX10_writeFaces_17 : decode cX10_writeFaces 17 = .ok (.getfield 19, 3) := by decide +kernel
theorem dX10_writeFaces_20 : decode cX10_writeFaces 20 = .ok (.getfield 103, 3) := by decide +kernel
theorem dX10_writeFaces_23 : decode cX10_writeFaces 23 = .ok (.getfield 107, 3) := by decide +kernel
theorem dX10_writeFaces_26 : decode cX10_writeFaces 26 = .ok (.if_icmp .ge 54, 3) := by decide +kernel
theorem dX10_writeFaces_29 : decode cX10_writeFaces 29 = .ok (.aload_n 0, 1) := by decide +kernel
theorem dX10_writeFaces_30 : decode cX10_writeFaces 30 = .ok (.getfield 19, 3) := by decide +kernel
theorem dX10_writeFaces_33 : decode cX10_writeFaces 33 = .ok (.getfield 103, 3) := by decide +kernel
theorem dX10_writeFaces_36 : decode cX10_writeFaces 36 = .ok (.iload_n 2, 1) := by decide +kernel
theorem dX10_writeFaces_37 : decode cX10_writeFaces 37 = .ok (.invokevirtual 187, 3) := by decide +kernel
theorem dX10_writeFaces_40 : decode cX10_writeFaces 40 = .ok (.invokestatic 190, 3) := by decide +kernel
theorem dX10_writeFaces_43 : decode cX10_writeFaces 43 = .ok (.iload_n 1, 1) := by decide +kernel
theorem dX10_writeFaces_44 : decode cX10_writeFaces 44 = .ok (.if_icmp .ne 30, 3) := by decide +kernel
theorem dX10_writeFaces_47 : decode cX10_writeFaces 47 = .ok (.aload_n 0, 1) := by decide +kernel
theorem dX10_writeFaces_48 : decode cX10_writeFaces 48 = .ok (.getfield 12, 3) := by decide +kernel
theorem dX10_writeFaces_51 : decode cX10_writeFaces 51 = .ok (.bipush 44, 2) := by decide +kernel
theorem dX10_writeFaces_53 : decode cX10_writeFaces 53 = .ok (.invokevirtual 342, 3) := by decide +kernel
theorem dX10_writeFaces_56 : decode cX10_writeFaces 56 = .ok (.aload_n 0, 1) := by decide +kernel
theorem dX10_writeFaces_57 : decode cX10_writeFaces 57 = .ok (.getfield 12, 3) := by decide +kernel
theorem dX10_writeFaces_60 : decode cX10_writeFaces 60 = .ok (.aload_n 0, 1) := by decide +kernel
theorem dX10_writeFaces_61 : decode cX10_writeFaces 61 = .ok (.getfield 19, 3) := by decide +kernel
theorem dX10_writeFaces_64 : decode cX10_writeFaces 64 = .ok (.getfield 103, 3) := by decide +kernel
theorem dX10_writeFaces_67 : decode cX10_writeFaces 67 = .ok (.iload_n 2, 1) := by decide +kernel
theorem dX10_writeFaces_68 : decode cX10_writeFaces 68 = .ok (.invokevirtual 196, 3) := by decide +kernel
theorem dX10_writeFaces_71 : decode cX10_writeFaces 71 = .ok (.invokevirtual 345, 3) := by decide +kernel
theorem dX10_writeFaces_74 : decode cX10_writeFaces 74 = .ok (.iinc 2 1, 3) := by decide +kernel
theorem dX10_writeFaces_77 : decode cX10_writeFaces 77 = .ok (.goto (-62), 3) := by decide +kernel
theorem dX10_writeFaces_80 : decode cX10_writeFaces 80 = .ok (.aload_n 0, 1) := by decide +kernel
theorem dX10_writeFaces_81 : decode cX10_writeFaces 81 = .ok (.getfield 12, 3) := by decide +kernel
theorem dX10_writeFaces_84 : decode cX10_writeFaces 84 = .ok (.getfield 78, 3) := by decide +kernel
theorem dX10_writeFaces_87 : decode cX10_writeFaces 87 = .ok (.ireturn, 1) := by decide +kernel
theorem dX10_outputByte_0 : decode cX10_outputByte 0 = .ok (.iload_n 1, 1) := by decide +kernel
theorem dX10_outputByte_1 : decode cX10_outputByte 1 = .ok (.ifCond .lt 14, 3) := by decide +kernel
theorem dX10_outputByte_4 : decode cX10_outputByte 4 = .ok (.iload_n 1, 1) := by decide +kernel
theorem dX10_outputByte_5 : decode cX10_outputByte 5 = .ok (.aload_n 0, 1) := by decide +kernel
theorem dX10_outputByte_6 : decode cX10_outputByte 6 = .ok (.getfield 12, 3) := by decide +kernel
theorem dX10_outputByte_9 : decode cX10_outputByte 9 = .ok (.getfield 78, 3) := by decide +kernel
theorem dX10_outputByte_12 : decode cX10_outputByte 12 = .ok (.if_icmp .lt 14, 3) := by decide +kernel
theorem dX10_outputByte_15 : decode cX10_outputByte 15 = .ok (.new 176, 3) := by decide +kernel
theorem dX10_outputByte_18 : decode cX10_outputByte 18 = .ok (.dup, 1) := by decide +kernel
theorem dX10_outputByte_19 : decode cX10_outputByte 19 = .ok (.ldc_w 348, 3) := by decide +kernel
theorem dX10_outputByte_22 : decode cX10_outputByte 22 = .ok (.invokespecial 180, 3) := by decide +kernel
theorem dX10_outputByte_25 : decode cX10_outputByte 25 = .ok (.athrow, 1) := by decide +kernel
theorem dX10_outputByte_26 : decode cX10_outputByte 26 = .ok (.aload_n 0, 1) := by decide +kernel
theorem dX10_outputByte_27 : decode cX10_outputByte 27 = .ok (.getfield 12, 3) := by decide +kernel
theorem dX10_outputByte_30 : decode cX10_outputByte 30 = .ok (.iload_n 1, 1) := by decide +kernel
theorem dX10_outputByte_31 : decode cX10_outputByte 31 = .ok (.invokevirtual 350, 3) := by decide +kernel
theorem dX10_outputByte_34 : decode cX10_outputByte 34 = .ok (.ireturn, 1) := by decide +kernel
theorem dX10_save_0 : decode cX10_save 0 = .ok (.iload_n 1, 1) := by decide +kernel
theorem dX10_save_1 : decode cX10_save 1 = .ok (.invokestatic 353, 3) := by decide +kernel
theorem dX10_save_4 : decode cX10_save 4 = .ok (.iload_n 1, 1) := by decide +kernel
theorem dX10_save_5 : decode cX10_save 5 = .ok (.ifCond .lt 43, 3) := by decide +kernel
theorem dX10_save_8 : decode cX10_save 8 = .ok (.iload_n 1, 1) := by decide +kernel
theorem dX10_save_9 : decode cX10_save 9 = .ok (.aload_n 0, 1) := by decide +kernel
theorem dX10_save_10 : decode cX10_save 10 = .ok (.getfield 37, 3) := by decide +kernel
theorem dX10_save_13 : decode cX10_save 13 = .ok (.arraylength, 1) := by decide +kernel
theorem dX10_save_14 : decode cX10_save 14 = .ok (.if_icmp .ge 34, 3) := by decide +kernel
theorem dX10_save_17 : decode cX10_save 17 = .ok (.aload_n 0, 1) := by decide +kernel
theorem dX10_save_18 : decode cX10_save 18 = .ok (.getfield 37, 3) := by decide +kernel
theorem dX10_save_21 : decode cX10_save 21 = .ok (.iload_n 1, 1) := by decide +kernel
theorem dX10_save_22 : decode cX10_save 22 = .ok (.aaload, 1) := by decide +kernel
theorem dX10_save_23 : decode cX10_save 23 = .ok (.ifnull 25, 3) := by decide +kernel
theorem dX10_save_26 : decode cX10_save 26 = .ok (.aload_n 0, 1) := by decide +kernel
theorem dX10_save_27 : decode cX10_save 27 = .ok (.getfield 37, 3) := by decide +kernel
theorem dX10_save_30 : decode cX10_save 30 = .ok (.iload_n 1, 1) := by decide +kernel
theorem dX10_save_31 : decode cX10_save 31 = .ok (.aaload, 1) := by decide +kernel
theorem dX10_save_32 : decode cX10_save 32 = .ok (.aload_n 0, 1) := by decide +kernel
theorem dX10_save_33 : decode cX10_save 33 = .ok (.getfield 19, 3) := by decide +kernel
theorem dX10_save_36 : decode cX10_save 36 = .ok (.invokevirtual 74, 3) := by decide +kernel
theorem dX10_save_39 : decode cX10_save 39 = .ok (.aload_n 0, 1) := by decide +kernel
theorem dX10_save_40 : decode cX10_save 40 = .ok (.getfield 41, 3) := by decide +kernel
theorem dX10_save_43 : decode cX10_save 43 = .ok (.iload_n 1, 1) := by decide +kernel
theorem dX10_save_44 : decode cX10_save 44 = .ok (.iconst 1, 1) := by decide +kernel
theorem dX10_save_45 : decode cX10_save 45 = .ok (.invokestatic 356, 3) := by decide +kernel
theorem dX10_save_48 : decode cX10_save 48 = .ok (.aload_n 0, 1) := by decide +kernel
theorem dX10_save_49 : decode cX10_save 49 = .ok (.getfield 19, 3) := by decide +kernel
theorem dX10_save_52 : decode cX10_save 52 = .ok (.getfield 103, 3) := by decide +kernel
theorem dX10_save_55 : decode cX10_save 55 = .ok (.getfield 107, 3) := by decide +kernel
theorem dX10_save_58 : decode cX10_save 58 = .ok (.ireturn, 1) := by decide +kernel
theorem dX10_restore_0 : decode cX10_restore 0 = .ok (.iload_n 1, 1) := by decide +kernel
theorem dX10_restore_1 : decode cX10_restore 1 = .ok (.invokestatic 353, 3) := by decide +kernel
theorem dX10_restore_4 : decode cX10_restore 4 = .ok (.aload_n 0, 1) := by decide +kernel
theorem dX10_restore_5 : decode cX10_restore 5 = .ok (.getfield 41, 3) := by decide +kernel
theorem dX10_restore_8 : decode cX10_restore 8 = .ok (.iload_n 1, 1) := by decide +kernel
theorem dX10_restore_9 : decode cX10_restore 9 = .ok (.invokestatic 232, 3) := by decide +kernel
theorem dX10_restore_12 : decode cX10_restore 12 = .ok (.ifCond .ne 14, 3) := by decide +kernel
theorem dX10_restore_15 : decode cX10_restore 15 = .ok (.new 82, 3) := by decide +kernel
theorem dX10_restore_18 : decode cX10_restore 18 = .ok (.dup, 1) := by decide +kernel
theorem dX10_restore_19 : decode cX10_restore 19 = .ok (.ldc_w 360, 3) := by decide +kernel
theorem dX10_restore_22 : decode cX10_restore 22 = .ok (.invokespecial 86, 3) := by decide +kernel
theorem dX10_restore_25 : decode cX10_restore 25 = .ok (.athrow, 1) := by decide +kernel
theorem dX10_restore_26 : decode cX10_restore 26 = .ok (.aload_n 0, 1) := by decide +kernel
theorem dX10_restore_27 : decode cX10_restore 27 = .ok (.getfield 33, 3) := by decide +kernel
theorem dX10_restore_30 : decode cX10_restore 30 = .ok (.aload_n 0, 1) := by decide +kernel
theorem dX10_restore_31 : decode cX10_restore 31 = .ok (.getfield 19, 3) := by decide +kernel
theorem dX10_restore_34 : decode cX10_restore 34 = .ok (.invokevirtual 100, 3) := by decide +kernel
theorem dX10_restore_37 : decode cX10_restore 37 = .ok (.iload_n 1, 1) := by decide +kernel
theorem dX10_restore_38 : decode cX10_restore 38 = .ok (.ifCond .lt 34, 3) := by decide +kernel
theorem dX10_restore_41 : decode cX10_restore 41 = .ok (.iload_n 1, 1) := by decide +kernel
theorem dX10_restore_42 : decode cX10_restore 42 = .ok (.aload_n 0, 1) := by decide +kernel
theorem dX10_restore_43 : decode cX10_restore 43 = .ok (.getfield 37, 3) := by decide +kernel
theorem dX10_restore_46 : decode cX10_restore 46 = .ok (.arraylength, 1) := by decide +kernel
theorem dX10_restore_47 : decode cX10_restore 47 = .ok (.if_icmp .ge 25, 3) := by decide +kernel
theorem dX10_restore_50 : decode cX10_restore 50 = .ok (.aload_n 0, 1) := by decide +kernel
theorem dX10_restore_51 : decode cX10_restore 51 = .ok (.getfield 37, 3) := by decide +kernel
theorem dX10_restore_54 : decode cX10_restore 54 = .ok (.iload_n 1, 1) := by decide +kernel
theorem dX10_restore_55 : decode cX10_restore 55 = .ok (.aaload, 1) := by decide +kernel
theorem dX10_restore_56 : decode cX10_restore 56 = .ok (.ifnull 16, 3) := by decide +kernel
theorem dX10_restore_59 : decode cX10_restore 59 = .ok (.aload_n 0, 1) := by decide +kernel
theorem dX10_restore_60 : decode cX10_restore 60 = .ok (.getfield 19, 3) := by decide +kernel
theorem dX10_restore_63 : decode cX10_restore 63 = .ok (.aload_n 0, 1) := by decide +kernel
theorem dX10_restore_64 : decode cX10_restore 64 = .ok (.getfield 37, 3) := by decide +kernel
theorem dX10_restore_67 : decode cX10_restore 67 = .ok (.iload_n 1, 1) := by decide +kernel
theorem dX10_restore_68 : decode cX10_restore 68 = .ok (.aaload, 1) := by decide +kernel
theorem dX10_restore_69 : decode cX10_restore 69 = .ok (.invokevirtual 74, 3) := by decide +kernel
theorem dX10_restore_72 : decode cX10_restore 72 = .ok (.aload_n 0, 1) := by decide +kernel
theorem dX10_restore_73 : decode cX10_restore 73 = .ok (.getfield 19, 3) := by decide +kernel
theorem dX10_restore_76 : decode cX10_restore 76 = .ok (.getfield 103, 3) := by decide +kernel
theorem dX10_restore_79 : decode cX10_restore 79 = .ok (.getfield 107, 3) := by decide +kernel
theorem dX10_restore_82 : decode cX10_restore 82 = .ok (.ireturn, 1) := by decide +kernel
theorem dX10_undo_0 : decode cX10_undo 0 = .ok (.aload_n 0, 1) := by decide +kernel
theorem dX10_undo_1 : decode cX10_undo 1 = .ok (.getfield 33, 3) := by decide +kernel
theorem dX10_undo_4 : decode cX10_undo 4 = .ok (.getfield 362, 3) := by decide +kernel
theorem dX10_undo_7 : decode cX10_undo 7 = .ok (.ifCond .ne 14, 3) := by decide +kernel
theorem dX10_undo_10 : decode cX10_undo 10 = .ok (.new 82, 3) := by decide +kernel
theorem dX10_undo_13 : decode cX10_undo 13 = .ok (.dup, 1) := by decide +kernel
theorem dX10_undo_14 : decode cX10_undo 14 = .ok (.ldc_w 365, 3) := by decide +kernel
theorem dX10_undo_17 : decode cX10_undo 17 = .ok (.invokespecial 86, 3) := by decide +kernel
theorem dX10_undo_20 : decode cX10_undo 20 = .ok (.athrow, 1) := by decide +kernel
theorem dX10_undo_21 : decode cX10_undo 21 = .ok (.aload_n 0, 1) := by decide +kernel
theorem dX10_undo_22 : decode cX10_undo 22 = .ok (.getfield 33, 3) := by decide +kernel
theorem dX10_undo_25 : decode cX10_undo 25 = .ok (.aload_n 0, 1) := by decide +kernel
theorem dX10_undo_26 : decode cX10_undo 26 = .ok (.getfield 19, 3) := by decide +kernel
theorem dX10_undo_29 : decode cX10_undo 29 = .ok (.invokevirtual 367, 3) := by decide +kernel
theorem dX10_undo_32 : decode cX10_undo 32 = .ok (.aload_n 0, 1) := by decide +kernel
theorem dX10_undo_33 : decode cX10_undo 33 = .ok (.getfield 33, 3) := by decide +kernel
theorem dX10_undo_36 : decode cX10_undo 36 = .ok (.getfield 362, 3) := by decide +kernel
theorem dX10_undo_39 : decode cX10_undo 39 = .ok (.ireturn, 1) := by decide +kernel
theorem dX10_undoDepth_0 : decode cX10_undoDepth 0 = .ok (.aload_n 0, 1) := by decide +kernel
theorem dX10_undoDepth_1 : decode cX10_undoDepth 1 = .ok (.getfield 33, 3) := by decide +kernel
theorem dX10_undoDepth_4 : decode cX10_undoDepth 4 = .ok (.getfield 362, 3) := by decide +kernel
theorem dX10_undoDepth_7 : decode cX10_undoDepth 7 = .ok (.ireturn, 1) := by decide +kernel
theorem dX10_writeRecordOf_0 : decode cX10_writeRecordOf 0 = .ok (.aload_n 0, 1) := by decide +kernel
theorem dX10_writeRecordOf_1 : decode cX10_writeRecordOf 1 = .ok (.getfield 19, 3) := by decide +kernel
theorem dX10_writeRecordOf_4 : decode cX10_writeRecordOf 4 = .ok (.getfield 103, 3) := by decide +kernel
theorem dX10_writeRecordOf_7 : decode cX10_writeRecordOf 7 = .ok (.iload_n 1, 1) := by decide +kernel
theorem dX10_writeRecordOf_8 : decode cX10_writeRecordOf 8 = .ok (.invokevirtual 202, 3) := by decide +kernel
theorem dX10_writeRecordOf_11 : decode cX10_writeRecordOf 11 = .ok (.ifCond .ne 4, 3) := by decide +kernel
theorem dX10_writeRecordOf_14 : decode cX10_writeRecordOf 14 = .ok (.return_, 1) := by decide +kernel
theorem dX10_writeRecordOf_15 : decode cX10_writeRecordOf 15 = .ok (.aload_n 0, 1) := by decide +kernel
theorem dX10_writeRecordOf_16 : decode cX10_writeRecordOf 16 = .ok (.getfield 12, 3) := by decide +kernel
theorem dX10_writeRecordOf_19 : decode cX10_writeRecordOf 19 = .ok (.bipush 32, 2) := by decide +kernel
theorem dX10_writeRecordOf_21 : decode cX10_writeRecordOf 21 = .ok (.invokevirtual 342, 3) := by decide +kernel
theorem dX10_writeRecordOf_24 : decode cX10_writeRecordOf 24 = .ok (.iconst 0, 1) := by decide +kernel
theorem dX10_writeRecordOf_25 : decode cX10_writeRecordOf 25 = .ok (.istore_n 2, 1) := by decide +kernel
theorem dX10_writeRecordOf_26 : decode cX10_writeRecordOf 26 = .ok (.iload_n 2, 1) := by decide +kernel
theorem dX10_writeRecordOf_27 : decode cX10_writeRecordOf 27 = .ok (.aload_n 0, 1) := by decide +kernel
theorem dX10_writeRecordOf_28 : decode cX10_writeRecordOf 28 = .ok (.getfield 19, 3) := by decide +kernel
theorem dX10_writeRecordOf_31 : decode cX10_writeRecordOf 31 = .ok (.getfield 134, 3) := by decide +kernel
theorem dX10_writeRecordOf_34 : decode cX10_writeRecordOf 34 = .ok (.iload_n 1, 1) := by decide +kernel
theorem dX10_writeRecordOf_35 : decode cX10_writeRecordOf 35 = .ok (.invokevirtual 173, 3) := by decide +kernel
theorem dX10_writeRecordOf_38 : decode cX10_writeRecordOf 38 = .ok (.if_icmp .ge 28, 3) := by decide +kernel
theorem dX10_writeRecordOf_41 : decode cX10_writeRecordOf 41 = .ok (.aload_n 0, 1) := by decide +kernel
theorem dX10_writeRecordOf_42 : decode cX10_writeRecordOf 42 = .ok (.getfield 12, 3) := by decide +kernel
theorem dX10_writeRecordOf_45 : decode cX10_writeRecordOf 45 = .ok (.aload_n 0, 1) := by decide +kernel
theorem dX10_writeRecordOf_46 : decode cX10_writeRecordOf 46 = .ok (.getfield 19, 3) := by decide +kernel
theorem dX10_writeRecordOf_49 : decode cX10_writeRecordOf 49 = .ok (.getfield 134, 3) := by decide +kernel
theorem dX10_writeRecordOf_52 : decode cX10_writeRecordOf 52 = .ok (.iload_n 1, 1) := by decide +kernel
theorem dX10_writeRecordOf_53 : decode cX10_writeRecordOf 53 = .ok (.iload_n 2, 1) := by decide +kernel
theorem dX10_writeRecordOf_54 : decode cX10_writeRecordOf 54 = .ok (.invokevirtual 181, 3) := by decide +kernel
theorem dX10_writeRecordOf_57 : decode cX10_writeRecordOf 57 = .ok (.invokevirtual 370, 3) := by decide +kernel
theorem dX10_writeRecordOf_60 : decode cX10_writeRecordOf 60 = .ok (.iinc 2 1, 3) := by decide +kernel
theorem dX10_writeRecordOf_63 : decode cX10_writeRecordOf 63 = .ok (.goto (-37), 3) := by decide +kernel
theorem dX10_writeRecordOf_66 : decode cX10_writeRecordOf 66 = .ok (.aload_n 0, 1) := by decide +kernel
theorem dX10_writeRecordOf_67 : decode cX10_writeRecordOf 67 = .ok (.getfield 12, 3) := by decide +kernel
theorem dX10_writeRecordOf_70 : decode cX10_writeRecordOf 70 = .ok (.bipush 58, 2) := by decide +kernel
theorem dX10_writeRecordOf_72 : decode cX10_writeRecordOf 72 = .ok (.invokevirtual 370, 3) := by decide +kernel
theorem dX10_writeRecordOf_75 : decode cX10_writeRecordOf 75 = .ok (.aload_n 0, 1) := by decide +kernel
theorem dX10_writeRecordOf_76 : decode cX10_writeRecordOf 76 = .ok (.getfield 12, 3) := by decide +kernel
theorem dX10_writeRecordOf_79 : decode cX10_writeRecordOf 79 = .ok (.aload_n 0, 1) := by decide +kernel
theorem dX10_writeRecordOf_80 : decode cX10_writeRecordOf 80 = .ok (.getfield 19, 3) := by decide +kernel
theorem dX10_writeRecordOf_83 : decode cX10_writeRecordOf 83 = .ok (.getfield 103, 3) := by decide +kernel
theorem dX10_writeRecordOf_86 : decode cX10_writeRecordOf 86 = .ok (.iload_n 1, 1) := by decide +kernel
theorem dX10_writeRecordOf_87 : decode cX10_writeRecordOf 87 = .ok (.invokevirtual 205, 3) := by decide +kernel
theorem dX10_writeRecordOf_90 : decode cX10_writeRecordOf 90 = .ok (.invokevirtual 345, 3) := by decide +kernel
theorem dX10_writeRecordOf_93 : decode cX10_writeRecordOf 93 = .ok (.aload_n 0, 1) := by decide +kernel
theorem dX10_writeRecordOf_94 : decode cX10_writeRecordOf 94 = .ok (.getfield 19, 3) := by decide +kernel
theorem dX10_writeRecordOf_97 : decode cX10_writeRecordOf 97 = .ok (.getfield 255, 3) := by decide +kernel
theorem dX10_writeRecordOf_100 : decode cX10_writeRecordOf 100 = .ok (.iload_n 1, 1) := by decide +kernel
theorem dX10_writeRecordOf_101 : decode cX10_writeRecordOf 101 = .ok (.invokevirtual 271, 3) := by decide +kernel
theorem dX10_writeRecordOf_104 : decode cX10_writeRecordOf 104 = .ok (.ifCond .le 12, 3) := by decide +kernel
theorem dX10_writeRecordOf_107 : decode cX10_writeRecordOf 107 = .ok (.aload_n 0, 1) := by decide +kernel
theorem dX10_writeRecordOf_108 : decode cX10_writeRecordOf 108 = .ok (.getfield 12, 3) := by decide +kernel
theorem dX10_writeRecordOf_111 : decode cX10_writeRecordOf 111 = .ok (.bipush 33, 2) := by decide +kernel
theorem dX10_writeRecordOf_113 : decode cX10_writeRecordOf 113 = .ok (.invokevirtual 370, 3) := by decide +kernel
theorem dX10_writeRecordOf_116 : decode cX10_writeRecordOf 116 = .ok (.return_, 1) := by decide +kernel
theorem dX10_requireDie_0 : decode cX10_requireDie 0 = .ok (.iload_n 1, 1) := by decide +kernel
theorem dX10_requireDie_1 : decode cX10_requireDie 1 = .ok (.aload_n 0, 1) := by decide +kernel
theorem dX10_requireDie_2 : decode cX10_requireDie 2 = .ok (.getfield 19, 3) := by decide +kernel
theorem dX10_requireDie_5 : decode cX10_requireDie 5 = .ok (.getfield 127, 3) := by decide +kernel
theorem dX10_requireDie_8 : decode cX10_requireDie 8 = .ok (.getfield 131, 3) := by decide +kernel
theorem dX10_requireDie_11 : decode cX10_requireDie 11 = .ok (.invokestatic 373, 3) := by decide +kernel
theorem dX10_requireDie_14 : decode cX10_requireDie 14 = .ok (.return_, 1) := by decide +kernel
theorem dX10_requirePlayer_0 : decode cX10_requirePlayer 0 = .ok (.iload_n 1, 1) := by decide +kernel
theorem dX10_requirePlayer_1 : decode cX10_requirePlayer 1 = .ok (.aload_n 0, 1) := by decide +kernel
theorem dX10_requirePlayer_2 : decode cX10_requirePlayer 2 = .ok (.getfield 19, 3) := by decide +kernel
theorem dX10_requirePlayer_5 : decode cX10_requirePlayer 5 = .ok (.getfield 134, 3) := by decide +kernel
theorem dX10_requirePlayer_8 : decode cX10_requirePlayer 8 = .ok (.getfield 138, 3) := by decide +kernel
theorem dX10_requirePlayer_11 : decode cX10_requirePlayer 11 = .ok (.invokestatic 373, 3) := by decide +kernel
theorem dX10_requirePlayer_14 : decode cX10_requirePlayer 14 = .ok (.return_, 1) := by decide +kernel
theorem dX10_requirePair_0 : decode cX10_requirePair 0 = .ok (.aload_n 0, 1) := by decide +kernel
theorem dX10_requirePair_1 : decode cX10_requirePair 1 = .ok (.iload_n 1, 1) := by decide +kernel
theorem dX10_requirePair_2 : decode cX10_requirePair 2 = .ok (.invokevirtual 170, 3) := by decide +kernel
theorem dX10_requirePair_5 : decode cX10_requirePair 5 = .ok (.aload_n 0, 1) := by decide +kernel
theorem dX10_requirePair_6 : decode cX10_requirePair 6 = .ok (.iload_n 2, 1) := by decide +kernel
theorem dX10_requirePair_7 : decode cX10_requirePair 7 = .ok (.invokevirtual 141, 3) := by decide +kernel
theorem dX10_requirePair_10 : decode cX10_requirePair 10 = .ok (.return_, 1) := by decide +kernel
theorem dX10_requireThrow_0 : decode cX10_requireThrow 0 = .ok (.iload_n 1, 1) := by decide +kernel
theorem dX10_requireThrow_1 : decode cX10_requireThrow 1 = .ok (.aload_n 0, 1) := by decide +kernel
theorem dX10_requireThrow_2 : decode cX10_requireThrow 2 = .ok (.getfield 19, 3) := by decide +kernel
theorem dX10_requireThrow_5 : decode cX10_requireThrow 5 = .ok (.getfield 103, 3) := by decide +kernel
theorem dX10_requireThrow_8 : decode cX10_requireThrow 8 = .ok (.getfield 107, 3) := by decide +kernel
theorem dX10_requireThrow_11 : decode cX10_requireThrow 11 = .ok (.invokestatic 373, 3) := by decide +kernel
theorem dX10_requireThrow_14 : decode cX10_requireThrow 14 = .ok (.return_, 1) := by decide +kernel
theorem dX10_requireOffence_0 : decode cX10_requireOffence 0 = .ok (.iload_n 1, 1) := by decide +kernel
theorem dX10_requireOffence_1 : decode cX10_requireOffence 1 = .ok (.aload_n 0, 1) := by decide +kernel
theorem dX10_requireOffence_2 : decode cX10_requireOffence 2 = .ok (.getfield 19, 3) := by decide +kernel
theorem dX10_requireOffence_5 : decode cX10_requireOffence 5 = .ok (.getfield 255, 3) := by decide +kernel
theorem dX10_requireOffence_8 : decode cX10_requireOffence 8 = .ok (.getfield 259, 3) := by decide +kernel
theorem dX10_requireOffence_11 : decode cX10_requireOffence 11 = .ok (.invokestatic 373, 3) := by decide +kernel
theorem dX10_requireOffence_14 : decode cX10_requireOffence 14 = .ok (.return_, 1) := by decide +kernel
theorem dX10_requireFace_0 : decode cX10_requireFace 0 = .ok (.iload_n 2, 1) := by decide +kernel
theorem dX10_requireFace_1 : decode cX10_requireFace 1 = .ok (.iconst 1, 1) := by decide +kernel
theorem dX10_requireFace_2 : decode cX10_requireFace 2 = .ok (.aload_n 0, 1) := by decide +kernel
theorem dX10_requireFace_3 : decode cX10_requireFace 3 = .ok (.getfield 19, 3) := by decide +kernel
theorem dX10_requireFace_6 : decode cX10_requireFace 6 = .ok (.getfield 127, 3) := by decide +kernel
theorem dX10_requireFace_9 : decode cX10_requireFace 9 = .ok (.iload_n 1, 1) := by decide +kernel
theorem dX10_requireFace_10 : decode cX10_requireFace 10 = .ok (.invokevirtual 144, 3) := by decide +kernel
theorem dX10_requireFace_13 : decode cX10_requireFace 13 = .ok (.invokestatic 91, 3) := by decide +kernel
theorem dX10_requireFace_16 : decode cX10_requireFace 16 = .ok (.return_, 1) := by decide +kernel
theorem dX10_requireSlot_0 : decode cX10_requireSlot 0 = .ok (.iload_n 0, 1) := by decide +kernel
theorem dX10_requireSlot_1 : decode cX10_requireSlot 1 = .ok (.iconst 2, 1) := by decide +kernel
theorem dX10_requireSlot_2 : decode cX10_requireSlot 2 = .ok (.invokestatic 373, 3) := by decide +kernel
theorem dX10_requireSlot_5 : decode cX10_requireSlot 5 = .ok (.return_, 1) := by decide +kernel
theorem dX10_requireIndex_0 : decode cX10_requireIndex 0 = .ok (.iload_n 0, 1) := by decide +kernel
theorem dX10_requireIndex_1 : decode cX10_requireIndex 1 = .ok (.ifCond .lt 8, 3) := by decide +kernel
theorem dX10_requireIndex_4 : decode cX10_requireIndex 4 = .ok (.iload_n 0, 1) := by decide +kernel
theorem dX10_requireIndex_5 : decode cX10_requireIndex 5 = .ok (.iload_n 1, 1) := by decide +kernel
theorem dX10_requireIndex_6 : decode cX10_requireIndex 6 = .ok (.if_icmp .lt 14, 3) := by decide +kernel
theorem dX10_requireIndex_9 : decode cX10_requireIndex 9 = .ok (.new 376, 3) := by decide +kernel
theorem dX10_requireIndex_12 : decode cX10_requireIndex 12 = .ok (.dup, 1) := by decide +kernel
theorem dX10_requireIndex_13 : decode cX10_requireIndex 13 = .ok (.ldc_w 378, 3) := by decide +kernel
theorem dX10_requireIndex_16 : decode cX10_requireIndex 16 = .ok (.invokespecial 380, 3) := by decide +kernel
theorem dX10_requireIndex_19 : decode cX10_requireIndex 19 = .ok (.athrow, 1) := by decide +kernel
theorem dX10_requireIndex_20 : decode cX10_requireIndex 20 = .ok (.return_, 1) := by decide +kernel
theorem dX10_requireRange_0 : decode cX10_requireRange 0 = .ok (.iload_n 0, 1) := by decide +kernel
theorem dX10_requireRange_1 : decode cX10_requireRange 1 = .ok (.iload_n 1, 1) := by decide +kernel
theorem dX10_requireRange_2 : decode cX10_requireRange 2 = .ok (.if_icmp .lt 8, 3) := by decide +kernel
theorem dX10_requireRange_5 : decode cX10_requireRange 5 = .ok (.iload_n 0, 1) := by decide +kernel
theorem dX10_requireRange_6 : decode cX10_requireRange 6 = .ok (.iload_n 2, 1) := by decide +kernel
theorem dX10_requireRange_7 : decode cX10_requireRange 7 = .ok (.if_icmp .le 14, 3) := by decide +kernel
theorem dX10_requireRange_10 : decode cX10_requireRange 10 = .ok (.new 95, 3) := by decide +kernel
theorem dX10_requireRange_13 : decode cX10_requireRange 13 = .ok (.dup, 1) := by decide +kernel
theorem dX10_requireRange_14 : decode cX10_requireRange 14 = .ok (.ldc_w 381, 3) := by decide +kernel
theorem dX10_requireRange_17 : decode cX10_requireRange 17 = .ok (.invokespecial 99, 3) := by decide +kernel
theorem dX10_requireRange_20 : decode cX10_requireRange 20 = .ok (.athrow, 1) := by decide +kernel
theorem dX10_requireRange_21 : decode cX10_requireRange 21 = .ok (.return_, 1) := by decide +kernel
theorem dX10_at_0 : decode cX10_at 0 = .ok (.iload_n 1, 1) := by decide +kernel
theorem dX10_at_1 : decode cX10_at 1 = .ok (.ifCond .lt 15, 3) := by decide +kernel
theorem dX10_at_4 : decode cX10_at 4 = .ok (.iload_n 1, 1) := by decide +kernel
theorem dX10_at_5 : decode cX10_at 5 = .ok (.aload_n 0, 1) := by decide +kernel
theorem dX10_at_6 : decode cX10_at 6 = .ok (.arraylength, 1) := by decide +kernel
theorem dX10_at_7 : decode cX10_at 7 = .ok (.if_icmp .ge 9, 3) := by decide +kernel
theorem dX10_at_10 : decode cX10_at 10 = .ok (.aload_n 0, 1) := by decide +kernel
theorem dX10_at_11 : decode cX10_at 11 = .ok (.iload_n 1, 1) := by decide +kernel
theorem dX10_at_12 : decode cX10_at 12 = .ok (.iaload, 1) := by decide +kernel
theorem dX10_at_13 : decode cX10_at 13 = .ok (.goto 4, 3) := by decide +kernel
theorem dX10_at_16 : decode cX10_at 16 = .ok (.iconst 0, 1) := by decide +kernel
theorem dX10_at_17 : decode cX10_at 17 = .ok (.ireturn, 1) := by decide +kernel
theorem dX10_put_0 : decode cX10_put 0 = .ok (.iload_n 1, 1) := by decide +kernel
theorem dX10_put_1 : decode cX10_put 1 = .ok (.ifCond .lt 13, 3) := by decide +kernel
theorem dX10_put_4 : decode cX10_put 4 = .ok (.iload_n 1, 1) := by decide +kernel
theorem dX10_put_5 : decode cX10_put 5 = .ok (.aload_n 0, 1) := by decide +kernel
theorem dX10_put_6 : decode cX10_put 6 = .ok (.arraylength, 1) := by decide +kernel
theorem dX10_put_7 : decode cX10_put 7 = .ok (.if_icmp .ge 7, 3) := by decide +kernel
theorem dX10_put_10 : decode cX10_put 10 = .ok (.aload_n 0, 1) := by decide +kernel
theorem dX10_put_11 : decode cX10_put 11 = .ok (.iload_n 1, 1) := by decide +kernel
theorem dX10_put_12 : decode cX10_put 12 = .ok (.iload_n 2, 1) := by decide +kernel
theorem dX10_put_13 : decode cX10_put 13 = .ok (.iastore, 1) := by decide +kernel
theorem dX10_put_14 : decode cX10_put 14 = .ok (.return_, 1) := by decide +kernel
theorem dX10_copyRow_0 : decode cX10_copyRow 0 = .ok (.aload_n 0, 1) := by decide +kernel
theorem dX10_copyRow_1 : decode cX10_copyRow 1 = .ok (.arraylength, 1) := by decide +kernel
theorem dX10_copyRow_2 : decode cX10_copyRow 2 = .ok (.aload_n 1, 1) := by decide +kernel
theorem dX10_copyRow_3 : decode cX10_copyRow 3 = .ok (.arraylength, 1) := by decide +kernel
theorem dX10_copyRow_4 : decode cX10_copyRow 4 = .ok (.if_icmp .ne 12, 3) := by decide +kernel
theorem dX10_copyRow_7 : decode cX10_copyRow 7 = .ok (.aload_n 0, 1) := by decide +kernel
theorem dX10_copyRow_8 : decode cX10_copyRow 8 = .ok (.iconst 0, 1) := by decide +kernel
theorem dX10_copyRow_9 : decode cX10_copyRow 9 = .ok (.aload_n 1, 1) := by decide +kernel
theorem dX10_copyRow_10 : decode cX10_copyRow 10 = .ok (.iconst 0, 1) := by decide +kernel
theorem dX10_copyRow_11 : decode cX10_copyRow 11 = .ok (.aload_n 1, 1) := by decide +kernel
theorem dX10_copyRow_12 : decode cX10_copyRow 12 = .ok (.arraylength, 1) := by decide +kernel
theorem dX10_copyRow_13 : decode cX10_copyRow 13 = .ok (.invokestatic 383, 3) := by decide +kernel
theorem dX10_copyRow_16 : decode cX10_copyRow 16 = .ok (.return_, 1) := by decide +kernel
theorem dX10_sumOf_0 : decode cX10_sumOf 0 = .ok (.iconst 0, 1) := by decide +kernel
theorem dX10_sumOf_1 : decode cX10_sumOf 1 = .ok (.istore_n 3, 1) := by decide +kernel
theorem dX10_sumOf_2 : decode cX10_sumOf 2 = .ok (.iconst 0, 1) := by decide +kernel
theorem dX10_sumOf_3 : decode cX10_sumOf 3 = .ok (.istore 4, 2) := by decide +kernel
theorem dX10_sumOf_5 : decode cX10_sumOf 5 = .ok (.iload 4, 2) := by decide +kernel
theorem dX10_sumOf_7 : decode cX10_sumOf 7 = .ok (.iload_n 2, 1) := by decide +kernel
theorem dX10_sumOf_8 : decode cX10_sumOf 8 = .ok (.if_icmp .ge 38, 3) := by decide +kernel
theorem dX10_sumOf_11 : decode cX10_sumOf 11 = .ok (.iload_n 1, 1) := by decide +kernel
theorem dX10_sumOf_12 : decode cX10_sumOf 12 = .ok (.iload 4, 2) := by decide +kernel
theorem dX10_sumOf_14 : decode cX10_sumOf 14 = .ok (.iadd, 1) := by decide +kernel
theorem dX10_sumOf_15 : decode cX10_sumOf 15 = .ok (.istore 5, 2) := by decide +kernel
theorem dX10_sumOf_17 : decode cX10_sumOf 17 = .ok (.iload_n 3, 1) := by decide +kernel
theorem dX10_sumOf_18 : decode cX10_sumOf 18 = .ok (.iload 5, 2) := by decide +kernel
theorem dX10_sumOf_20 : decode cX10_sumOf 20 = .ok (.ifCond .lt 17, 3) := by decide +kernel
theorem dX10_sumOf_23 : decode cX10_sumOf 23 = .ok (.iload 5, 2) := by decide +kernel
theorem dX10_sumOf_25 : decode cX10_sumOf 25 = .ok (.aload_n 0, 1) := by decide +kernel
theorem dX10_sumOf_26 : decode cX10_sumOf 26 = .ok (.arraylength, 1) := by decide +kernel
theorem dX10_sumOf_27 : decode cX10_sumOf 27 = .ok (.if_icmp .ge 10, 3) := by decide +kernel
theorem dX10_sumOf_30 : decode cX10_sumOf 30 = .ok (.aload_n 0, 1) := by decide +kernel
theorem dX10_sumOf_31 : decode cX10_sumOf 31 = .ok (.iload 5, 2) := by decide +kernel
theorem dX10_sumOf_33 : decode cX10_sumOf 33 = .ok (.iaload, 1) := by decide +kernel
theorem dX10_sumOf_34 : decode cX10_sumOf 34 = .ok (.goto 4, 3) := by decide +kernel
theorem dX10_sumOf_37 : decode cX10_sumOf 37 = .ok (.iconst 0, 1) := by decide +kernel
theorem dX10_sumOf_38 : decode cX10_sumOf 38 = .ok (.iadd, 1) := by decide +kernel
theorem dX10_sumOf_39 : decode cX10_sumOf 39 = .ok (.istore_n 3, 1) := by decide +kernel
theorem dX10_sumOf_40 : decode cX10_sumOf 40 = .ok (.iinc 4 1, 3) := by decide +kernel
theorem dX10_sumOf_43 : decode cX10_sumOf 43 = .ok (.goto (-38), 3) := by decide +kernel
theorem dX10_sumOf_46 : decode cX10_sumOf 46 = .ok (.iload_n 3, 1) := by decide +kernel
theorem dX10_sumOf_47 : decode cX10_sumOf 47 = .ok (.ireturn, 1) := by decide +kernel
theorem dX10_greatestCell_0 : decode cX10_greatestCell 0 = .ok (.iconst (-1), 1) := by decide +kernel
theorem dX10_greatestCell_1 : decode cX10_greatestCell 1 = .ok (.istore_n 3, 1) := by decide +kernel
theorem dX10_greatestCell_2 : decode cX10_greatestCell 2 = .ok (.iconst 0, 1) := by decide +kernel
theorem dX10_greatestCell_3 : decode cX10_greatestCell 3 = .ok (.istore 4, 2) := by decide +kernel
theorem dX10_greatestCell_5 : decode cX10_greatestCell 5 = .ok (.iconst 0, 1) := by decide +kernel
theorem dX10_greatestCell_6 : decode cX10_greatestCell 6 = .ok (.istore 5, 2) := by decide +kernel
theorem dX10_greatestCell_8 : decode cX10_greatestCell 8 = .ok (.iload 5, 2) := by decide +kernel
theorem dX10_greatestCell_10 : decode cX10_greatestCell 10 = .ok (.iload_n 2, 1) := by decide +kernel
theorem dX10_greatestCell_11 : decode cX10_greatestCell 11 = .ok (.if_icmp .ge 35, 3) := by decide +kernel
theorem dX10_greatestCell_14 : decode cX10_greatestCell 14 = .ok (.aload_n 0, 1) := by decide +kernel
theorem dX10_greatestCell_15 : decode cX10_greatestCell 15 = .ok (.iload_n 1, 1) := by decide +kernel
theorem dX10_greatestCell_16 : decode cX10_greatestCell 16 = .ok (.iload 5, 2) := by decide +kernel
theorem dX10_greatestCell_18 : decode cX10_greatestCell 18 = .ok (.iadd, 1) := by decide +kernel
theorem dX10_greatestCell_19 : decode cX10_greatestCell 19 = .ok (.invokestatic 232, 3) := by decide +kernel
theorem dX10_greatestCell_22 : decode cX10_greatestCell 22 = .ok (.istore 6, 2) := by decide +kernel
theorem dX10_greatestCell_24 : decode cX10_greatestCell 24 = .ok (.iload 6, 2) := by decide +kernel
theorem dX10_greatestCell_26 : decode cX10_greatestCell 26 = .ok (.iload 4, 2) := by decide +kernel
theorem dX10_greatestCell_28 : decode cX10_greatestCell 28 = .ok (.if_icmp .le 12, 3) := by decide +kernel
theorem dX10_greatestCell_31 : decode cX10_greatestCell 31 = .ok (.iload 6, 2) := by decide +kernel
theorem dX10_greatestCell_33 : decode cX10_greatestCell 33 = .ok (.istore 4, 2) := by decide +kernel
theorem dX10_greatestCell_35 : decode cX10_greatestCell 35 = .ok (.iload 5, 2) := by decide +kernel
theorem dX10_greatestCell_37 : decode cX10_greatestCell 37 = .ok (.iconst 1, 1) := by decide +kernel
theorem dX10_greatestCell_38 : decode cX10_greatestCell 38 = .ok (.iadd, 1) := by decide +kernel
theorem dX10_greatestCell_39 : decode cX10_greatestCell 39 = .ok (.istore_n 3, 1) := by decide +kernel
theorem dX10_greatestCell_40 : decode cX10_greatestCell 40 = .ok (.iinc 5 1, 3) := by decide +kernel
theorem dX10_greatestCell_43 : decode cX10_greatestCell 43 = .ok (.goto (-35), 3) := by decide +kernel
theorem dX10_greatestCell_46 : decode cX10_greatestCell 46 = .ok (.iload_n 3, 1) := by decide +kernel
theorem dX10_greatestCell_47 : decode cX10_greatestCell 47 = .ok (.ireturn, 1) := by decide +kernel
theorem dX10_testScore_0 : decode cX10_testScore 0 = .ok (.aload_n 0, 1) := by decide +kernel
theorem dX10_testScore_1 : decode cX10_testScore 1 = .ok (.iload_n 1, 1) := by decide +kernel
theorem dX10_testScore_2 : decode cX10_testScore 2 = .ok (.iload_n 2, 1) := by decide +kernel
theorem dX10_testScore_3 : decode cX10_testScore 3 = .ok (.invokestatic 389, 3) := by decide +kernel
theorem dX10_testScore_6 : decode cX10_testScore 6 = .ok (.istore_n 3, 1) := by decide +kernel
theorem dX10_testScore_7 : decode cX10_testScore 7 = .ok (.iload_n 3, 1) := by decide +kernel
theorem dX10_testScore_8 : decode cX10_testScore 8 = .ok (.iload_n 2, 1) := by decide +kernel
theorem dX10_testScore_9 : decode cX10_testScore 9 = .ok (.imul, 1) := by decide +kernel
theorem dX10_testScore_10 : decode cX10_testScore 10 = .ok (.istore 4, 2) := by decide +kernel
theorem dX10_testScore_12 : decode cX10_testScore 12 = .ok (.iload 4, 2) := by decide +kernel
theorem dX10_testScore_14 : decode cX10_testScore 14 = .ok (.ifCond .gt 5, 3) := by decide +kernel
theorem dX10_testScore_17 : decode cX10_testScore 17 = .ok (.iconst 0, 1) := by decide +kernel
theorem dX10_testScore_18 : decode cX10_testScore 18 = .ok (.ireturn, 1) := by decide +kernel
theorem dX10_testScore_19 : decode cX10_testScore 19 = .ok (.iconst 0, 1) := by decide +kernel
theorem dX10_testScore_20 : decode cX10_testScore 20 = .ok (.istore 5, 2) := by decide +kernel
theorem dX10_testScore_22 : decode cX10_testScore 22 = .ok (.iconst 0, 1) := by decide +kernel
theorem dX10_testScore_23 : decode cX10_testScore 23 = .ok (.istore 6, 2) := by decide +kernel
theorem dX10_testScore_25 : decode cX10_testScore 25 = .ok (.iload 6, 2) := by decide +kernel
theorem dX10_testScore_27 : decode cX10_testScore 27 = .ok (.iload_n 2, 1) := by decide +kernel
theorem dX10_testScore_28 : decode cX10_testScore 28 = .ok (.if_icmp .ge 33, 3) := by decide +kernel
theorem dX10_testScore_31 : decode cX10_testScore 31 = .ok (.iload_n 2, 1) := by decide +kernel
theorem dX10_testScore_32 : decode cX10_testScore 32 = .ok (.aload_n 0, 1) := by decide +kernel
theorem dX10_testScore_33 : decode cX10_testScore 33 = .ok (.iload_n 1, 1) := by decide +kernel
theorem dX10_testScore_34 : decode cX10_testScore 34 = .ok (.iload 6, 2) := by decide +kernel
theorem dX10_testScore_36 : decode cX10_testScore 36 = .ok (.iadd, 1) := by decide +kernel
theorem dX10_testScore_37 : decode cX10_testScore 37 = .ok (.invokestatic 232, 3) := by decide +kernel
theorem dX10_testScore_40 : decode cX10_testScore 40 = .ok (.imul, 1) := by decide +kernel
theorem dX10_testScore_41 : decode cX10_testScore 41 = .ok (.iload_n 3, 1) := by decide +kernel
theorem dX10_testScore_42 : decode cX10_testScore 42 = .ok (.isub, 1) := by decide +kernel
theorem dX10_testScore_43 : decode cX10_testScore 43 = .ok (.istore 7, 2) := by decide +kernel
theorem dX10_testScore_45 : decode cX10_testScore 45 = .ok (.iload 5, 2) := by decide +kernel
theorem dX10_testScore_47 : decode cX10_testScore 47 = .ok (.iload 7, 2) := by decide +kernel
theorem dX10_testScore_49 : decode cX10_testScore 49 = .ok (.iload 7, 2) := by decide +kernel
theorem dX10_testScore_51 : decode cX10_testScore 51 = .ok (.imul, 1) := by decide +kernel
theorem dX10_testScore_52 : decode cX10_testScore 52 = .ok (.iadd, 1) := by decide +kernel
theorem dX10_testScore_53 : decode cX10_testScore 53 = .ok (.istore 5, 2) := by decide +kernel
theorem dX10_testScore_55 : decode cX10_testScore 55 = .ok (.iinc 6 1, 3) := by decide +kernel
theorem dX10_testScore_58 : decode cX10_testScore 58 = .ok (.goto (-33), 3) := by decide +kernel
theorem dX10_testScore_61 : decode cX10_testScore 61 = .ok (.iload 5, 2) := by decide +kernel
theorem dX10_testScore_63 : decode cX10_testScore 63 = .ok (.iload 4, 2) := by decide +kernel
theorem dX10_testScore_65 : decode cX10_testScore 65 = .ok (.idiv, 1) := by decide +kernel
theorem dX10_testScore_66 : decode cX10_testScore 66 = .ok (.ireturn, 1) := by decide +kernel
theorem dX10_nextSeed_0 : decode cX10_nextSeed 0 = .ok (.bipush 75, 2) := by decide +kernel
theorem dX10_nextSeed_2 : decode cX10_nextSeed 2 = .ok (.iload_n 0, 1) := by decide +kernel
theorem dX10_nextSeed_3 : decode cX10_nextSeed 3 = .ok (.imul, 1) := by decide +kernel
theorem dX10_nextSeed_4 : decode cX10_nextSeed 4 = .ok (.bipush 74, 2) := by decide +kernel
theorem dX10_nextSeed_6 : decode cX10_nextSeed 6 = .ok (.iadd, 1) := by decide +kernel
theorem dX10_nextSeed_7 : decode cX10_nextSeed 7 = .ok (.ldc_w 392, 3) := by decide +kernel
theorem dX10_nextSeed_10 : decode cX10_nextSeed 10 = .ok (.irem, 1) := by decide +kernel
theorem dX10_nextSeed_11 : decode cX10_nextSeed 11 = .ok (.ireturn, 1) := by decide +kernel
theorem dX10_pairOf_0 : decode cX10_pairOf 0 = .ok (.iload_n 0, 1) := by decide +kernel
theorem dX10_pairOf_1 : decode cX10_pairOf 1 = .ok (.bipush 6, 2) := by decide +kernel
theorem dX10_pairOf_3 : decode cX10_pairOf 3 = .ok (.imul, 1) := by decide +kernel
theorem dX10_pairOf_4 : decode cX10_pairOf 4 = .ok (.iload_n 1, 1) := by decide +kernel
theorem dX10_pairOf_5 : decode cX10_pairOf 5 = .ok (.iadd, 1) := by decide +kernel
theorem dX10_pairOf_6 : decode cX10_pairOf 6 = .ok (.ireturn, 1) := by decide +kernel
theorem dX10_playerOf_0 : decode cX10_playerOf 0 = .ok (.iload_n 0, 1) := by decide +kernel
theorem dX10_playerOf_1 : decode cX10_playerOf 1 = .ok (.bipush 6, 2) := by decide +kernel
theorem dX10_playerOf_3 : decode cX10_playerOf 3 = .ok (.idiv, 1) := by decide +kernel
theorem dX10_playerOf_4 : decode cX10_playerOf 4 = .ok (.ireturn, 1) := by decide +kernel
theorem dX10_dieOf_0 : decode cX10_dieOf 0 = .ok (.iload_n 0, 1) := by decide +kernel
theorem dX10_dieOf_1 : decode cX10_dieOf 1 = .ok (.bipush 6, 2) := by decide +kernel
theorem dX10_dieOf_3 : decode cX10_dieOf 3 = .ok (.irem, 1) := by decide +kernel
theorem dX10_dieOf_4 : decode cX10_dieOf 4 = .ok (.ireturn, 1) := by decide +kernel
theorem dX10_cellOf_0 : decode cX10_cellOf 0 = .ok (.iload_n 0, 1) := by decide +kernel
theorem dX10_cellOf_1 : decode cX10_cellOf 1 = .ok (.bipush 12, 2) := by decide +kernel
theorem dX10_cellOf_3 : decode cX10_cellOf 3 = .ok (.imul, 1) := by decide +kernel
theorem dX10_cellOf_4 : decode cX10_cellOf 4 = .ok (.iload_n 1, 1) := by decide +kernel
theorem dX10_cellOf_5 : decode cX10_cellOf 5 = .ok (.iadd, 1) := by decide +kernel
theorem dX10_cellOf_6 : decode cX10_cellOf 6 = .ok (.iconst 1, 1) := by decide +kernel
theorem dX10_cellOf_7 : decode cX10_cellOf 7 = .ok (.isub, 1) := by decide +kernel
theorem dX10_cellOf_8 : decode cX10_cellOf 8 = .ok (.ireturn, 1) := by decide +kernel
theorem dX11_init_0 : decode cX11_init 0 = .ok (.aload_n 0, 1) := by decide +kernel
theorem dX11_init_1 : decode cX11_init 1 = .ok (.invokespecial 1, 3) := by decide +kernel
theorem dX11_init_4 : decode cX11_init 4 = .ok (.aload_n 0, 1) := by decide +kernel
theorem dX11_init_5 : decode cX11_init 5 = .ok (.sipush 1399, 3) := by decide +kernel
theorem dX11_init_8 : decode cX11_init 8 = .ok (.newarray .int, 2) := by decide +kernel
theorem dX11_init_10 : decode cX11_init 10 = .ok (.putfield 7, 3) := by decide +kernel
theorem dX11_init_13 : decode cX11_init 13 = .ok (.aload_n 0, 1) := by decide +kernel
theorem dX11_init_14 : decode cX11_init 14 = .ok (.sipush 1399, 3) := by decide +kernel
theorem dX11_init_17 : decode cX11_init 17 = .ok (.newarray .int, 2) := by decide +kernel
theorem dX11_init_19 : decode cX11_init 19 = .ok (.putfield 13, 3) := by decide +kernel
theorem dX11_init_22 : decode cX11_init 22 = .ok (.aload_n 0, 1) := by decide +kernel
theorem dX11_init_23 : decode cX11_init 23 = .ok (.sipush 11192, 3) := by decide +kernel
theorem dX11_init_26 : decode cX11_init 26 = .ok (.newarray .int, 2) := by decide +kernel
theorem dX11_init_28 : decode cX11_init 28 = .ok (.putfield 16, 3) := by decide +kernel
theorem dX11_init_31 : decode cX11_init 31 = .ok (.aload_n 0, 1) := by decide +kernel
theorem dX11_init_32 : decode cX11_init 32 = .ok (.sipush 2798, 3) := by decide +kernel
theorem dX11_init_35 : decode cX11_init 35 = .ok (.newarray .int, 2) := by decide +kernel
theorem dX11_init_37 : decode cX11_init 37 = .ok (.putfield 19, 3) := by decide +kernel
theorem dX11_init_40 : decode cX11_init 40 = .ok (.aload_n 0, 1) := by decide +kernel
theorem dX11_init_41 : decode cX11_init 41 = .ok (.iconst 2, 1) := by decide +kernel
theorem dX11_init_42 : decode cX11_init 42 = .ok (.newarray .boolean, 2) := by decide +kernel
theorem dX11_init_44 : decode cX11_init 44 = .ok (.putfield 22, 3) := by decide +kernel
theorem dX11_init_47 : decode cX11_init 47 = .ok (.aload_n 0, 1) := by decide +kernel
theorem dX11_init_48 : decode cX11_init 48 = .ok (.bipush 13, 2) := by decide +kernel
theorem dX11_init_50 : decode cX11_init 50 = .ok (.newarray .int, 2) := by decide +kernel
theorem dX11_init_52 : decode cX11_init 52 = .ok (.putfield 26, 3) := by decide +kernel
theorem dX11_init_55 : decode cX11_init 55 = .ok (.aload_n 0, 1) := by decide +kernel
theorem dX11_init_56 : decode cX11_init 56 = .ok (.sipush 600, 3) := by decide +kernel
theorem dX11_init_59 : decode cX11_init 59 = .ok (.newarray .int, 2) := by decide +kernel
theorem dX11_init_61 : decode cX11_init 61 = .ok (.putfield 29, 3) := by decide +kernel
theorem dX11_init_64 : decode cX11_init 64 = .ok (.aload_n 0, 1) := by decide +kernel
theorem dX11_init_65 : decode cX11_init 65 = .ok (.iconst (-1), 1) := by decide +kernel
theorem dX11_init_66 : decode cX11_init 66 = .ok (.putfield 32, 3) := by decide +kernel
theorem dX11_init_69 : decode cX11_init 69 = .ok (.aload_n 0, 1) := by decide +kernel
theorem dX11_init_70 : decode cX11_init 70 = .ok (.sipush 1000, 3) := by decide +kernel
theorem dX11_init_73 : decode cX11_init 73 = .ok (.newarray .byte, 2) := by decide +kernel
theorem dX11_init_75 : decode cX11_init 75 = .ok (.putfield 36, 3) := by decide +kernel
theorem dX11_init_78 : decode cX11_init 78 = .ok (.aload_n 0, 1) := by decide +kernel
theorem dX11_init_79 : decode cX11_init 79 = .ok (.ldc 40, 2) := by decide +kernel
theorem dX11_init_81 : decode cX11_init 81 = .ok (.invokevirtual 42, 3) := by decide +kernel
theorem dX11_init_84 : decode cX11_init 84 = .ok (.aload_n 0, 1) := by decide +kernel
theorem dX11_init_85 : decode cX11_init 85 = .ok (.invokevirtual 46, 3) := by decide +kernel
theorem dX11_init_88 : decode cX11_init 88 = .ok (.aload_n 0, 1) := by decide +kernel
theorem dX11_init_89 : decode cX11_init 89 = .ok (.iconst 0, 1) := by decide +kernel
theorem dX11_init_90 : decode cX11_init 90 = .ok (.putfield 49, 3) := by decide +kernel
theorem dX11_init_93 : decode cX11_init 93 = .ok (.aload_n 0, 1) := by decide +kernel
theorem dX11_init_94 : decode cX11_init 94 = .ok (.getfield 13, 3) := by decide +kernel
theorem dX11_init_97 : decode cX11_init 97 = .ok (.iconst 0, 1) := by decide +kernel
theorem dX11_init_98 : decode cX11_init 98 = .ok (.aload_n 0, 1) := by decide +kernel
theorem dX11_init_99 : decode cX11_init 99 = .ok (.getfield 7, 3) := by decide +kernel
theorem dX11_init_102 : decode cX11_init 102 = .ok (.iconst 0, 1) := by decide +kernel
theorem dX11_init_103 : decode cX11_init 103 = .ok (.invokestatic 52, 3) := by decide +kernel
theorem dX11_init_106 : decode cX11_init 106 = .ok (.return_, 1) := by decide +kernel
theorem dX11_layInput_0 : decode cX11_layInput 0 = .ok (.iconst 0, 1) := by decide +kernel
theorem dX11_layInput_1 : decode cX11_layInput 1 = .ok (.istore_n 2, 1) := by decide +kernel
theorem dX11_layInput_2 : decode cX11_layInput 2 = .ok (.iload_n 2, 1) := by decide +kernel
theorem dX11_layInput_3 : decode cX11_layInput 3 = .ok (.aload_n 1, 1) := by decide +kernel
theorem dX11_layInput_4 : decode cX11_layInput 4 = .ok (.invokevirtual 56, 3) := by decide +kernel
theorem dX11_layInput_7 : decode cX11_layInput 7 = .ok (.if_icmp .ge 20, 3) := by decide +kernel
theorem dX11_layInput_10 : decode cX11_layInput 10 = .ok (.aload_n 0, 1) := by decide +kernel
theorem dX11_layInput_11 : decode cX11_layInput 11 = .ok (.getfield 29, 3) := by decide +kernel
theorem dX11_layInput_14 : decode cX11_layInput 14 = .ok (.iload_n 2, 1) := by decide +kernel
theorem dX11_layInput_15 : decode cX11_layInput 15 = .ok (.aload_n 1, 1) := by decide +kernel
theorem dX11_layInput_16 : decode cX11_layInput 16 = .ok (.iload_n 2, 1) := by decide +kernel
theorem dX11_layInput_17 : decode cX11_layInput 17 = .ok (.invokevirtual 62, 3) := by decide +kernel
theorem dX11_layInput_20 : decode cX11_layInput 20 = .ok (.iastore, 1) := by decide +kernel
theorem dX11_layInput_21 : decode cX11_layInput 21 = .ok (.iinc 2 1, 3) := by decide +kernel
theorem dX11_layInput_24 : decode cX11_layInput 24 = .ok (.goto (-22), 3) := by decide +kernel
theorem dX11_layInput_27 : decode cX11_layInput 27 = .ok (.aload_n 0, 1) := by decide +kernel
theorem dX11_layInput_28 : decode cX11_layInput 28 = .ok (.aload_n 1, 1) := by decide +kernel
theorem dX11_layInput_29 : decode cX11_layInput 29 = .ok (.invokevirtual 56, 3) := by decide +kernel
theorem dX11_layInput_32 : decode cX11_layInput 32 = .ok (.putfield 49, 3) := by decide +kernel
theorem dX11_layInput_35 : decode cX11_layInput 35 = .ok (.return_, 1) := by decide +kernel
theorem dX11_thrown_0 : decode cX11_thrown 0 = .ok (.aload_n 0, 1) := by decide +kernel
theorem dX11_thrown_1 : decode cX11_thrown 1 = .ok (.getfield 66, 3) := by decide +kernel
theorem dX11_thrown_4 : decode cX11_thrown 4 = .ok (.ireturn, 1) := by decide +kernel
theorem dX11_refuses_0 : decode cX11_refuses 0 = .ok (.iload_n 1, 1) := by decide +kernel
theorem dX11_refuses_1 : decode cX11_refuses 1 = .ok (.ifCond .eq 15, 3) := by decide +kernel
theorem dX11_refuses_4 : decode cX11_refuses 4 = .ok (.aload_n 0, 1) := by decide +kernel
theorem dX11_refuses_5 : decode cX11_refuses 5 = .ok (.getfield 66, 3) := by decide +kernel
theorem dX11_refuses_8 : decode cX11_refuses 8 = .ok (.ifCond .ne 8, 3) := by decide +kernel
theorem dX11_refuses_11 : decode cX11_refuses 11 = .ok (.aload_n 0, 1) := by decide +kernel
theorem dX11_refuses_12 : decode cX11_refuses 12 = .ok (.iload_n 2, 1) := by decide +kernel
theorem dX11_refuses_13 : decode cX11_refuses 13 = .ok (.putfield 66, 3) := by decide +kernel
theorem dX11_refuses_16 : decode cX11_refuses 16 = .ok (.aload_n 0, 1) := by decide +kernel
theorem dX11_refuses_17 : decode cX11_refuses 17 = .ok (.getfield 66, 3) := by decide +kernel
theorem dX11_refuses_20 : decode cX11_refuses 20 = .ok (.ifCond .eq 7, 3) := by decide +kernel
theorem dX11_refuses_23 : decode cX11_refuses 23 = .ok (.iconst 1, 1) := by decide +kernel
theorem dX11_refuses_24 : decode cX11_refuses 24 = .ok (.goto 4, 3) := by decide +kernel
theorem dX11_refuses_27 : decode cX11_refuses 27 = .ok (.iconst 0, 1) := by decide +kernel
theorem dX11_refuses_28 : decode cX11_refuses 28 = .ok (.ireturn, 1) := by decide +kernel
theorem dX11_isBetween_0 : decode cX11_isBetween 0 = .ok (.iload_n 0, 1) := by decide +kernel
theorem dX11_isBetween_1 : decode cX11_isBetween 1 = .ok (.iload_n 1, 1) := by decide +kernel
theorem dX11_isBetween_2 : decode cX11_isBetween 2 = .ok (.if_icmp .lt 12, 3) := by decide +kernel
theorem dX11_isBetween_5 : decode cX11_isBetween 5 = .ok (.iload_n 0, 1) := by decide +kernel
theorem dX11_isBetween_6 : decode cX11_isBetween 6 = .ok (.iload_n 2, 1) := by decide +kernel
theorem dX11_isBetween_7 : decode cX11_isBetween 7 = .ok (.if_icmp .gt 7, 3) := by decide +kernel
theorem dX11_isBetween_10 : decode cX11_isBetween 10 = .ok (.iconst 1, 1) := by decide +kernel
theorem dX11_isBetween_11 : decode cX11_isBetween 11 = .ok (.goto 4, 3) := by decide +kernel
theorem dX11_isBetween_14 : decode cX11_isBetween 14 = .ok (.iconst 0, 1) := by decide +kernel
theorem dX11_isBetween_15 : decode cX11_isBetween 15 = .ok (.ireturn, 1) := by decide +kernel
theorem dX11_copyRow_0 : decode cX11_copyRow 0 = .ok (.iconst 0, 1) := by decide +kernel
theorem dX11_copyRow_1 : decode cX11_copyRow 1 = .ok (.istore 4, 2) := by decide +kernel
theorem dX11_copyRow_3 : decode cX11_copyRow 3 = .ok (.iload 4, 2) := by decide +kernel
theorem dX11_copyRow_5 : decode cX11_copyRow 5 = .ok (.sipush 1399, 3) := by decide +kernel
theorem dX11_copyRow_8 : decode cX11_copyRow 8 = .ok (.if_icmp .ge 21, 3) := by decide +kernel
theorem dX11_copyRow_11 : decode cX11_copyRow 11 = .ok (.aload_n 2, 1) := by decide +kernel
theorem dX11_copyRow_12 : decode cX11_copyRow 12 = .ok (.iload_n 3, 1) := by decide +kernel
theorem dX11_copyRow_13 : decode cX11_copyRow 13 = .ok (.iload 4, 2) := by decide +kernel
theorem dX11_copyRow_15 : decode cX11_copyRow 15 = .ok (.iadd, 1) := by decide +kernel
theorem dX11_copyRow_16 : decode cX11_copyRow 16 = .ok (.aload_n 0, 1) := by decide +kernel
theorem dX11_copyRow_17 : decode cX11_copyRow 17 = .ok (.iload_n 1, 1) := by decide +kernel
theorem dX11_copyRow_18 : decode cX11_copyRow 18 = .ok (.iload 4, 2) := by decide +kernel
theorem dX11_copyRow_20 : decode cX11_copyRow 20 = .ok (.iadd, 1) := by decide +kernel
theorem dX11_copyRow_21 : decode cX11_copyRow 21 = .ok (.iaload, 1) := by decide +kernel
theorem dX11_copyRow_22 : decode cX11_copyRow 22 = .ok (.iastore, 1) := by decide +kernel
theorem dX11_copyRow_23 : decode cX11_copyRow 23 = .ok (.iinc 4 1, 3) := by decide +kernel
theorem dX11_copyRow_26 : decode cX11_copyRow 26 = .ok (.goto (-23), 3) := by decide +kernel
theorem dX11_copyRow_29 : decode cX11_copyRow 29 = .ok (.return_, 1) := by decide +kernel
theorem dX11_ofDie_0 : decode cX11_ofDie 0 = .ok (.bipush 7, 2) := by decide +kernel
theorem dX11_ofDie_2 : decode cX11_ofDie 2 = .ok (.bipush 13, 2) := by decide +kernel
theorem dX11_ofDie_4 : decode cX11_ofDie 4 = .ok (.iload_n 0, 1) := by decide +kernel
theorem dX11_ofDie_5 : decode cX11_ofDie 5 = .ok (.imul, 1) := by decide +kernel
theorem dX11_ofDie_6 : decode cX11_ofDie 6 = .ok (.iadd, 1) := by decide +kernel
theorem dX11_ofDie_7 : decode cX11_ofDie 7 = .ok (.ireturn, 1) := by decide +kernel
theorem dX11_ofThrow_0 : decode cX11_ofThrow 0 = .ok (.bipush 91, 2) := by decide +kernel
theorem dX11_ofThrow_2 : decode cX11_ofThrow 2 = .ok (.iconst 4, 1) := by decide +kernel
theorem dX11_ofThrow_3 : decode cX11_ofThrow 3 = .ok (.iload_n 0, 1) := by decide +kernel
theorem dX11_ofThrow_4 : decode cX11_ofThrow 4 = .ok (.imul, 1) := by decide +kernel
theorem dX11_ofThrow_5 : decode cX11_ofThrow 5 = .ok (.iadd, 1) := by decide +kernel
theorem dX11_ofThrow_6 : decode cX11_ofThrow 6 = .ok (.ireturn, 1) := by decide +kernel
theorem dX11_ofOffence_0 : decode cX11_ofOffence 0 = .ok (.sipush 1291, 3) := by decide +kernel
theorem dX11_ofOffence_3 : decode cX11_ofOffence 3 = .ok (.iconst 3, 1) := by decide +kernel
theorem dX11_ofOffence_4 : decode cX11_ofOffence 4 = .ok (.iload_n 0, 1) := by decide +kernel
theorem dX11_ofOffence_5 : decode cX11_ofOffence 5 = .ok (.imul, 1) := by decide +kernel
theorem dX11_ofOffence_6 : decode cX11_ofOffence 6 = .ok (.iadd, 1) := by decide +kernel
theorem dX11_ofOffence_7 : decode cX11_ofOffence 7 = .ok (.ireturn, 1) := by decide +kernel
theorem dX11_facesOf_0 : decode cX11_facesOf 0 = .ok (.aload_n 0, 1) := by decide +kernel
theorem dX11_facesOf_1 : decode cX11_facesOf 1 = .ok (.iload_n 1, 1) := by decide +kernel
theorem dX11_facesOf_2 : decode cX11_facesOf 2 = .ok (.invokestatic 69, 3) := by decide +kernel
theorem dX11_facesOf_5 : decode cX11_facesOf 5 = .ok (.iconst 0, 1) := by decide +kernel
theorem dX11_facesOf_6 : decode cX11_facesOf 6 = .ok (.iadd, 1) := by decide +kernel
theorem dX11_facesOf_7 : decode cX11_facesOf 7 = .ok (.iaload, 1) := by decide +kernel
theorem dX11_facesOf_8 : decode cX11_facesOf 8 = .ok (.ireturn, 1) := by decide +kernel
theorem dX11_weight_0 : decode cX11_weight 0 = .ok (.aload_n 0, 1) := by decide +kernel
theorem dX11_weight_1 : decode cX11_weight 1 = .ok (.iload_n 1, 1) := by decide +kernel
theorem dX11_weight_2 : decode cX11_weight 2 = .ok (.invokestatic 69, 3) := by decide +kernel
theorem dX11_weight_5 : decode cX11_weight 5 = .ok (.iconst 1, 1) := by decide +kernel
theorem dX11_weight_6 : decode cX11_weight 6 = .ok (.iadd, 1) := by decide +kernel
theorem dX11_weight_7 : decode cX11_weight 7 = .ok (.iload_n 2, 1) := by decide +kernel
theorem dX11_weight_8 : decode cX11_weight 8 = .ok (.iadd, 1) := by decide +kernel
theorem dX11_weight_9 : decode cX11_weight 9 = .ok (.iconst 1, 1) := by decide +kernel
theorem dX11_weight_10 : decode cX11_weight 10 = .ok (.isub, 1) := by decide +kernel
theorem dX11_weight_11 : decode cX11_weight 11 = .ok (.iaload, 1) := by decide +kernel
theorem dX11_weight_12 : decode cX11_weight 12 = .ok (.ireturn, 1) := by decide +kernel
theorem dX11_allWeights_0 : decode cX11_allWeights 0 = .ok (.iconst 0, 1) := by decide +kernel
theorem dX11_allWeights_1 : decode cX11_allWeights 1 = .ok (.istore_n 2, 1) := by decide +kernel
theorem dX11_allWeights_2 : decode cX11_allWeights 2 = .ok (.iconst 1, 1) := by decide +kernel
theorem dX11_allWeights_3 : decode cX11_allWeights 3 = .ok (.istore_n 3, 1) := by decide +kernel
theorem dX11_allWeights_4 : decode cX11_allWeights 4 = .ok (.iload_n 3, 1) := by decide +kernel
theorem dX11_allWeights_5 : decode cX11_allWeights 5 = .ok (.aload_n 0, 1) := by decide +kernel
theorem dX11_allWeights_6 : decode cX11_allWeights 6 = .ok (.iload_n 1, 1) := by decide +kernel
theorem dX11_allWeights_7 : decode cX11_allWeights 7 = .ok (.invokestatic 73, 3) := by decide +kernel
theorem dX11_allWeights_10 : decode cX11_allWeights 10 = .ok (.if_icmp .gt 18, 3) := by decide +kernel
theorem dX11_allWeights_13 : decode cX11_allWeights 13 = .ok (.iload_n 2, 1) := by decide +kernel
theorem dX11_allWeights_14 : decode cX11_allWeights 14 = .ok (.aload_n 0, 1) := by decide +kernel
theorem dX11_allWeights_15 : decode cX11_allWeights 15 = .ok (.iload_n 1, 1) := by decide +kernel
theorem dX11_allWeights_16 : decode cX11_allWeights 16 = .ok (.iload_n 3, 1) := by decide +kernel
theorem dX11_allWeights_17 : decode cX11_allWeights 17 = .ok (.invokestatic 77, 3) := by decide +kernel
theorem dX11_allWeights_20 : decode cX11_allWeights 20 = .ok (.iadd, 1) := by decide +kernel
theorem dX11_allWeights_21 : decode cX11_allWeights 21 = .ok (.istore_n 2, 1) := by decide +kernel
theorem dX11_allWeights_22 : decode cX11_allWeights 22 = .ok (.iinc 3 1, 3) := by decide +kernel
theorem dX11_allWeights_25 : decode cX11_allWeights 25 = .ok (.goto (-21), 3) := by decide +kernel
theorem dX11_allWeights_28 : decode cX11_allWeights 28 = .ok (.iload_n 2, 1) := by decide +kernel
theorem dX11_allWeights_29 : decode cX11_allWeights 29 = .ok (.ireturn, 1) := by decide +kernel
theorem dX11_nextSeed_0 : decode cX11_nextSeed 0 = .ok (.bipush 75, 2) := by decide +kernel
theorem dX11_nextSeed_2 : decode cX11_nextSeed 2 = .ok (.iload_n 0, 1) := by decide +kernel
theorem dX11_nextSeed_3 : decode cX11_nextSeed 3 = .ok (.imul, 1) := by decide +kernel
theorem dX11_nextSeed_4 : decode cX11_nextSeed 4 = .ok (.bipush 74, 2) := by decide +kernel
theorem dX11_nextSeed_6 : decode cX11_nextSeed 6 = .ok (.iadd, 1) := by decide +kernel
theorem dX11_nextSeed_7 : decode cX11_nextSeed 7 = .ok (.ldc 81, 2) := by decide +kernel
theorem dX11_nextSeed_9 : decode cX11_nextSeed 9 = .ok (.irem, 1) := by decide +kernel
theorem dX11_nextSeed_10 : decode cX11_nextSeed 10 = .ok (.ireturn, 1) := by decide +kernel
theorem dX11_faceBy_0 : decode cX11_faceBy 0 = .ok (.iload_n 2, 1) := by decide +kernel
theorem dX11_faceBy_1 : decode cX11_faceBy 1 = .ok (.aload_n 0, 1) := by decide +kernel
theorem dX11_faceBy_2 : decode cX11_faceBy 2 = .ok (.iload_n 1, 1) := by decide +kernel
theorem dX11_faceBy_3 : decode cX11_faceBy 3 = .ok (.invokestatic 82, 3) := by decide +kernel
theorem dX11_faceBy_6 : decode cX11_faceBy 6 = .ok (.irem, 1) := by decide +kernel
theorem dX11_faceBy_7 : decode cX11_faceBy 7 = .ok (.istore_n 3, 1) := by decide +kernel
theorem dX11_faceBy_8 : decode cX11_faceBy 8 = .ok (.iconst 1, 1) := by decide +kernel
theorem dX11_faceBy_9 : decode cX11_faceBy 9 = .ok (.istore 4, 2) := by decide +kernel
theorem dX11_faceBy_11 : decode cX11_faceBy 11 = .ok (.iload_n 3, 1) := by decide +kernel
theorem dX11_faceBy_12 : decode cX11_faceBy 12 = .ok (.aload_n 0, 1) := by decide +kernel
theorem dX11_faceBy_13 : decode cX11_faceBy 13 = .ok (.iload_n 1, 1) := by decide +kernel
theorem dX11_faceBy_14 : decode cX11_faceBy 14 = .ok (.iload 4, 2) := by decide +kernel
theorem dX11_faceBy_16 : decode cX11_faceBy 16 = .ok (.invokestatic 77, 3) := by decide +kernel
theorem dX11_faceBy_19 : decode cX11_faceBy 19 = .ok (.if_icmp .lt 19, 3) := by decide +kernel
theorem dX11_faceBy_22 : decode cX11_faceBy 22 = .ok (.iload_n 3, 1) := by decide +kernel
theorem dX11_faceBy_23 : decode cX11_faceBy 23 = .ok (.aload_n 0, 1) := by decide +kernel
theorem dX11_faceBy_24 : decode cX11_faceBy 24 = .ok (.iload_n 1, 1) := by decide +kernel
theorem dX11_faceBy_25 : decode cX11_faceBy 25 = .ok (.iload 4, 2) := by decide +kernel
theorem dX11_faceBy_27 : decode cX11_faceBy 27 = .ok (.invokestatic 77, 3) := by decide +kernel
theorem dX11_faceBy_30 : decode cX11_faceBy 30 = .ok (.isub, 1) := by decide +kernel
theorem dX11_faceBy_31 : decode cX11_faceBy 31 = .ok (.istore_n 3, 1) := by decide +kernel
theorem dX11_faceBy_32 : decode cX11_faceBy 32 = .ok (.iinc 4 1, 3) := by decide +kernel
theorem dX11_faceBy_35 : decode cX11_faceBy 35 = .ok (.goto (-24), 3) := by decide +kernel
theorem dX11_faceBy_38 : decode cX11_faceBy 38 = .ok (.iload 4, 2) := by decide +kernel
theorem dX11_faceBy_40 : decode cX11_faceBy 40 = .ok (.ireturn, 1) := by decide +kernel
theorem dX11_enter_0 : decode cX11_enter 0 = .ok (.aload_n 0, 1) := by decide +kernel
theorem dX11_enter_1 : decode cX11_enter 1 = .ok (.iconst 5, 1) := by decide +kernel
theorem dX11_enter_2 : decode cX11_enter 2 = .ok (.iaload, 1) := by decide +kernel
theorem dX11_enter_3 : decode cX11_enter 3 = .ok (.invokestatic 85, 3) := by decide +kernel
theorem dX11_enter_6 : decode cX11_enter 6 = .ok (.istore 5, 2) := by decide +kernel
theorem dX11_enter_8 : decode cX11_enter 8 = .ok (.aload_n 0, 1) := by decide +kernel
theorem dX11_enter_9 : decode cX11_enter 9 = .ok (.iload 5, 2) := by decide +kernel
theorem dX11_enter_11 : decode cX11_enter 11 = .ok (.iconst 0, 1) := by decide +kernel
theorem dX11_enter_12 : decode cX11_enter 12 = .ok (.iadd, 1) := by decide +kernel
theorem dX11_enter_13 : decode cX11_enter 13 = .ok (.iload_n 1, 1) := by decide +kernel
theorem dX11_enter_14 : decode cX11_enter 14 = .ok (.iastore, 1) := by decide +kernel
theorem dX11_enter_15 : decode cX11_enter 15 = .ok (.aload_n 0, 1) := by decide +kernel
theorem dX11_enter_16 : decode cX11_enter 16 = .ok (.iload 5, 2) := by decide +kernel
theorem dX11_enter_18 : decode cX11_enter 18 = .ok (.iconst 1, 1) := by decide +kernel
theorem dX11_enter_19 : decode cX11_enter 19 = .ok (.iadd, 1) := by decide +kernel
theorem dX11_enter_20 : decode cX11_enter 20 = .ok (.iload_n 2, 1) := by decide +kernel
theorem dX11_enter_21 : decode cX11_enter 21 = .ok (.iastore, 1) := by decide +kernel
theorem dX11_enter_22 : decode cX11_enter 22 = .ok (.aload_n 0, 1) := by decide +kernel
theorem dX11_enter_23 : decode cX11_enter 23 = .ok (.iload 5, 2) := by decide +kernel
theorem dX11_enter_25 : decode cX11_enter 25 = .ok (.iconst 2, 1) := by decide +kernel
theorem dX11_enter_26 : decode cX11_enter 26 = .ok (.iadd, 1) := by decide +kernel
theorem dX11_enter_27 : decode cX11_enter 27 = .ok (.iload_n 3, 1) := by decide +kernel
theorem dX11_enter_28 : decode cX11_enter 28 = .ok (.iastore, 1) := by decide +kernel
theorem dX11_enter_29 : decode cX11_enter 29 = .ok (.aload_n 0, 1) := by decide +kernel
theorem dX11_enter_30 : decode cX11_enter 30 = .ok (.iload 5, 2) := by decide +kernel
theorem dX11_enter_32 : decode cX11_enter 32 = .ok (.iconst 3, 1) := by decide +kernel
theorem dX11_enter_33 : decode cX11_enter 33 = .ok (.iadd, 1) := by decide +kernel
theorem dX11_enter_34 : decode cX11_enter 34 = .ok (.iload 4, 2) := by decide +kernel
theorem dX11_enter_36 : decode cX11_enter 36 = .ok (.iastore, 1) := by decide +kernel
theorem dX11_enter_37 : decode cX11_enter 37 = .ok (.aload_n 0, 1) := by decide +kernel
theorem dX11_enter_38 : decode cX11_enter 38 = .ok (.iconst 5, 1) := by decide +kernel
theorem dX11_enter_39 : decode cX11_enter 39 = .ok (.dup2, 1) := by decide +kernel
theorem dX11_enter_40 : decode cX11_enter 40 = .ok (.iaload, 1) := by decide +kernel
theorem dX11_enter_41 : decode cX11_enter 41 = .ok (.iconst 1, 1) := by decide +kernel
theorem dX11_enter_42 : decode cX11_enter 42 = .ok (.iadd, 1) := by decide +kernel
theorem dX11_enter_43 : decode cX11_enter 43 = .ok (.iastore, 1) := by decide +kernel
theorem dX11_enter_44 : decode cX11_enter 44 = .ok (.return_, 1) := by decide +kernel
theorem dX11_throwMany_0 : decode cX11_throwMany 0 = .ok (.iconst 0, 1) := by decide +kernel
theorem dX11_throwMany_1 : decode cX11_throwMany 1 = .ok (.istore 5, 2) := by decide +kernel
theorem dX11_throwMany_3 : decode cX11_throwMany 3 = .ok (.iconst 0, 1) := by decide +kernel
theorem dX11_throwMany_4 : decode cX11_throwMany 4 = .ok (.istore 6, 2) := by decide +kernel
theorem dX11_throwMany_6 : decode cX11_throwMany 6 = .ok (.iload 6, 2) := by decide +kernel
theorem dX11_throwMany_8 : decode cX11_throwMany 8 = .ok (.iload_n 3, 1) := by decide +kernel
theorem dX11_throwMany_9 : decode cX11_throwMany 9 = .ok (.if_icmp .ge 72, 3) := by decide +kernel
theorem dX11_throwMany_12 : decode cX11_throwMany 12 = .ok (.aload_n 0, 1) := by decide +kernel
theorem dX11_throwMany_13 : decode cX11_throwMany 13 = .ok (.iconst 0, 1) := by decide +kernel
theorem dX11_throwMany_14 : decode cX11_throwMany 14 = .ok (.aload_n 0, 1) := by decide +kernel
theorem dX11_throwMany_15 : decode cX11_throwMany 15 = .ok (.iconst 0, 1) := by decide +kernel
theorem dX11_throwMany_16 : decode cX11_throwMany 16 = .ok (.iaload, 1) := by decide +kernel
theorem dX11_throwMany_17 : decode cX11_throwMany 17 = .ok (.invokestatic 88, 3) := by decide +kernel
theorem dX11_throwMany_20 : decode cX11_throwMany 20 = .ok (.iastore, 1) := by decide +kernel
theorem dX11_throwMany_21 : decode cX11_throwMany 21 = .ok (.iload 4, 2) := by decide +kernel
theorem dX11_throwMany_23 : decode cX11_throwMany 23 = .ok (.ifCond .eq 17, 3) := by decide +kernel
theorem dX11_throwMany_26 : decode cX11_throwMany 26 = .ok (.aload_n 0, 1) := by decide +kernel
theorem dX11_throwMany_27 : decode cX11_throwMany 27 = .ok (.iconst 0, 1) := by decide +kernel
theorem dX11_throwMany_28 : decode cX11_throwMany 28 = .ok (.iaload, 1) := by decide +kernel
theorem dX11_throwMany_29 : decode cX11_throwMany 29 = .ok (.aload_n 0, 1) := by decide +kernel
theorem dX11_throwMany_30 : decode cX11_throwMany 30 = .ok (.iload_n 2, 1) := by decide +kernel
theorem dX11_throwMany_31 : decode cX11_throwMany 31 = .ok (.invokestatic 73, 3) := by decide +kernel
theorem dX11_throwMany_34 : decode cX11_throwMany 34 = .ok (.irem, 1) := by decide +kernel
theorem dX11_throwMany_35 : decode cX11_throwMany 35 = .ok (.iconst 1, 1) := by decide +kernel
theorem dX11_throwMany_36 : decode cX11_throwMany 36 = .ok (.iadd, 1) := by decide +kernel
theorem dX11_throwMany_37 : decode cX11_throwMany 37 = .ok (.goto 11, 3) := by decide +kernel
theorem dX11_throwMany_40 : decode cX11_throwMany 40 = .ok (.aload_n 0, 1) := by decide +kernel
theorem dX11_throwMany_41 : decode cX11_throwMany 41 = .ok (.iload_n 2, 1) := by decide +kernel
theorem dX11_throwMany_42 : decode cX11_throwMany 42 = .ok (.aload_n 0, 1) := by decide +kernel
theorem dX11_throwMany_43 : decode cX11_throwMany 43 = .ok (.iconst 0, 1) := by decide +kernel
theorem dX11_throwMany_44 : decode cX11_throwMany 44 = .ok (.iaload, 1) := by decide +kernel
theorem dX11_throwMany_45 : decode cX11_throwMany 45 = .ok (.invokestatic 91, 3) := by decide +kernel
theorem dX11_throwMany_48 : decode cX11_throwMany 48 = .ok (.istore 7, 2) := by decide +kernel
theorem dX11_throwMany_50 : decode cX11_throwMany 50 = .ok (.aload_n 0, 1) := by decide +kernel
theorem dX11_throwMany_51 : decode cX11_throwMany 51 = .ok (.iload_n 1, 1) := by decide +kernel
theorem dX11_throwMany_52 : decode cX11_throwMany 52 = .ok (.iload_n 2, 1) := by decide +kernel
theorem dX11_throwMany_53 : decode cX11_throwMany 53 = .ok (.iload 7, 2) := by decide +kernel
theorem dX11_throwMany_55 : decode cX11_throwMany 55 = .ok (.iload 4, 2) := by decide +kernel
theorem dX11_throwMany_57 : decode cX11_throwMany 57 = .ok (.ifCond .eq 7, 3) := by decide +kernel
theorem dX11_throwMany_60 : decode cX11_throwMany 60 = .ok (.iconst 1, 1) := by decide +kernel
theorem dX11_throwMany_61 : decode cX11_throwMany 61 = .ok (.goto 4, 3) := by decide +kernel
theorem dX11_throwMany_64 : decode cX11_throwMany 64 = .ok (.iconst 0, 1) := by decide +kernel
theorem dX11_throwMany_65 : decode cX11_throwMany 65 = .ok (.invokestatic 94, 3) := by decide +kernel
theorem dX11_throwMany_68 : decode cX11_throwMany 68 = .ok (.iload 5, 2) := by decide +kernel
theorem dX11_throwMany_70 : decode cX11_throwMany 70 = .ok (.iload 7, 2) := by decide +kernel
theorem dX11_throwMany_72 : decode cX11_throwMany 72 = .ok (.iadd, 1) := by decide +kernel
theorem dX11_throwMany_73 : decode cX11_throwMany 73 = .ok (.istore 5, 2) := by decide +kernel
theorem dX11_throwMany_75 : decode cX11_throwMany 75 = .ok (.iinc 6 1, 3) := by decide +kernel
theorem dX11_throwMany_78 : decode cX11_throwMany 78 = .ok (.goto (-72), 3) := by decide +kernel
theorem dX11_throwMany_81 : decode cX11_throwMany 81 = .ok (.iload 5, 2) := by decide +kernel
theorem dX11_throwMany_83 : decode cX11_throwMany 83 = .ok (.ireturn, 1) := by decide +kernel
theorem dX11_isOf_0 : decode cX11_isOf 0 = .ok (.aload_n 0, 1) := by decide +kernel
theorem dX11_isOf_1 : decode cX11_isOf 1 = .ok (.iload_n 1, 1) := by decide +kernel
theorem dX11_isOf_2 : decode cX11_isOf 2 = .ok (.invokestatic 85, 3) := by decide +kernel
theorem dX11_isOf_5 : decode cX11_isOf 5 = .ok (.iconst 0, 1) := by decide +kernel
theorem dX11_isOf_6 : decode cX11_isOf 6 = .ok (.iadd, 1) := by decide +kernel
theorem dX11_isOf_7 : decode cX11_isOf 7 = .ok (.iaload, 1) := by decide +kernel
theorem dX11_isOf_8 : decode cX11_isOf 8 = .ok (.iload_n 2, 1) := by decide +kernel
theorem dX11_isOf_9 : decode cX11_isOf 9 = .ok (.if_icmp .ne 19, 3) := by decide +kernel
theorem dX11_isOf_12 : decode cX11_isOf 12 = .ok (.aload_n 0, 1) := by decide +kernel
theorem dX11_isOf_13 : decode cX11_isOf 13 = .ok (.iload_n 1, 1) := by decide +kernel
theorem dX11_isOf_14 : decode cX11_isOf 14 = .ok (.invokestatic 85, 3) := by decide +kernel
theorem dX11_isOf_17 : decode cX11_isOf 17 = .ok (.iconst 1, 1) := by decide +kernel
theorem dX11_isOf_18 : decode cX11_isOf 18 = .ok (.iadd, 1) := by decide +kernel
theorem dX11_isOf_19 : decode cX11_isOf 19 = .ok (.iaload, 1) := by decide +kernel
theorem dX11_isOf_20 : decode cX11_isOf 20 = .ok (.iload_n 3, 1) := by decide +kernel
theorem dX11_isOf_21 : decode cX11_isOf 21 = .ok (.if_icmp .ne 7, 3) := by decide +kernel
theorem dX11_isOf_24 : decode cX11_isOf 24 = .ok (.iconst 1, 1) := by decide +kernel
theorem dX11_isOf_25 : decode cX11_isOf 25 = .ok (.goto 4, 3) := by decide +kernel
theorem dX11_isOf_28 : decode cX11_isOf 28 = .ok (.iconst 0, 1) := by decide +kernel
theorem dX11_isOf_29 : decode cX11_isOf 29 = .ok (.ireturn, 1) := by decide +kernel
theorem dX11_ofPair_0 : decode cX11_ofPair 0 = .ok (.iconst 0, 1) := by decide +kernel
theorem dX11_ofPair_1 : decode cX11_ofPair 1 = .ok (.istore_n 3, 1) := by decide +kernel
theorem dX11_ofPair_2 : decode cX11_ofPair 2 = .ok (.iconst 0, 1) := by decide +kernel
theorem dX11_ofPair_3 : decode cX11_ofPair 3 = .ok (.istore 4, 2) := by decide +kernel
theorem dX11_ofPair_5 : decode cX11_ofPair 5 = .ok (.iload 4, 2) := by decide +kernel
theorem dX11_ofPair_7 : decode cX11_ofPair 7 = .ok (.aload_n 0, 1) := by decide +kernel
theorem dX11_ofPair_8 : decode cX11_ofPair 8 = .ok (.iconst 5, 1) := by decide +kernel
theorem dX11_ofPair_9 : decode cX11_ofPair 9 = .ok (.iaload, 1) := by decide +kernel
theorem dX11_ofPair_10 : decode cX11_ofPair 10 = .ok (.if_icmp .ge 28, 3) := by decide +kernel
theorem dX11_ofPair_13 : decode cX11_ofPair 13 = .ok (.iload_n 3, 1) := by decide +kernel
theorem dX11_ofPair_14 : decode cX11_ofPair 14 = .ok (.aload_n 0, 1) := by decide +kernel
theorem dX11_ofPair_15 : decode cX11_ofPair 15 = .ok (.iload 4, 2) := by decide +kernel
theorem dX11_ofPair_17 : decode cX11_ofPair 17 = .ok (.iload_n 1, 1) := by decide +kernel
theorem dX11_ofPair_18 : decode cX11_ofPair 18 = .ok (.iload_n 2, 1) := by decide +kernel
theorem dX11_ofPair_19 : decode cX11_ofPair 19 = .ok (.invokestatic 98, 3) := by decide +kernel
theorem dX11_ofPair_22 : decode cX11_ofPair 22 = .ok (.ifCond .eq 7, 3) := by decide +kernel
theorem dX11_ofPair_25 : decode cX11_ofPair 25 = .ok (.iconst 1, 1) := by decide +kernel
theorem dX11_ofPair_26 : decode cX11_ofPair 26 = .ok (.goto 4, 3) := by decide +kernel
theorem dX11_ofPair_29 : decode cX11_ofPair 29 = .ok (.iconst 0, 1) := by decide +kernel
theorem dX11_ofPair_30 : decode cX11_ofPair 30 = .ok (.iadd, 1) := by decide +kernel
theorem dX11_ofPair_31 : decode cX11_ofPair 31 = .ok (.istore_n 3, 1) := by decide +kernel
theorem dX11_ofPair_32 : decode cX11_ofPair 32 = .ok (.iinc 4 1, 3) := by decide +kernel
theorem dX11_ofPair_35 : decode cX11_ofPair 35 = .ok (.goto (-30), 3) := by decide +kernel
theorem dX11_ofPair_38 : decode cX11_ofPair 38 = .ok (.iload_n 3, 1) := by decide +kernel
theorem dX11_ofPair_39 : decode cX11_ofPair 39 = .ok (.ireturn, 1) := by decide +kernel
theorem dX11_countPair_0 : decode cX11_countPair 0 = .ok (.aload_n 0, 1) := by decide +kernel
theorem dX11_countPair_1 : decode cX11_countPair 1 = .ok (.iconst 0, 1) := by decide +kernel
theorem dX11_countPair_2 : decode cX11_countPair 2 = .ok (.putfield 102, 3) := by decide +kernel
theorem dX11_countPair_5 : decode cX11_countPair 5 = .ok (.iconst 0, 1) := by decide +kernel
theorem dX11_countPair_6 : decode cX11_countPair 6 = .ok (.istore 4, 2) := by decide +kernel
theorem dX11_countPair_8 : decode cX11_countPair 8 = .ok (.iload 4, 2) := by decide +kernel
theorem dX11_countPair_10 : decode cX11_countPair 10 = .ok (.bipush 12, 2) := by decide +kernel
theorem dX11_countPair_12 : decode cX11_countPair 12 = .ok (.if_icmp .gt 17, 3) := by decide +kernel
theorem dX11_countPair_15 : decode cX11_countPair 15 = .ok (.aload_n 0, 1) := by decide +kernel
theorem dX11_countPair_16 : decode cX11_countPair 16 = .ok (.getfield 26, 3) := by decide +kernel
theorem dX11_countPair_19 : decode cX11_countPair 19 = .ok (.iload 4, 2) := by decide +kernel
theorem dX11_countPair_21 : decode cX11_countPair 21 = .ok (.iconst 0, 1) := by decide +kernel
theorem dX11_countPair_22 : decode cX11_countPair 22 = .ok (.iastore, 1) := by decide +kernel
theorem dX11_countPair_23 : decode cX11_countPair 23 = .ok (.iinc 4 1, 3) := by decide +kernel
theorem dX11_countPair_26 : decode cX11_countPair 26 = .ok (.goto (-18), 3) := by decide +kernel
theorem dX11_countPair_29 : decode cX11_countPair 29 = .ok (.iconst 0, 1) := by decide +kernel
theorem dX11_countPair_30 : decode cX11_countPair 30 = .ok (.istore 4, 2) := by decide +kernel
theorem dX11_countPair_32 : decode cX11_countPair 32 = .ok (.iload 4, 2) := by decide +kernel
theorem dX11_countPair_34 : decode cX11_countPair 34 = .ok (.aload_n 1, 1) := by decide +kernel
theorem dX11_countPair_35 : decode cX11_countPair 35 = .ok (.iconst 5, 1) := by decide +kernel
theorem dX11_countPair_36 : decode cX11_countPair 36 = .ok (.iaload, 1) := by decide +kernel
theorem dX11_countPair_37 : decode cX11_countPair 37 = .ok (.if_icmp .ge 48, 3) := by decide +kernel
theorem dX11_countPair_40 : decode cX11_countPair 40 = .ok (.aload_n 1, 1) := by decide +kernel
theorem dX11_countPair_41 : decode cX11_countPair 41 = .ok (.iload 4, 2) := by decide +kernel
theorem dX11_countPair_43 : decode cX11_countPair 43 = .ok (.iload_n 2, 1) := by decide +kernel
theorem dX11_countPair_44 : decode cX11_countPair 44 = .ok (.iload_n 3, 1) := by decide +kernel
theorem dX11_countPair_45 : decode cX11_countPair 45 = .ok (.invokestatic 98, 3) := by decide +kernel
theorem dX11_countPair_48 : decode cX11_countPair 48 = .ok (.ifCond .eq 31, 3) := by decide +kernel
theorem dX11_countPair_51 : decode cX11_countPair 51 = .ok (.aload_n 0, 1) := by decide +kernel
theorem dX11_countPair_52 : decode cX11_countPair 52 = .ok (.getfield 26, 3) := by decide +kernel
theorem dX11_countPair_55 : decode cX11_countPair 55 = .ok (.aload_n 1, 1) := by decide +kernel
theorem dX11_countPair_56 : decode cX11_countPair 56 = .ok (.iload 4, 2) := by decide +kernel
theorem dX11_countPair_58 : decode cX11_countPair 58 = .ok (.invokestatic 85, 3) := by decide +kernel
theorem dX11_countPair_61 : decode cX11_countPair 61 = .ok (.iconst 2, 1) := by decide +kernel
theorem dX11_countPair_62 : decode cX11_countPair 62 = .ok (.iadd, 1) := by decide +kernel
theorem dX11_countPair_63 : decode cX11_countPair 63 = .ok (.iaload, 1) := by decide +kernel
theorem dX11_countPair_64 : decode cX11_countPair 64 = .ok (.dup2, 1) := by decide +kernel
theorem dX11_countPair_65 : decode cX11_countPair 65 = .ok (.iaload, 1) := by decide +kernel
theorem dX11_countPair_66 : decode cX11_countPair 66 = .ok (.iconst 1, 1) := by decide +kernel
theorem dX11_countPair_67 : decode cX11_countPair 67 = .ok (.iadd, 1) := by decide +kernel
theorem dX11_countPair_68 : decode cX11_countPair 68 = .ok (.iastore, 1) := by decide +kernel
theorem dX11_countPair_69 : decode cX11_countPair 69 = .ok (.aload_n 0, 1) := by decide +kernel
theorem dX11_countPair_70 : decode cX11_countPair 70 = .ok (.dup, 1) := by decide +kernel
theorem dX11_countPair_71 : decode cX11_countPair 71 = .ok (.getfield 102, 3) := by decide +kernel
theorem dX11_countPair_74 : decode cX11_countPair 74 = .ok (.iconst 1, 1) := by decide +kernel
theorem dX11_countPair_75 : decode cX11_countPair 75 = .ok (.iadd, 1) := by decide +kernel
theorem dX11_countPair_76 : decode cX11_countPair 76 = .ok (.putfield 102, 3) := by decide +kernel
theorem dX11_countPair_79 : decode cX11_countPair 79 = .ok (.iinc 4 1, 3) := by decide +kernel
theorem dX11_countPair_82 : decode cX11_countPair 82 = .ok (.goto (-50), 3) := by decide +kernel
theorem dX11_countPair_85 : decode cX11_countPair 85 = .ok (.return_, 1) := by decide +kernel
theorem dX11_scoreOfCounts_0 : decode cX11_scoreOfCounts 0 = .ok (.iconst 0, 1) := by decide +kernel
theorem dX11_scoreOfCounts_1 : decode cX11_scoreOfCounts 1 = .ok (.istore_n 2, 1) := by decide +kernel
theorem dX11_scoreOfCounts_2 : decode cX11_scoreOfCounts 2 = .ok (.iconst 1, 1) := by decide +kernel
theorem dX11_scoreOfCounts_3 : decode cX11_scoreOfCounts 3 = .ok (.istore_n 3, 1) := by decide +kernel
theorem dX11_scoreOfCounts_4 : decode cX11_scoreOfCounts 4 = .ok (.iload_n 3, 1) := by decide +kernel
theorem dX11_scoreOfCounts_5 : decode cX11_scoreOfCounts 5 = .ok (.iload_n 1, 1) := by decide +kernel
theorem dX11_scoreOfCounts_6 : decode cX11_scoreOfCounts 6 = .ok (.if_icmp .gt 32, 3) := by decide +kernel
theorem dX11_scoreOfCounts_9 : decode cX11_scoreOfCounts 9 = .ok (.iload_n 1, 1) := by decide +kernel
theorem dX11_scoreOfCounts_10 : decode cX11_scoreOfCounts 10 = .ok (.aload_n 0, 1) := by decide +kernel
theorem dX11_scoreOfCounts_11 : decode cX11_scoreOfCounts 11 = .ok (.getfield 26, 3) := by decide +kernel
theorem dX11_scoreOfCounts_14 : decode cX11_scoreOfCounts 14 = .ok (.iload_n 3, 1) := by decide +kernel
theorem dX11_scoreOfCounts_15 : decode cX11_scoreOfCounts 15 = .ok (.iaload, 1) := by decide +kernel
theorem dX11_scoreOfCounts_16 : decode cX11_scoreOfCounts 16 = .ok (.imul, 1) := by decide +kernel
theorem dX11_scoreOfCounts_17 : decode cX11_scoreOfCounts 17 = .ok (.aload_n 0, 1) := by decide +kernel
theorem dX11_scoreOfCounts_18 : decode cX11_scoreOfCounts 18 = .ok (.getfield 102, 3) := by decide +kernel
theorem dX11_scoreOfCounts_21 : decode cX11_scoreOfCounts 21 = .ok (.isub, 1) := by decide +kernel
theorem dX11_scoreOfCounts_22 : decode cX11_scoreOfCounts 22 = .ok (.istore 4, 2) := by decide +kernel
theorem dX11_scoreOfCounts_24 : decode cX11_scoreOfCounts 24 = .ok (.iload_n 2, 1) := by decide +kernel
theorem dX11_scoreOfCounts_25 : decode cX11_scoreOfCounts 25 = .ok (.iload 4, 2) := by decide +kernel
theorem dX11_scoreOfCounts_27 : decode cX11_scoreOfCounts 27 = .ok (.iload 4, 2) := by decide +kernel
theorem dX11_scoreOfCounts_29 : decode cX11_scoreOfCounts 29 = .ok (.imul, 1) := by decide +kernel
theorem dX11_scoreOfCounts_30 : decode cX11_scoreOfCounts 30 = .ok (.iadd, 1) := by decide +kernel
theorem dX11_scoreOfCounts_31 : decode cX11_scoreOfCounts 31 = .ok (.istore_n 2, 1) := by decide +kernel
theorem dX11_scoreOfCounts_32 : decode cX11_scoreOfCounts 32 = .ok (.iinc 3 1, 3) := by decide +kernel
theorem dX11_scoreOfCounts_35 : decode cX11_scoreOfCounts 35 = .ok (.goto (-31), 3) := by decide +kernel
theorem dX11_scoreOfCounts_38 : decode cX11_scoreOfCounts 38 = .ok (.aload_n 0, 1) := by decide +kernel
theorem dX11_scoreOfCounts_39 : decode cX11_scoreOfCounts 39 = .ok (.getfield 102, 3) := by decide +kernel
theorem dX11_scoreOfCounts_42 : decode cX11_scoreOfCounts 42 = .ok (.ifCond .ne 7, 3) := by decide +kernel
theorem dX11_scoreOfCounts_45 : decode cX11_scoreOfCounts 45 = .ok (.iconst 0, 1) := by decide +kernel
theorem dX11_scoreOfCounts_46 : decode cX11_scoreOfCounts 46 = .ok (.goto 11, 3) := by decide +kernel
theorem dX11_scoreOfCounts_49 : decode cX11_scoreOfCounts 49 = .ok (.iload_n 2, 1) := by decide +kernel
theorem dX11_scoreOfCounts_50 : decode cX11_scoreOfCounts 50 = .ok (.aload_n 0, 1) := by decide +kernel
theorem dX11_scoreOfCounts_51 : decode cX11_scoreOfCounts 51 = .ok (.getfield 102, 3) := by decide +kernel
theorem dX11_scoreOfCounts_54 : decode cX11_scoreOfCounts 54 = .ok (.iload_n 1, 1) := by decide +kernel
theorem dX11_scoreOfCounts_55 : decode cX11_scoreOfCounts 55 = .ok (.imul, 1) := by decide +kernel
theorem dX11_scoreOfCounts_56 : decode cX11_scoreOfCounts 56 = .ok (.idiv, 1) := by decide +kernel
theorem dX11_scoreOfCounts_57 : decode cX11_scoreOfCounts 57 = .ok (.ireturn, 1) := by decide +kernel
theorem dX11_scoreOf_0 : decode cX11_scoreOf 0 = .ok (.aload_n 0, 1) := by decide +kernel
theorem dX11_scoreOf_1 : decode cX11_scoreOf 1 = .ok (.aload_n 1, 1) := by decide +kernel
theorem dX11_scoreOf_2 : decode cX11_scoreOf 2 = .ok (.iload_n 2, 1) := by decide +kernel
theorem dX11_scoreOf_3 : decode cX11_scoreOf 3 = .ok (.iload_n 3, 1) := by decide +kernel
theorem dX11_scoreOf_4 : decode cX11_scoreOf 4 = .ok (.invokevirtual 105, 3) := by decide +kernel
theorem dX11_scoreOf_7 : decode cX11_scoreOf 7 = .ok (.aload_n 0, 1) := by decide +kernel
theorem dX11_scoreOf_8 : decode cX11_scoreOf 8 = .ok (.aload_n 1, 1) := by decide +kernel
theorem dX11_scoreOf_9 : decode cX11_scoreOf 9 = .ok (.iload_n 3, 1) := by decide +kernel
theorem dX11_scoreOf_10 : decode cX11_scoreOf 10 = .ok (.invokestatic 73, 3) := by decide +kernel
theorem dX11_scoreOf_13 : decode cX11_scoreOf 13 = .ok (.invokevirtual 109, 3) := by decide +kernel
theorem dX11_scoreOf_16 : decode cX11_scoreOf 16 = .ok (.ireturn, 1) := by decide +kernel
theorem dX11_isBad_0 : decode cX11_isBad 0 = .ok (.aload_n 0, 1) := by decide +kernel
theorem dX11_isBad_1 : decode cX11_isBad 1 = .ok (.getfield 102, 3) := by decide +kernel
theorem dX11_isBad_4 : decode cX11_isBad 4 = .ok (.aload_n 1, 1) := by decide +kernel
theorem dX11_isBad_5 : decode cX11_isBad 5 = .ok (.iconst 1, 1) := by decide +kernel
theorem dX11_isBad_6 : decode cX11_isBad 6 = .ok (.iaload, 1) := by decide +kernel
theorem dX11_isBad_7 : decode cX11_isBad 7 = .ok (.if_icmp .lt 18, 3) := by decide +kernel
theorem dX11_isBad_10 : decode cX11_isBad 10 = .ok (.aload_n 0, 1) := by decide +kernel
theorem dX11_isBad_11 : decode cX11_isBad 11 = .ok (.iload_n 2, 1) := by decide +kernel
theorem dX11_isBad_12 : decode cX11_isBad 12 = .ok (.invokevirtual 109, 3) := by decide +kernel
theorem dX11_isBad_15 : decode cX11_isBad 15 = .ok (.aload_n 1, 1) := by decide +kernel
theorem dX11_isBad_16 : decode cX11_isBad 16 = .ok (.iconst 2, 1) := by decide +kernel
theorem dX11_isBad_17 : decode cX11_isBad 17 = .ok (.iaload, 1) := by decide +kernel
theorem dX11_isBad_18 : decode cX11_isBad 18 = .ok (.if_icmp .le 7, 3) := by decide +kernel
theorem dX11_isBad_21 : decode cX11_isBad 21 = .ok (.iconst 1, 1) := by decide +kernel
theorem dX11_isBad_22 : decode cX11_isBad 22 = .ok (.goto 4, 3) := by decide +kernel
theorem dX11_isBad_25 : decode cX11_isBad 25 = .ok (.iconst 0, 1) := by decide +kernel
theorem dX11_isBad_26 : decode cX11_isBad 26 = .ok (.ireturn, 1) := by decide +kernel
theorem dX11_suspects_0 : decode cX11_suspects 0 = .ok (.aload_n 0, 1) := by decide +kernel
theorem dX11_suspects_1 : decode cX11_suspects 1 = .ok (.aload_n 1, 1) := by decide +kernel
theorem dX11_suspects_2 : decode cX11_suspects 2 = .ok (.iload_n 2, 1) := by decide +kernel
theorem dX11_suspects_3 : decode cX11_suspects 3 = .ok (.iload_n 3, 1) := by decide +kernel
theorem dX11_suspects_4 : decode cX11_suspects 4 = .ok (.invokevirtual 105, 3) := by decide +kernel
theorem dX11_suspects_7 : decode cX11_suspects 7 = .ok (.aload_n 0, 1) := by decide +kernel
theorem dX11_suspects_8 : decode cX11_suspects 8 = .ok (.aload_n 1, 1) := by decide +kernel
theorem dX11_suspects_9 : decode cX11_suspects 9 = .ok (.aload_n 1, 1) := by decide +kernel
theorem dX11_suspects_10 : decode cX11_suspects 10 = .ok (.iload_n 3, 1) := by decide +kernel
theorem dX11_suspects_11 : decode cX11_suspects 11 = .ok (.invokestatic 73, 3) := by decide +kernel
theorem dX11_suspects_14 : decode cX11_suspects 14 = .ok (.invokevirtual 112, 3) := by decide +kernel
theorem dX11_suspects_17 : decode cX11_suspects 17 = .ok (.ireturn, 1) := by decide +kernel
theorem dX11_hasOffence_0 : decode cX11_hasOffence 0 = .ok (.iconst 0, 1) := by decide +kernel
theorem dX11_hasOffence_1 : decode cX11_hasOffence 1 = .ok (.istore_n 3, 1) := by decide +kernel
theorem dX11_hasOffence_2 : decode cX11_hasOffence 2 = .ok (.iload_n 3, 1) := by decide +kernel
theorem dX11_hasOffence_3 : decode cX11_hasOffence 3 = .ok (.aload_n 0, 1) := by decide +kernel
theorem dX11_hasOffence_4 : decode cX11_hasOffence 4 = .ok (.bipush 6, 2) := by decide +kernel
theorem dX11_hasOffence_6 : decode cX11_hasOffence 6 = .ok (.iaload, 1) := by decide +kernel
theorem dX11_hasOffence_7 : decode cX11_hasOffence 7 = .ok (.if_icmp .ge 35, 3) := by decide +kernel
theorem dX11_hasOffence_10 : decode cX11_hasOffence 10 = .ok (.aload_n 0, 1) := by decide +kernel
theorem dX11_hasOffence_11 : decode cX11_hasOffence 11 = .ok (.iload_n 3, 1) := by decide +kernel
theorem dX11_hasOffence_12 : decode cX11_hasOffence 12 = .ok (.invokestatic 116, 3) := by decide +kernel
theorem dX11_hasOffence_15 : decode cX11_hasOffence 15 = .ok (.iconst 0, 1) := by decide +kernel
theorem dX11_hasOffence_16 : decode cX11_hasOffence 16 = .ok (.iadd, 1) := by decide +kernel
theorem dX11_hasOffence_17 : decode cX11_hasOffence 17 = .ok (.iaload, 1) := by decide +kernel
theorem dX11_hasOffence_18 : decode cX11_hasOffence 18 = .ok (.iload_n 1, 1) := by decide +kernel
theorem dX11_hasOffence_19 : decode cX11_hasOffence 19 = .ok (.if_icmp .ne 17, 3) := by decide +kernel
theorem dX11_hasOffence_22 : decode cX11_hasOffence 22 = .ok (.aload_n 0, 1) := by decide +kernel
theorem dX11_hasOffence_23 : decode cX11_hasOffence 23 = .ok (.iload_n 3, 1) := by decide +kernel
theorem dX11_hasOffence_24 : decode cX11_hasOffence 24 = .ok (.invokestatic 116, 3) := by decide +kernel
theorem dX11_hasOffence_27 : decode cX11_hasOffence 27 = .ok (.iconst 1, 1) := by decide +kernel
theorem dX11_hasOffence_28 : decode cX11_hasOffence 28 = .ok (.iadd, 1) := by decide +kernel
theorem dX11_hasOffence_29 : decode cX11_hasOffence 29 = .ok (.iaload, 1) := by decide +kernel
theorem dX11_hasOffence_30 : decode cX11_hasOffence 30 = .ok (.iload_n 2, 1) := by decide +kernel
theorem dX11_hasOffence_31 : decode cX11_hasOffence 31 = .ok (.if_icmp .ne 5, 3) := by decide +kernel
theorem dX11_hasOffence_34 : decode cX11_hasOffence 34 = .ok (.iconst 1, 1) := by decide +kernel
theorem dX11_hasOffence_35 : decode cX11_hasOffence 35 = .ok (.ireturn, 1) := by decide +kernel
theorem dX11_hasOffence_36 : decode cX11_hasOffence 36 = .ok (.iinc 3 1, 3) := by decide +kernel
theorem dX11_hasOffence_39 : decode cX11_hasOffence 39 = .ok (.goto (-37), 3) := by decide +kernel
theorem dX11_hasOffence_42 : decode cX11_hasOffence 42 = .ok (.iconst 0, 1) := by decide +kernel
theorem dX11_hasOffence_43 : decode cX11_hasOffence 43 = .ok (.ireturn, 1) := by decide +kernel
theorem dX11_isAhead_0 : decode cX11_isAhead 0 = .ok (.aload_n 0, 1) := by decide +kernel
theorem dX11_isAhead_1 : decode cX11_isAhead 1 = .ok (.iload_n 1, 1) := by decide +kernel
theorem dX11_isAhead_2 : decode cX11_isAhead 2 = .ok (.iconst 2, 1) := by decide +kernel
theorem dX11_isAhead_3 : decode cX11_isAhead 3 = .ok (.iadd, 1) := by decide +kernel
theorem dX11_isAhead_4 : decode cX11_isAhead 4 = .ok (.iaload, 1) := by decide +kernel
theorem dX11_isAhead_5 : decode cX11_isAhead 5 = .ok (.iload 4, 2) := by decide +kernel
theorem dX11_isAhead_7 : decode cX11_isAhead 7 = .ok (.if_icmp .eq 19, 3) := by decide +kernel
theorem dX11_isAhead_10 : decode cX11_isAhead 10 = .ok (.aload_n 0, 1) := by decide +kernel
theorem dX11_isAhead_11 : decode cX11_isAhead 11 = .ok (.iload_n 1, 1) := by decide +kernel
theorem dX11_isAhead_12 : decode cX11_isAhead 12 = .ok (.iconst 2, 1) := by decide +kernel
theorem dX11_isAhead_13 : decode cX11_isAhead 13 = .ok (.iadd, 1) := by decide +kernel
theorem dX11_isAhead_14 : decode cX11_isAhead 14 = .ok (.iaload, 1) := by decide +kernel
theorem dX11_isAhead_15 : decode cX11_isAhead 15 = .ok (.iload 4, 2) := by decide +kernel
theorem dX11_isAhead_17 : decode cX11_isAhead 17 = .ok (.if_icmp .le 7, 3) := by decide +kernel
theorem dX11_isAhead_20 : decode cX11_isAhead 20 = .ok (.iconst 1, 1) := by decide +kernel
theorem dX11_isAhead_21 : decode cX11_isAhead 21 = .ok (.goto 4, 3) := by decide +kernel
theorem dX11_isAhead_24 : decode cX11_isAhead 24 = .ok (.iconst 0, 1) := by decide +kernel
theorem dX11_isAhead_25 : decode cX11_isAhead 25 = .ok (.ireturn, 1) := by decide +kernel
theorem dX11_isAhead_26 : decode cX11_isAhead 26 = .ok (.aload_n 0, 1) := by decide +kernel
theorem dX11_isAhead_27 : decode cX11_isAhead 27 = .ok (.iload_n 1, 1) := by decide +kernel
theorem dX11_isAhead_28 : decode cX11_isAhead 28 = .ok (.iconst 0, 1) := by decide +kernel
theorem dX11_isAhead_29 : decode cX11_isAhead 29 = .ok (.iadd, 1) := by decide +kernel
theorem dX11_isAhead_30 : decode cX11_isAhead 30 = .ok (.iaload, 1) := by decide +kernel
theorem dX11_isAhead_31 : decode cX11_isAhead 31 = .ok (.iload_n 2, 1) := by decide +kernel
theorem dX11_isAhead_32 : decode cX11_isAhead 32 = .ok (.if_icmp .eq 20, 3) := by decide +kernel
theorem dX11_isAhead_35 : decode cX11_isAhead 35 = .ok (.aload_n 0, 1) := by decide +kernel
theorem dX11_isAhead_36 : decode cX11_isAhead 36 = .ok (.iload_n 1, 1) := by decide +kernel
theorem dX11_isAhead_37 : decode cX11_isAhead 37 = .ok (.iconst 0, 1) := by decide +kernel
theorem dX11_isAhead_38 : decode cX11_isAhead 38 = .ok (.iadd, 1) := by decide +kernel
theorem dX11_isAhead_39 : decode cX11_isAhead 39 = .ok (.iaload, 1) := by decide +kernel
theorem dX11_isAhead_40 : decode cX11_isAhead 40 = .ok (.iload_n 2, 1) := by decide +kernel
theorem dX11_isAhead_41 : decode cX11_isAhead 41 = .ok (.if_icmp .ge 7, 3) := by decide +kernel
theorem dX11_isAhead_44 : decode cX11_isAhead 44 = .ok (.iconst 1, 1) := by decide +kernel
theorem dX11_isAhead_45 : decode cX11_isAhead 45 = .ok (.goto 21, 3) := by decide +kernel
theorem dX11_isAhead_48 : decode cX11_isAhead 48 = .ok (.iconst 0, 1) := by decide +kernel
theorem dX11_isAhead_49 : decode cX11_isAhead 49 = .ok (.goto 17, 3) := by decide +kernel
theorem dX11_isAhead_52 : decode cX11_isAhead 52 = .ok (.aload_n 0, 1) := by decide +kernel
theorem dX11_isAhead_53 : decode cX11_isAhead 53 = .ok (.iload_n 1, 1) := by decide +kernel
theorem dX11_isAhead_54 : decode cX11_isAhead 54 = .ok (.iconst 1, 1) := by decide +kernel
theorem dX11_isAhead_55 : decode cX11_isAhead 55 = .ok (.iadd, 1) := by decide +kernel
theorem dX11_isAhead_56 : decode cX11_isAhead 56 = .ok (.iaload, 1) := by decide +kernel
theorem dX11_isAhead_57 : decode cX11_isAhead 57 = .ok (.iload_n 3, 1) := by decide +kernel
theorem dX11_isAhead_58 : decode cX11_isAhead 58 = .ok (.if_icmp .ge 7, 3) := by decide +kernel
theorem dX11_isAhead_61 : decode cX11_isAhead 61 = .ok (.iconst 1, 1) := by decide +kernel
theorem dX11_isAhead_62 : decode cX11_isAhead 62 = .ok (.goto 4, 3) := by decide +kernel
theorem dX11_isAhead_65 : decode cX11_isAhead 65 = .ok (.iconst 0, 1) := by decide +kernel
theorem dX11_isAhead_66 : decode cX11_isAhead 66 = .ok (.ireturn, 1) := by decide +kernel
theorem dX11_layOffence_0 : decode cX11_layOffence 0 = .ok (.aload_n 0, 1) := by decide +kernel
theorem dX11_layOffence_1 : decode cX11_layOffence 1 = .ok (.bipush 6, 2) := by decide +kernel
theorem dX11_layOffence_3 : decode cX11_layOffence 3 = .ok (.iaload, 1) := by decide +kernel
theorem dX11_layOffence_4 : decode cX11_layOffence 4 = .ok (.istore 4, 2) := by decide +kernel
theorem dX11_layOffence_6 : decode cX11_layOffence 6 = .ok (.iload 4, 2) := by decide +kernel
theorem dX11_layOffence_8 : decode cX11_layOffence 8 = .ok (.ifCond .le 63, 3) := by decide +kernel
theorem dX11_layOffence_11 : decode cX11_layOffence 11 = .ok (.aload_n 0, 1) := by decide +kernel
theorem dX11_layOffence_12 : decode cX11_layOffence 12 = .ok (.iload 4, 2) := by decide +kernel
theorem dX11_layOffence_14 : decode cX11_layOffence 14 = .ok (.iconst 1, 1) := by decide +kernel
theorem dX11_layOffence_15 : decode cX11_layOffence 15 = .ok (.isub, 1) := by decide +kernel
theorem dX11_layOffence_16 : decode cX11_layOffence 16 = .ok (.invokestatic 116, 3) := by decide +kernel
theorem dX11_layOffence_19 : decode cX11_layOffence 19 = .ok (.iload_n 1, 1) := by decide +kernel
theorem dX11_layOffence_20 : decode cX11_layOffence 20 = .ok (.iload_n 2, 1) := by decide +kernel
theorem dX11_layOffence_21 : decode cX11_layOffence 21 = .ok (.iload_n 3, 1) := by decide +kernel
theorem dX11_layOffence_22 : decode cX11_layOffence 22 = .ok (.invokestatic 119, 3) := by decide +kernel
theorem dX11_layOffence_25 : decode cX11_layOffence 25 = .ok (.ifCond .ne 46, 3) := by decide +kernel
theorem dX11_layOffence_28 : decode cX11_layOffence 28 = .ok (.iconst 0, 1) := by decide +kernel
theorem dX11_layOffence_29 : decode cX11_layOffence 29 = .ok (.istore 5, 2) := by decide +kernel
theorem dX11_layOffence_31 : decode cX11_layOffence 31 = .ok (.iload 5, 2) := by decide +kernel
theorem dX11_layOffence_33 : decode cX11_layOffence 33 = .ok (.iconst 3, 1) := by decide +kernel
theorem dX11_layOffence_34 : decode cX11_layOffence 34 = .ok (.if_icmp .ge 31, 3) := by decide +kernel
theorem dX11_layOffence_37 : decode cX11_layOffence 37 = .ok (.aload_n 0, 1) := by decide +kernel
theorem dX11_layOffence_38 : decode cX11_layOffence 38 = .ok (.iload 4, 2) := by decide +kernel
theorem dX11_layOffence_40 : decode cX11_layOffence 40 = .ok (.invokestatic 116, 3) := by decide +kernel
theorem dX11_layOffence_43 : decode cX11_layOffence 43 = .ok (.iload 5, 2) := by decide +kernel
theorem dX11_layOffence_45 : decode cX11_layOffence 45 = .ok (.iadd, 1) := by decide +kernel
theorem dX11_layOffence_46 : decode cX11_layOffence 46 = .ok (.aload_n 0, 1) := by decide +kernel
theorem dX11_layOffence_47 : decode cX11_layOffence 47 = .ok (.iload 4, 2) := by decide +kernel
theorem dX11_layOffence_49 : decode cX11_layOffence 49 = .ok (.iconst 1, 1) := by decide +kernel
theorem dX11_layOffence_50 : decode cX11_layOffence 50 = .ok (.isub, 1) := by decide +kernel
theorem dX11_layOffence_51 : decode cX11_layOffence 51 = .ok (.invokestatic 116, 3) := by decide +kernel
theorem dX11_layOffence_54 : decode cX11_layOffence 54 = .ok (.iload 5, 2) := by decide +kernel
theorem dX11_layOffence_56 : decode cX11_layOffence 56 = .ok (.iadd, 1) := by decide +kernel
theorem dX11_layOffence_57 : decode cX11_layOffence 57 = .ok (.iaload, 1) := by decide +kernel
theorem dX11_layOffence_58 : decode cX11_layOffence 58 = .ok (.iastore, 1) := by decide +kernel
theorem dX11_layOffence_59 : decode cX11_layOffence 59 = .ok (.iinc 5 1, 3) := by decide +kernel
theorem dX11_layOffence_62 : decode cX11_layOffence 62 = .ok (.goto (-31), 3) := by decide +kernel
theorem dX11_layOffence_65 : decode cX11_layOffence 65 = .ok (.iinc 4 (-1), 3) := by decide +kernel
theorem dX11_layOffence_68 : decode cX11_layOffence 68 = .ok (.goto (-62), 3) := by decide +kernel
theorem dX11_layOffence_71 : decode cX11_layOffence 71 = .ok (.aload_n 0, 1) := by decide +kernel
theorem dX11_layOffence_72 : decode cX11_layOffence 72 = .ok (.iload 4, 2) := by decide +kernel
theorem dX11_layOffence_74 : decode cX11_layOffence 74 = .ok (.invokestatic 116, 3) := by decide +kernel
theorem dX11_layOffence_77 : decode cX11_layOffence 77 = .ok (.iconst 0, 1) := by decide +kernel
theorem dX11_layOffence_78 : decode cX11_layOffence 78 = .ok (.iadd, 1) := by decide +kernel
theorem dX11_layOffence_79 : decode cX11_layOffence 79 = .ok (.iload_n 1, 1) := by decide +kernel
theorem dX11_layOffence_80 : decode cX11_layOffence 80 = .ok (.iastore, 1) := by decide +kernel
theorem dX11_layOffence_81 : decode cX11_layOffence 81 = .ok (.aload_n 0, 1) := by decide +kernel
theorem dX11_layOffence_82 : decode cX11_layOffence 82 = .ok (.iload 4, 2) := by decide +kernel
theorem dX11_layOffence_84 : decode cX11_layOffence 84 = .ok (.invokestatic 116, 3) := by decide +kernel
theorem dX11_layOffence_87 : decode cX11_layOffence 87 = .ok (.iconst 1, 1) := by decide +kernel
theorem dX11_layOffence_88 : decode cX11_layOffence 88 = .ok (.iadd, 1) := by decide +kernel
theorem dX11_layOffence_89 : decode cX11_layOffence 89 = .ok (.iload_n 2, 1) := by decide +kernel
theorem dX11_layOffence_90 : decode cX11_layOffence 90 = .ok (.iastore, 1) := by decide +kernel
theorem dX11_layOffence_91 : decode cX11_layOffence 91 = .ok (.aload_n 0, 1) := by decide +kernel
theorem dX11_layOffence_92 : decode cX11_layOffence 92 = .ok (.iload 4, 2) := by decide +kernel
theorem dX11_layOffence_94 : decode cX11_layOffence 94 = .ok (.invokestatic 116, 3) := by decide +kernel
theorem dX11_layOffence_97 : decode cX11_layOffence 97 = .ok (.iconst 2, 1) := by decide +kernel
theorem dX11_layOffence_98 : decode cX11_layOffence 98 = .ok (.iadd, 1) := by decide +kernel
theorem dX11_layOffence_99 : decode cX11_layOffence 99 = .ok (.iload_n 3, 1) := by decide +kernel
theorem dX11_layOffence_100 : decode cX11_layOffence 100 = .ok (.iastore, 1) := by decide +kernel
theorem dX11_layOffence_101 : decode cX11_layOffence 101 = .ok (.aload_n 0, 1) := by decide +kernel
theorem dX11_layOffence_102 : decode cX11_layOffence 102 = .ok (.bipush 6, 2) := by decide +kernel
theorem dX11_layOffence_104 : decode cX11_layOffence 104 = .ok (.dup2, 1) := by decide +kernel
theorem dX11_layOffence_105 : decode cX11_layOffence 105 = .ok (.iaload, 1) := by decide +kernel
theorem dX11_layOffence_106 : decode cX11_layOffence 106 = .ok (.iconst 1, 1) := by decide +kernel
theorem dX11_layOffence_107 : decode cX11_layOffence 107 = .ok (.iadd, 1) := by decide +kernel
theorem dX11_layOffence_108 : decode cX11_layOffence 108 = .ok (.iastore, 1) := by decide +kernel
theorem dX11_layOffence_109 : decode cX11_layOffence 109 = .ok (.return_, 1) := by decide +kernel
theorem dX11_holdAudit_0 : decode cX11_holdAudit 0 = .ok (.iconst 0, 1) := by decide +kernel
theorem dX11_holdAudit_1 : decode cX11_holdAudit 1 = .ok (.istore_n 2, 1) := by decide +kernel
theorem dX11_holdAudit_2 : decode cX11_holdAudit 2 = .ok (.iconst 0, 1) := by decide +kernel
theorem dX11_holdAudit_3 : decode cX11_holdAudit 3 = .ok (.istore_n 3, 1) := by decide +kernel
theorem dX11_holdAudit_4 : decode cX11_holdAudit 4 = .ok (.iload_n 3, 1) := by decide +kernel
theorem dX11_holdAudit_5 : decode cX11_holdAudit 5 = .ok (.aload_n 1, 1) := by decide +kernel
theorem dX11_holdAudit_6 : decode cX11_holdAudit 6 = .ok (.iconst 4, 1) := by decide +kernel
theorem dX11_holdAudit_7 : decode cX11_holdAudit 7 = .ok (.iaload, 1) := by decide +kernel
theorem dX11_holdAudit_8 : decode cX11_holdAudit 8 = .ok (.if_icmp .ge 65, 3) := by decide +kernel
theorem dX11_holdAudit_11 : decode cX11_holdAudit 11 = .ok (.iconst 0, 1) := by decide +kernel
theorem dX11_holdAudit_12 : decode cX11_holdAudit 12 = .ok (.istore 4, 2) := by decide +kernel
theorem dX11_holdAudit_14 : decode cX11_holdAudit 14 = .ok (.iload 4, 2) := by decide +kernel
theorem dX11_holdAudit_16 : decode cX11_holdAudit 16 = .ok (.aload_n 1, 1) := by decide +kernel
theorem dX11_holdAudit_17 : decode cX11_holdAudit 17 = .ok (.iconst 3, 1) := by decide +kernel
theorem dX11_holdAudit_18 : decode cX11_holdAudit 18 = .ok (.iaload, 1) := by decide +kernel
theorem dX11_holdAudit_19 : decode cX11_holdAudit 19 = .ok (.if_icmp .ge 48, 3) := by decide +kernel
theorem dX11_holdAudit_22 : decode cX11_holdAudit 22 = .ok (.aload_n 0, 1) := by decide +kernel
theorem dX11_holdAudit_23 : decode cX11_holdAudit 23 = .ok (.aload_n 1, 1) := by decide +kernel
theorem dX11_holdAudit_24 : decode cX11_holdAudit 24 = .ok (.iload_n 3, 1) := by decide +kernel
theorem dX11_holdAudit_25 : decode cX11_holdAudit 25 = .ok (.iload 4, 2) := by decide +kernel
theorem dX11_holdAudit_27 : decode cX11_holdAudit 27 = .ok (.invokevirtual 123, 3) := by decide +kernel
theorem dX11_holdAudit_30 : decode cX11_holdAudit 30 = .ok (.ifCond .eq 31, 3) := by decide +kernel
theorem dX11_holdAudit_33 : decode cX11_holdAudit 33 = .ok (.aload_n 1, 1) := by decide +kernel
theorem dX11_holdAudit_34 : decode cX11_holdAudit 34 = .ok (.iload_n 3, 1) := by decide +kernel
theorem dX11_holdAudit_35 : decode cX11_holdAudit 35 = .ok (.iload 4, 2) := by decide +kernel
theorem dX11_holdAudit_37 : decode cX11_holdAudit 37 = .ok (.invokestatic 127, 3) := by decide +kernel
theorem dX11_holdAudit_40 : decode cX11_holdAudit 40 = .ok (.ifCond .ne 21, 3) := by decide +kernel
theorem dX11_holdAudit_43 : decode cX11_holdAudit 43 = .ok (.aload_n 1, 1) := by decide +kernel
theorem dX11_holdAudit_44 : decode cX11_holdAudit 44 = .ok (.iload_n 3, 1) := by decide +kernel
theorem dX11_holdAudit_45 : decode cX11_holdAudit 45 = .ok (.iload 4, 2) := by decide +kernel
theorem dX11_holdAudit_47 : decode cX11_holdAudit 47 = .ok (.aload_n 0, 1) := by decide +kernel
theorem dX11_holdAudit_48 : decode cX11_holdAudit 48 = .ok (.aload_n 1, 1) := by decide +kernel
theorem dX11_holdAudit_49 : decode cX11_holdAudit 49 = .ok (.iload_n 3, 1) := by decide +kernel
theorem dX11_holdAudit_50 : decode cX11_holdAudit 50 = .ok (.iload 4, 2) := by decide +kernel
theorem dX11_holdAudit_52 : decode cX11_holdAudit 52 = .ok (.invokevirtual 130, 3) := by decide +kernel
theorem dX11_holdAudit_55 : decode cX11_holdAudit 55 = .ok (.invokestatic 133, 3) := by decide +kernel
theorem dX11_holdAudit_58 : decode cX11_holdAudit 58 = .ok (.iinc 2 1, 3) := by decide +kernel
theorem dX11_holdAudit_61 : decode cX11_holdAudit 61 = .ok (.iinc 4 1, 3) := by decide +kernel
theorem dX11_holdAudit_64 : decode cX11_holdAudit 64 = .ok (.goto (-50), 3) := by decide +kernel
theorem dX11_holdAudit_67 : decode cX11_holdAudit 67 = .ok (.iinc 3 1, 3) := by decide +kernel
theorem dX11_holdAudit_70 : decode cX11_holdAudit 70 = .ok (.goto (-66), 3) := by decide +kernel
theorem dX11_holdAudit_73 : decode cX11_holdAudit 73 = .ok (.iload_n 2, 1) := by decide +kernel
theorem dX11_holdAudit_74 : decode cX11_holdAudit 74 = .ok (.ireturn, 1) := by decide +kernel
theorem dX11_dropOffence_0 : decode cX11_dropOffence 0 = .ok (.aload_n 0, 1) := by decide +kernel
theorem dX11_dropOffence_1 : decode cX11_dropOffence 1 = .ok (.bipush 6, 2) := by decide +kernel
theorem dX11_dropOffence_3 : decode cX11_dropOffence 3 = .ok (.dup2, 1) := by decide +kernel
theorem dX11_dropOffence_4 : decode cX11_dropOffence 4 = .ok (.iaload, 1) := by decide +kernel
theorem dX11_dropOffence_5 : decode cX11_dropOffence 5 = .ok (.iconst 1, 1) := by decide +kernel
theorem dX11_dropOffence_6 : decode cX11_dropOffence 6 = .ok (.isub, 1) := by decide +kernel
theorem dX11_dropOffence_7 : decode cX11_dropOffence 7 = .ok (.iastore, 1) := by decide +kernel
theorem dX11_dropOffence_8 : decode cX11_dropOffence 8 = .ok (.iload_n 1, 1) := by decide +kernel
theorem dX11_dropOffence_9 : decode cX11_dropOffence 9 = .ok (.invokestatic 116, 3) := by decide +kernel
theorem dX11_dropOffence_12 : decode cX11_dropOffence 12 = .ok (.istore_n 2, 1) := by decide +kernel
theorem dX11_dropOffence_13 : decode cX11_dropOffence 13 = .ok (.iload_n 2, 1) := by decide +kernel
theorem dX11_dropOffence_14 : decode cX11_dropOffence 14 = .ok (.aload_n 0, 1) := by decide +kernel
theorem dX11_dropOffence_15 : decode cX11_dropOffence 15 = .ok (.bipush 6, 2) := by decide +kernel
theorem dX11_dropOffence_17 : decode cX11_dropOffence 17 = .ok (.iaload, 1) := by decide +kernel
theorem dX11_dropOffence_18 : decode cX11_dropOffence 18 = .ok (.invokestatic 116, 3) := by decide +kernel
theorem dX11_dropOffence_21 : decode cX11_dropOffence 21 = .ok (.if_icmp .ge 17, 3) := by decide +kernel
theorem dX11_dropOffence_24 : decode cX11_dropOffence 24 = .ok (.aload_n 0, 1) := by decide +kernel
theorem dX11_dropOffence_25 : decode cX11_dropOffence 25 = .ok (.iload_n 2, 1) := by decide +kernel
theorem dX11_dropOffence_26 : decode cX11_dropOffence 26 = .ok (.aload_n 0, 1) := by decide +kernel
theorem dX11_dropOffence_27 : decode cX11_dropOffence 27 = .ok (.iload_n 2, 1) := by decide +kernel
theorem dX11_dropOffence_28 : decode cX11_dropOffence 28 = .ok (.iconst 3, 1) := by decide +kernel
theorem dX11_dropOffence_29 : decode cX11_dropOffence 29 = .ok (.iadd, 1) := by decide +kernel
theorem dX11_dropOffence_30 : decode cX11_dropOffence 30 = .ok (.iaload, 1) := by decide +kernel
theorem dX11_dropOffence_31 : decode cX11_dropOffence 31 = .ok (.iastore, 1) := by decide +kernel
theorem dX11_dropOffence_32 : decode cX11_dropOffence 32 = .ok (.iinc 2 1, 3) := by decide +kernel
theorem dX11_dropOffence_35 : decode cX11_dropOffence 35 = .ok (.goto (-22), 3) := by decide +kernel
theorem dX11_dropOffence_38 : decode cX11_dropOffence 38 = .ok (.return_, 1) := by decide +kernel
theorem dX11_dropThrow_0 : decode cX11_dropThrow 0 = .ok (.aload_n 0, 1) := by decide +kernel
theorem dX11_dropThrow_1 : decode cX11_dropThrow 1 = .ok (.iconst 5, 1) := by decide +kernel
theorem dX11_dropThrow_2 : decode cX11_dropThrow 2 = .ok (.dup2, 1) := by decide +kernel
theorem dX11_dropThrow_3 : decode cX11_dropThrow 3 = .ok (.iaload, 1) := by decide +kernel
theorem dX11_dropThrow_4 : decode cX11_dropThrow 4 = .ok (.iconst 1, 1) := by decide +kernel
theorem dX11_dropThrow_5 : decode cX11_dropThrow 5 = .ok (.isub, 1) := by decide +kernel
theorem dX11_dropThrow_6 : decode cX11_dropThrow 6 = .ok (.iastore, 1) := by decide +kernel
theorem dX11_dropThrow_7 : decode cX11_dropThrow 7 = .ok (.iload_n 1, 1) := by decide +kernel
theorem dX11_dropThrow_8 : decode cX11_dropThrow 8 = .ok (.invokestatic 85, 3) := by decide +kernel
theorem dX11_dropThrow_11 : decode cX11_dropThrow 11 = .ok (.istore_n 2, 1) := by decide +kernel
theorem dX11_dropThrow_12 : decode cX11_dropThrow 12 = .ok (.iload_n 2, 1) := by decide +kernel
theorem dX11_dropThrow_13 : decode cX11_dropThrow 13 = .ok (.aload_n 0, 1) := by decide +kernel
theorem dX11_dropThrow_14 : decode cX11_dropThrow 14 = .ok (.iconst 5, 1) := by decide +kernel
theorem dX11_dropThrow_15 : decode cX11_dropThrow 15 = .ok (.iaload, 1) := by decide +kernel
theorem dX11_dropThrow_16 : decode cX11_dropThrow 16 = .ok (.invokestatic 85, 3) := by decide +kernel
theorem dX11_dropThrow_19 : decode cX11_dropThrow 19 = .ok (.if_icmp .ge 17, 3) := by decide +kernel
theorem dX11_dropThrow_22 : decode cX11_dropThrow 22 = .ok (.aload_n 0, 1) := by decide +kernel
theorem dX11_dropThrow_23 : decode cX11_dropThrow 23 = .ok (.iload_n 2, 1) := by decide +kernel
theorem dX11_dropThrow_24 : decode cX11_dropThrow 24 = .ok (.aload_n 0, 1) := by decide +kernel
theorem dX11_dropThrow_25 : decode cX11_dropThrow 25 = .ok (.iload_n 2, 1) := by decide +kernel
theorem dX11_dropThrow_26 : decode cX11_dropThrow 26 = .ok (.iconst 4, 1) := by decide +kernel
theorem dX11_dropThrow_27 : decode cX11_dropThrow 27 = .ok (.iadd, 1) := by decide +kernel
theorem dX11_dropThrow_28 : decode cX11_dropThrow 28 = .ok (.iaload, 1) := by decide +kernel
theorem dX11_dropThrow_29 : decode cX11_dropThrow 29 = .ok (.iastore, 1) := by decide +kernel
theorem dX11_dropThrow_30 : decode cX11_dropThrow 30 = .ok (.iinc 2 1, 3) := by decide +kernel
theorem dX11_dropThrow_33 : decode cX11_dropThrow 33 = .ok (.goto (-21), 3) := by decide +kernel
theorem dX11_dropThrow_36 : decode cX11_dropThrow 36 = .ok (.return_, 1) := by decide +kernel
theorem dX11_penance_0 : decode cX11_penance 0 = .ok (.aload_n 0, 1) := by decide +kernel
theorem dX11_penance_1 : decode cX11_penance 1 = .ok (.bipush 6, 2) := by decide +kernel
theorem dX11_penance_3 : decode cX11_penance 3 = .ok (.iaload, 1) := by decide +kernel
theorem dX11_penance_4 : decode cX11_penance 4 = .ok (.ifCond .ne 5, 3) := by decide +kernel
theorem dX11_penance_7 : decode cX11_penance 7 = .ok (.iconst 0, 1) := by decide +kernel
theorem dX11_penance_8 : decode cX11_penance 8 = .ok (.ireturn, 1) := by decide +kernel
theorem dX11_penance_9 : decode cX11_penance 9 = .ok (.iconst 0, 1) := by decide +kernel
theorem dX11_penance_10 : decode cX11_penance 10 = .ok (.invokestatic 116, 3) := by decide +kernel
theorem dX11_penance_13 : decode cX11_penance 13 = .ok (.istore_n 1, 1) := by decide +kernel
theorem dX11_penance_14 : decode cX11_penance 14 = .ok (.aload_n 0, 1) := by decide +kernel
theorem dX11_penance_15 : decode cX11_penance 15 = .ok (.aload_n 0, 1) := by decide +kernel
theorem dX11_penance_16 : decode cX11_penance 16 = .ok (.iload_n 1, 1) := by decide +kernel
theorem dX11_penance_17 : decode cX11_penance 17 = .ok (.iconst 0, 1) := by decide +kernel
theorem dX11_penance_18 : decode cX11_penance 18 = .ok (.iadd, 1) := by decide +kernel
theorem dX11_penance_19 : decode cX11_penance 19 = .ok (.iaload, 1) := by decide +kernel
theorem dX11_penance_20 : decode cX11_penance 20 = .ok (.aload_n 0, 1) := by decide +kernel
theorem dX11_penance_21 : decode cX11_penance 21 = .ok (.iload_n 1, 1) := by decide +kernel
theorem dX11_penance_22 : decode cX11_penance 22 = .ok (.iconst 1, 1) := by decide +kernel
theorem dX11_penance_23 : decode cX11_penance 23 = .ok (.iadd, 1) := by decide +kernel
theorem dX11_penance_24 : decode cX11_penance 24 = .ok (.iaload, 1) := by decide +kernel
theorem dX11_penance_25 : decode cX11_penance 25 = .ok (.invokestatic 137, 3) := by decide +kernel
theorem dX11_penance_28 : decode cX11_penance 28 = .ok (.istore_n 2, 1) := by decide +kernel
theorem dX11_penance_29 : decode cX11_penance 29 = .ok (.aload_n 0, 1) := by decide +kernel
theorem dX11_penance_30 : decode cX11_penance 30 = .ok (.iload_n 1, 1) := by decide +kernel
theorem dX11_penance_31 : decode cX11_penance 31 = .ok (.iconst 2, 1) := by decide +kernel
theorem dX11_penance_32 : decode cX11_penance 32 = .ok (.iadd, 1) := by decide +kernel
theorem dX11_penance_33 : decode cX11_penance 33 = .ok (.iaload, 1) := by decide +kernel
theorem dX11_penance_34 : decode cX11_penance 34 = .ok (.iload_n 2, 1) := by decide +kernel
theorem dX11_penance_35 : decode cX11_penance 35 = .ok (.if_icmp .ge 11, 3) := by decide +kernel
theorem dX11_penance_38 : decode cX11_penance 38 = .ok (.aload_n 0, 1) := by decide +kernel
theorem dX11_penance_39 : decode cX11_penance 39 = .ok (.iload_n 1, 1) := by decide +kernel
theorem dX11_penance_40 : decode cX11_penance 40 = .ok (.iconst 2, 1) := by decide +kernel
theorem dX11_penance_41 : decode cX11_penance 41 = .ok (.iadd, 1) := by decide +kernel
theorem dX11_penance_42 : decode cX11_penance 42 = .ok (.iaload, 1) := by decide +kernel
theorem dX11_penance_43 : decode cX11_penance 43 = .ok (.goto 4, 3) := by decide +kernel
theorem dX11_penance_46 : decode cX11_penance 46 = .ok (.iload_n 2, 1) := by decide +kernel
theorem dX11_penance_47 : decode cX11_penance 47 = .ok (.ireturn, 1) := by decide +kernel
theorem dX11_absolveFirst_0 : decode cX11_absolveFirst 0 = .ok (.aload_n 0, 1) := by decide +kernel
theorem dX11_absolveFirst_1 : decode cX11_absolveFirst 1 = .ok (.invokestatic 140, 3) := by decide +kernel
theorem dX11_absolveFirst_4 : decode cX11_absolveFirst 4 = .ok (.istore_n 1, 1) := by decide +kernel
theorem dX11_absolveFirst_5 : decode cX11_absolveFirst 5 = .ok (.aload_n 0, 1) := by decide +kernel
theorem dX11_absolveFirst_6 : decode cX11_absolveFirst 6 = .ok (.iconst 0, 1) := by decide +kernel
theorem dX11_absolveFirst_7 : decode cX11_absolveFirst 7 = .ok (.invokestatic 116, 3) := by decide +kernel
theorem dX11_absolveFirst_10 : decode cX11_absolveFirst 10 = .ok (.iconst 0, 1) := by decide +kernel
theorem dX11_absolveFirst_11 : decode cX11_absolveFirst 11 = .ok (.iadd, 1) := by decide +kernel
theorem dX11_absolveFirst_12 : decode cX11_absolveFirst 12 = .ok (.iaload, 1) := by decide +kernel
theorem dX11_absolveFirst_13 : decode cX11_absolveFirst 13 = .ok (.istore_n 2, 1) := by decide +kernel
theorem dX11_absolveFirst_14 : decode cX11_absolveFirst 14 = .ok (.aload_n 0, 1) := by decide +kernel
theorem dX11_absolveFirst_15 : decode cX11_absolveFirst 15 = .ok (.iconst 0, 1) := by decide +kernel
theorem dX11_absolveFirst_16 : decode cX11_absolveFirst 16 = .ok (.invokestatic 116, 3) := by decide +kernel
theorem dX11_absolveFirst_19 : decode cX11_absolveFirst 19 = .ok (.iconst 1, 1) := by decide +kernel
theorem dX11_absolveFirst_20 : decode cX11_absolveFirst 20 = .ok (.iadd, 1) := by decide +kernel
theorem dX11_absolveFirst_21 : decode cX11_absolveFirst 21 = .ok (.iaload, 1) := by decide +kernel
theorem dX11_absolveFirst_22 : decode cX11_absolveFirst 22 = .ok (.istore_n 3, 1) := by decide +kernel
theorem dX11_absolveFirst_23 : decode cX11_absolveFirst 23 = .ok (.iload_n 1, 1) := by decide +kernel
theorem dX11_absolveFirst_24 : decode cX11_absolveFirst 24 = .ok (.istore 4, 2) := by decide +kernel
theorem dX11_absolveFirst_26 : decode cX11_absolveFirst 26 = .ok (.aload_n 0, 1) := by decide +kernel
theorem dX11_absolveFirst_27 : decode cX11_absolveFirst 27 = .ok (.iconst 0, 1) := by decide +kernel
theorem dX11_absolveFirst_28 : decode cX11_absolveFirst 28 = .ok (.invokestatic 144, 3) := by decide +kernel
theorem dX11_absolveFirst_31 : decode cX11_absolveFirst 31 = .ok (.aload_n 0, 1) := by decide +kernel
theorem dX11_absolveFirst_32 : decode cX11_absolveFirst 32 = .ok (.iconst 5, 1) := by decide +kernel
theorem dX11_absolveFirst_33 : decode cX11_absolveFirst 33 = .ok (.iaload, 1) := by decide +kernel
theorem dX11_absolveFirst_34 : decode cX11_absolveFirst 34 = .ok (.iconst 1, 1) := by decide +kernel
theorem dX11_absolveFirst_35 : decode cX11_absolveFirst 35 = .ok (.isub, 1) := by decide +kernel
theorem dX11_absolveFirst_36 : decode cX11_absolveFirst 36 = .ok (.istore 5, 2) := by decide +kernel
theorem dX11_absolveFirst_38 : decode cX11_absolveFirst 38 = .ok (.iload 5, 2) := by decide +kernel
theorem dX11_absolveFirst_40 : decode cX11_absolveFirst 40 = .ok (.ifCond .lt 34, 3) := by decide +kernel
theorem dX11_absolveFirst_43 : decode cX11_absolveFirst 43 = .ok (.iload 4, 2) := by decide +kernel
theorem dX11_absolveFirst_45 : decode cX11_absolveFirst 45 = .ok (.ifCond .le 29, 3) := by decide +kernel
theorem dX11_absolveFirst_48 : decode cX11_absolveFirst 48 = .ok (.aload_n 0, 1) := by decide +kernel
theorem dX11_absolveFirst_49 : decode cX11_absolveFirst 49 = .ok (.iload 5, 2) := by decide +kernel
theorem dX11_absolveFirst_51 : decode cX11_absolveFirst 51 = .ok (.iload_n 2, 1) := by decide +kernel
theorem dX11_absolveFirst_52 : decode cX11_absolveFirst 52 = .ok (.iload_n 3, 1) := by decide +kernel
theorem dX11_absolveFirst_53 : decode cX11_absolveFirst 53 = .ok (.invokestatic 98, 3) := by decide +kernel
theorem dX11_absolveFirst_56 : decode cX11_absolveFirst 56 = .ok (.ifCond .eq 12, 3) := by decide +kernel
theorem dX11_absolveFirst_59 : decode cX11_absolveFirst 59 = .ok (.aload_n 0, 1) := by decide +kernel
theorem dX11_absolveFirst_60 : decode cX11_absolveFirst 60 = .ok (.iload 5, 2) := by decide +kernel
theorem dX11_absolveFirst_62 : decode cX11_absolveFirst 62 = .ok (.invokestatic 148, 3) := by decide +kernel
theorem dX11_absolveFirst_65 : decode cX11_absolveFirst 65 = .ok (.iinc 4 (-1), 3) := by decide +kernel
theorem dX11_absolveFirst_68 : decode cX11_absolveFirst 68 = .ok (.iinc 5 (-1), 3) := by decide +kernel
theorem dX11_absolveFirst_71 : decode cX11_absolveFirst 71 = .ok (.goto (-33), 3) := by decide +kernel
theorem dX11_absolveFirst_74 : decode cX11_absolveFirst 74 = .ok (.aload_n 0, 1) := by decide +kernel
theorem dX11_absolveFirst_75 : decode cX11_absolveFirst 75 = .ok (.iload_n 2, 1) := by decide +kernel
theorem dX11_absolveFirst_76 : decode cX11_absolveFirst 76 = .ok (.iload_n 3, 1) := by decide +kernel
theorem dX11_absolveFirst_77 : decode cX11_absolveFirst 77 = .ok (.iload_n 1, 1) := by decide +kernel
theorem dX11_absolveFirst_78 : decode cX11_absolveFirst 78 = .ok (.iconst 1, 1) := by decide +kernel
theorem dX11_absolveFirst_79 : decode cX11_absolveFirst 79 = .ok (.invokestatic 151, 3) := by decide +kernel
theorem dX11_absolveFirst_82 : decode cX11_absolveFirst 82 = .ok (.ireturn, 1) := by decide +kernel
theorem dX11_offencesBy_0 : decode cX11_offencesBy 0 = .ok (.iconst 0, 1) := by decide +kernel
theorem dX11_offencesBy_1 : decode cX11_offencesBy 1 = .ok (.istore_n 2, 1) := by decide +kernel
theorem dX11_offencesBy_2 : decode cX11_offencesBy 2 = .ok (.iconst 0, 1) := by decide +kernel
theorem dX11_offencesBy_3 : decode cX11_offencesBy 3 = .ok (.istore_n 3, 1) := by decide +kernel
theorem dX11_offencesBy_4 : decode cX11_offencesBy 4 = .ok (.iload_n 3, 1) := by decide +kernel
theorem dX11_offencesBy_5 : decode cX11_offencesBy 5 = .ok (.aload_n 0, 1) := by decide +kernel
theorem dX11_offencesBy_6 : decode cX11_offencesBy 6 = .ok (.bipush 6, 2) := by decide +kernel
theorem dX11_offencesBy_8 : decode cX11_offencesBy 8 = .ok (.iaload, 1) := by decide +kernel
theorem dX11_offencesBy_9 : decode cX11_offencesBy 9 = .ok (.if_icmp .ge 29, 3) := by decide +kernel
theorem dX11_offencesBy_12 : decode cX11_offencesBy 12 = .ok (.iload_n 2, 1) := by decide +kernel
theorem dX11_offencesBy_13 : decode cX11_offencesBy 13 = .ok (.aload_n 0, 1) := by decide +kernel
theorem dX11_offencesBy_14 : decode cX11_offencesBy 14 = .ok (.iload_n 3, 1) := by decide +kernel
theorem dX11_offencesBy_15 : decode cX11_offencesBy 15 = .ok (.invokestatic 116, 3) := by decide +kernel
theorem dX11_offencesBy_18 : decode cX11_offencesBy 18 = .ok (.iconst 0, 1) := by decide +kernel
theorem dX11_offencesBy_19 : decode cX11_offencesBy 19 = .ok (.iadd, 1) := by decide +kernel
theorem dX11_offencesBy_20 : decode cX11_offencesBy 20 = .ok (.iaload, 1) := by decide +kernel
theorem dX11_offencesBy_21 : decode cX11_offencesBy 21 = .ok (.iload_n 1, 1) := by decide +kernel
theorem dX11_offencesBy_22 : decode cX11_offencesBy 22 = .ok (.if_icmp .ne 7, 3) := by decide +kernel
theorem dX11_offencesBy_25 : decode cX11_offencesBy 25 = .ok (.iconst 1, 1) := by decide +kernel
theorem dX11_offencesBy_26 : decode cX11_offencesBy 26 = .ok (.goto 4, 3) := by decide +kernel
theorem dX11_offencesBy_29 : decode cX11_offencesBy 29 = .ok (.iconst 0, 1) := by decide +kernel
theorem dX11_offencesBy_30 : decode cX11_offencesBy 30 = .ok (.iadd, 1) := by decide +kernel
theorem dX11_offencesBy_31 : decode cX11_offencesBy 31 = .ok (.istore_n 2, 1) := by decide +kernel
theorem dX11_offencesBy_32 : decode cX11_offencesBy 32 = .ok (.iinc 3 1, 3) := by decide +kernel
theorem dX11_offencesBy_35 : decode cX11_offencesBy 35 = .ok (.goto (-31), 3) := by decide +kernel
theorem dX11_offencesBy_38 : decode cX11_offencesBy 38 = .ok (.iload_n 2, 1) := by decide +kernel
theorem dX11_offencesBy_39 : decode cX11_offencesBy 39 = .ok (.ireturn, 1) := by decide +kernel
theorem dX11_forgiveAll_0 : decode cX11_forgiveAll 0 = .ok (.aload_n 0, 1) := by decide +kernel
theorem dX11_forgiveAll_1 : decode cX11_forgiveAll 1 = .ok (.iload_n 1, 1) := by decide +kernel
theorem dX11_forgiveAll_2 : decode cX11_forgiveAll 2 = .ok (.invokestatic 155, 3) := by decide +kernel
theorem dX11_forgiveAll_5 : decode cX11_forgiveAll 5 = .ok (.istore_n 2, 1) := by decide +kernel
theorem dX11_forgiveAll_6 : decode cX11_forgiveAll 6 = .ok (.aload_n 0, 1) := by decide +kernel
theorem dX11_forgiveAll_7 : decode cX11_forgiveAll 7 = .ok (.bipush 6, 2) := by decide +kernel
theorem dX11_forgiveAll_9 : decode cX11_forgiveAll 9 = .ok (.iaload, 1) := by decide +kernel
theorem dX11_forgiveAll_10 : decode cX11_forgiveAll 10 = .ok (.iconst 1, 1) := by decide +kernel
theorem dX11_forgiveAll_11 : decode cX11_forgiveAll 11 = .ok (.isub, 1) := by decide +kernel
theorem dX11_forgiveAll_12 : decode cX11_forgiveAll 12 = .ok (.istore_n 3, 1) := by decide +kernel
theorem dX11_forgiveAll_13 : decode cX11_forgiveAll 13 = .ok (.iload_n 3, 1) := by decide +kernel
theorem dX11_forgiveAll_14 : decode cX11_forgiveAll 14 = .ok (.ifCond .lt 26, 3) := by decide +kernel
theorem dX11_forgiveAll_17 : decode cX11_forgiveAll 17 = .ok (.aload_n 0, 1) := by decide +kernel
theorem dX11_forgiveAll_18 : decode cX11_forgiveAll 18 = .ok (.iload_n 3, 1) := by decide +kernel
theorem dX11_forgiveAll_19 : decode cX11_forgiveAll 19 = .ok (.invokestatic 116, 3) := by decide +kernel
theorem dX11_forgiveAll_22 : decode cX11_forgiveAll 22 = .ok (.iconst 0, 1) := by decide +kernel
theorem dX11_forgiveAll_23 : decode cX11_forgiveAll 23 = .ok (.iadd, 1) := by decide +kernel
theorem dX11_forgiveAll_24 : decode cX11_forgiveAll 24 = .ok (.iaload, 1) := by decide +kernel
theorem dX11_forgiveAll_25 : decode cX11_forgiveAll 25 = .ok (.iload_n 1, 1) := by decide +kernel
theorem dX11_forgiveAll_26 : decode cX11_forgiveAll 26 = .ok (.if_icmp .ne 8, 3) := by decide +kernel
theorem dX11_forgiveAll_29 : decode cX11_forgiveAll 29 = .ok (.aload_n 0, 1) := by decide +kernel
theorem dX11_forgiveAll_30 : decode cX11_forgiveAll 30 = .ok (.iload_n 3, 1) := by decide +kernel
theorem dX11_forgiveAll_31 : decode cX11_forgiveAll 31 = .ok (.invokestatic 144, 3) := by decide +kernel
theorem dX11_forgiveAll_34 : decode cX11_forgiveAll 34 = .ok (.iinc 3 (-1), 3) := by decide +kernel
theorem dX11_forgiveAll_37 : decode cX11_forgiveAll 37 = .ok (.goto (-24), 3) := by decide +kernel
theorem dX11_forgiveAll_40 : decode cX11_forgiveAll 40 = .ok (.iload_n 2, 1) := by decide +kernel
theorem dX11_forgiveAll_41 : decode cX11_forgiveAll 41 = .ok (.ireturn, 1) := by decide +kernel
theorem dX11_totalOf_0 : decode cX11_totalOf 0 = .ok (.iconst 0, 1) := by decide +kernel
theorem dX11_totalOf_1 : decode cX11_totalOf 1 = .ok (.istore_n 2, 1) := by decide +kernel
theorem dX11_totalOf_2 : decode cX11_totalOf 2 = .ok (.iconst 0, 1) := by decide +kernel
theorem dX11_totalOf_3 : decode cX11_totalOf 3 = .ok (.istore_n 3, 1) := by decide +kernel
theorem dX11_totalOf_4 : decode cX11_totalOf 4 = .ok (.iload_n 3, 1) := by decide +kernel
theorem dX11_totalOf_5 : decode cX11_totalOf 5 = .ok (.aload_n 0, 1) := by decide +kernel
theorem dX11_totalOf_6 : decode cX11_totalOf 6 = .ok (.iconst 5, 1) := by decide +kernel
theorem dX11_totalOf_7 : decode cX11_totalOf 7 = .ok (.iaload, 1) := by decide +kernel
theorem dX11_totalOf_8 : decode cX11_totalOf 8 = .ok (.if_icmp .ge 36, 3) := by decide +kernel
theorem dX11_totalOf_11 : decode cX11_totalOf 11 = .ok (.iload_n 2, 1) := by decide +kernel
theorem dX11_totalOf_12 : decode cX11_totalOf 12 = .ok (.aload_n 0, 1) := by decide +kernel
theorem dX11_totalOf_13 : decode cX11_totalOf 13 = .ok (.iload_n 3, 1) := by decide +kernel
theorem dX11_totalOf_14 : decode cX11_totalOf 14 = .ok (.invokestatic 85, 3) := by decide +kernel
theorem dX11_totalOf_17 : decode cX11_totalOf 17 = .ok (.iconst 0, 1) := by decide +kernel
theorem dX11_totalOf_18 : decode cX11_totalOf 18 = .ok (.iadd, 1) := by decide +kernel
theorem dX11_totalOf_19 : decode cX11_totalOf 19 = .ok (.iaload, 1) := by decide +kernel
theorem dX11_totalOf_20 : decode cX11_totalOf 20 = .ok (.iload_n 1, 1) := by decide +kernel
theorem dX11_totalOf_21 : decode cX11_totalOf 21 = .ok (.if_icmp .ne 14, 3) := by decide +kernel
theorem dX11_totalOf_24 : decode cX11_totalOf 24 = .ok (.aload_n 0, 1) := by decide +kernel
theorem dX11_totalOf_25 : decode cX11_totalOf 25 = .ok (.iload_n 3, 1) := by decide +kernel
theorem dX11_totalOf_26 : decode cX11_totalOf 26 = .ok (.invokestatic 85, 3) := by decide +kernel
theorem dX11_totalOf_29 : decode cX11_totalOf 29 = .ok (.iconst 2, 1) := by decide +kernel
theorem dX11_totalOf_30 : decode cX11_totalOf 30 = .ok (.iadd, 1) := by decide +kernel
theorem dX11_totalOf_31 : decode cX11_totalOf 31 = .ok (.iaload, 1) := by decide +kernel
theorem dX11_totalOf_32 : decode cX11_totalOf 32 = .ok (.goto 4, 3) := by decide +kernel
theorem dX11_totalOf_35 : decode cX11_totalOf 35 = .ok (.iconst 0, 1) := by decide +kernel
theorem dX11_totalOf_36 : decode cX11_totalOf 36 = .ok (.iadd, 1) := by decide +kernel
theorem dX11_totalOf_37 : decode cX11_totalOf 37 = .ok (.istore_n 2, 1) := by decide +kernel
theorem dX11_totalOf_38 : decode cX11_totalOf 38 = .ok (.iinc 3 1, 3) := by decide +kernel
theorem dX11_totalOf_41 : decode cX11_totalOf 41 = .ok (.goto (-37), 3) := by decide +kernel
theorem dX11_totalOf_44 : decode cX11_totalOf 44 = .ok (.iload_n 2, 1) := by decide +kernel
theorem dX11_totalOf_45 : decode cX11_totalOf 45 = .ok (.ireturn, 1) := by decide +kernel
theorem dX11_throwsBy_0 : decode cX11_throwsBy 0 = .ok (.iconst 0, 1) := by decide +kernel
theorem dX11_throwsBy_1 : decode cX11_throwsBy 1 = .ok (.istore_n 2, 1) := by decide +kernel
theorem dX11_throwsBy_2 : decode cX11_throwsBy 2 = .ok (.iconst 0, 1) := by decide +kernel
theorem dX11_throwsBy_3 : decode cX11_throwsBy 3 = .ok (.istore_n 3, 1) := by decide +kernel
theorem dX11_throwsBy_4 : decode cX11_throwsBy 4 = .ok (.iload_n 3, 1) := by decide +kernel
theorem dX11_throwsBy_5 : decode cX11_throwsBy 5 = .ok (.aload_n 0, 1) := by decide +kernel
theorem dX11_throwsBy_6 : decode cX11_throwsBy 6 = .ok (.iconst 5, 1) := by decide +kernel
theorem dX11_throwsBy_7 : decode cX11_throwsBy 7 = .ok (.iaload, 1) := by decide +kernel
theorem dX11_throwsBy_8 : decode cX11_throwsBy 8 = .ok (.if_icmp .ge 29, 3) := by decide +kernel
theorem dX11_throwsBy_11 : decode cX11_throwsBy 11 = .ok (.iload_n 2, 1) := by decide +kernel
theorem dX11_throwsBy_12 : decode cX11_throwsBy 12 = .ok (.aload_n 0, 1) := by decide +kernel
theorem dX11_throwsBy_13 : decode cX11_throwsBy 13 = .ok (.iload_n 3, 1) := by decide +kernel
theorem dX11_throwsBy_14 : decode cX11_throwsBy 14 = .ok (.invokestatic 85, 3) := by decide +kernel
theorem dX11_throwsBy_17 : decode cX11_throwsBy 17 = .ok (.iconst 0, 1) := by decide +kernel
theorem dX11_throwsBy_18 : decode cX11_throwsBy 18 = .ok (.iadd, 1) := by decide +kernel
theorem dX11_throwsBy_19 : decode cX11_throwsBy 19 = .ok (.iaload, 1) := by decide +kernel
theorem dX11_throwsBy_20 : decode cX11_throwsBy 20 = .ok (.iload_n 1, 1) := by decide +kernel
theorem dX11_throwsBy_21 : decode cX11_throwsBy 21 = .ok (.if_icmp .ne 7, 3) := by decide +kernel
theorem dX11_throwsBy_24 : decode cX11_throwsBy 24 = .ok (.iconst 1, 1) := by decide +kernel
theorem dX11_throwsBy_25 : decode cX11_throwsBy 25 = .ok (.goto 4, 3) := by decide +kernel
theorem dX11_throwsBy_28 : decode cX11_throwsBy 28 = .ok (.iconst 0, 1) := by decide +kernel
theorem dX11_throwsBy_29 : decode cX11_throwsBy 29 = .ok (.iadd, 1) := by decide +kernel
theorem dX11_throwsBy_30 : decode cX11_throwsBy 30 = .ok (.istore_n 2, 1) := by decide +kernel
theorem dX11_throwsBy_31 : decode cX11_throwsBy 31 = .ok (.iinc 3 1, 3) := by decide +kernel
theorem dX11_throwsBy_34 : decode cX11_throwsBy 34 = .ok (.goto (-30), 3) := by decide +kernel
theorem dX11_throwsBy_37 : decode cX11_throwsBy 37 = .ok (.iload_n 2, 1) := by decide +kernel
theorem dX11_throwsBy_38 : decode cX11_throwsBy 38 = .ok (.ireturn, 1) := by decide +kernel
theorem dX11_rank_0 : decode cX11_rank 0 = .ok (.iconst 0, 1) := by decide +kernel
theorem dX11_rank_1 : decode cX11_rank 1 = .ok (.istore_n 2, 1) := by decide +kernel
theorem dX11_rank_2 : decode cX11_rank 2 = .ok (.aload_n 0, 1) := by decide +kernel
theorem dX11_rank_3 : decode cX11_rank 3 = .ok (.iload_n 1, 1) := by decide +kernel
theorem dX11_rank_4 : decode cX11_rank 4 = .ok (.invokestatic 158, 3) := by decide +kernel
theorem dX11_rank_7 : decode cX11_rank 7 = .ok (.istore_n 3, 1) := by decide +kernel
theorem dX11_rank_8 : decode cX11_rank 8 = .ok (.iconst 0, 1) := by decide +kernel
theorem dX11_rank_9 : decode cX11_rank 9 = .ok (.istore 4, 2) := by decide +kernel
theorem dX11_rank_11 : decode cX11_rank 11 = .ok (.iload 4, 2) := by decide +kernel
theorem dX11_rank_13 : decode cX11_rank 13 = .ok (.aload_n 0, 1) := by decide +kernel
theorem dX11_rank_14 : decode cX11_rank 14 = .ok (.iconst 4, 1) := by decide +kernel
theorem dX11_rank_15 : decode cX11_rank 15 = .ok (.iaload, 1) := by decide +kernel
theorem dX11_rank_16 : decode cX11_rank 16 = .ok (.if_icmp .ge 53, 3) := by decide +kernel
theorem dX11_rank_19 : decode cX11_rank 19 = .ok (.aload_n 0, 1) := by decide +kernel
theorem dX11_rank_20 : decode cX11_rank 20 = .ok (.iload 4, 2) := by decide +kernel
theorem dX11_rank_22 : decode cX11_rank 22 = .ok (.invokestatic 158, 3) := by decide +kernel
theorem dX11_rank_25 : decode cX11_rank 25 = .ok (.istore 5, 2) := by decide +kernel
theorem dX11_rank_27 : decode cX11_rank 27 = .ok (.iload_n 2, 1) := by decide +kernel
theorem dX11_rank_28 : decode cX11_rank 28 = .ok (.iload 5, 2) := by decide +kernel
theorem dX11_rank_30 : decode cX11_rank 30 = .ok (.iload_n 3, 1) := by decide +kernel
theorem dX11_rank_31 : decode cX11_rank 31 = .ok (.if_icmp .gt 25, 3) := by decide +kernel
theorem dX11_rank_34 : decode cX11_rank 34 = .ok (.iload 5, 2) := by decide +kernel
theorem dX11_rank_36 : decode cX11_rank 36 = .ok (.iload_n 3, 1) := by decide +kernel
theorem dX11_rank_37 : decode cX11_rank 37 = .ok (.if_icmp .ne 23, 3) := by decide +kernel
theorem dX11_rank_40 : decode cX11_rank 40 = .ok (.aload_n 0, 1) := by decide +kernel
theorem dX11_rank_41 : decode cX11_rank 41 = .ok (.bipush 85, 2) := by decide +kernel
theorem dX11_rank_43 : decode cX11_rank 43 = .ok (.iload 4, 2) := by decide +kernel
theorem dX11_rank_45 : decode cX11_rank 45 = .ok (.iadd, 1) := by decide +kernel
theorem dX11_rank_46 : decode cX11_rank 46 = .ok (.iaload, 1) := by decide +kernel
theorem dX11_rank_47 : decode cX11_rank 47 = .ok (.aload_n 0, 1) := by decide +kernel
theorem dX11_rank_48 : decode cX11_rank 48 = .ok (.bipush 85, 2) := by decide +kernel
theorem dX11_rank_50 : decode cX11_rank 50 = .ok (.iload_n 1, 1) := by decide +kernel
theorem dX11_rank_51 : decode cX11_rank 51 = .ok (.iadd, 1) := by decide +kernel
theorem dX11_rank_52 : decode cX11_rank 52 = .ok (.iaload, 1) := by decide +kernel
theorem dX11_rank_53 : decode cX11_rank 53 = .ok (.if_icmp .ge 7, 3) := by decide +kernel
theorem dX11_rank_56 : decode cX11_rank 56 = .ok (.iconst 1, 1) := by decide +kernel
theorem dX11_rank_57 : decode cX11_rank 57 = .ok (.goto 4, 3) := by decide +kernel
theorem dX11_rank_60 : decode cX11_rank 60 = .ok (.iconst 0, 1) := by decide +kernel
theorem dX11_rank_61 : decode cX11_rank 61 = .ok (.iadd, 1) := by decide +kernel
theorem dX11_rank_62 : decode cX11_rank 62 = .ok (.istore_n 2, 1) := by decide +kernel
theorem dX11_rank_63 : decode cX11_rank 63 = .ok (.iinc 4 1, 3) := by decide +kernel
theorem dX11_rank_66 : decode cX11_rank 66 = .ok (.goto (-55), 3) := by decide +kernel
theorem dX11_rank_69 : decode cX11_rank 69 = .ok (.iload_n 2, 1) := by decide +kernel
theorem dX11_rank_70 : decode cX11_rank 70 = .ok (.ireturn, 1) := by decide +kernel
theorem dX11_appendWord_0 : decode cX11_appendWord 0 = .ok (.bipush 24, 2) := by decide +kernel
theorem dX11_appendWord_2 : decode cX11_appendWord 2 = .ok (.istore_n 2, 1) := by decide +kernel
theorem dX11_appendWord_3 : decode cX11_appendWord 3 = .ok (.iload_n 2, 1) := by decide +kernel
theorem dX11_appendWord_4 : decode cX11_appendWord 4 = .ok (.ifCond .lt 35, 3) := by decide +kernel
theorem dX11_appendWord_7 : decode cX11_appendWord 7 = .ok (.aload_n 0, 1) := by decide +kernel
theorem dX11_appendWord_8 : decode cX11_appendWord 8 = .ok (.getfield 29, 3) := by decide +kernel
theorem dX11_appendWord_11 : decode cX11_appendWord 11 = .ok (.aload_n 0, 1) := by decide +kernel
theorem dX11_appendWord_12 : decode cX11_appendWord 12 = .ok (.getfield 49, 3) := by decide +kernel
theorem dX11_appendWord_15 : decode cX11_appendWord 15 = .ok (.iload_n 1, 1) := by decide +kernel
theorem dX11_appendWord_16 : decode cX11_appendWord 16 = .ok (.iload_n 2, 1) := by decide +kernel
theorem dX11_appendWord_17 : decode cX11_appendWord 17 = .ok (.ishr, 1) := by decide +kernel
theorem dX11_appendWord_18 : decode cX11_appendWord 18 = .ok (.sipush 255, 3) := by decide +kernel
theorem dX11_appendWord_21 : decode cX11_appendWord 21 = .ok (.iand, 1) := by decide +kernel
theorem dX11_appendWord_22 : decode cX11_appendWord 22 = .ok (.iastore, 1) := by decide +kernel
theorem dX11_appendWord_23 : decode cX11_appendWord 23 = .ok (.aload_n 0, 1) := by decide +kernel
theorem dX11_appendWord_24 : decode cX11_appendWord 24 = .ok (.dup, 1) := by decide +kernel
theorem dX11_appendWord_25 : decode cX11_appendWord 25 = .ok (.getfield 49, 3) := by decide +kernel
theorem dX11_appendWord_28 : decode cX11_appendWord 28 = .ok (.iconst 1, 1) := by decide +kernel
theorem dX11_appendWord_29 : decode cX11_appendWord 29 = .ok (.iadd, 1) := by decide +kernel
theorem dX11_appendWord_30 : decode cX11_appendWord 30 = .ok (.putfield 49, 3) := by decide +kernel
theorem dX11_appendWord_33 : decode cX11_appendWord 33 = .ok (.iinc 2 (-8), 3) := by decide +kernel
theorem dX11_appendWord_36 : decode cX11_appendWord 36 = .ok (.goto (-33), 3) := by decide +kernel
theorem dX11_appendWord_39 : decode cX11_appendWord 39 = .ok (.return_, 1) := by decide +kernel
theorem dX11_appendInput_0 : decode cX11_appendInput 0 = .ok (.aload_n 0, 1) := by decide +kernel
theorem dX11_appendInput_1 : decode cX11_appendInput 1 = .ok (.iconst 0, 1) := by decide +kernel
theorem dX11_appendInput_2 : decode cX11_appendInput 2 = .ok (.putfield 66, 3) := by decide +kernel
theorem dX11_appendInput_5 : decode cX11_appendInput 5 = .ok (.aload_n 0, 1) := by decide +kernel
theorem dX11_appendInput_6 : decode cX11_appendInput 6 = .ok (.aload_n 0, 1) := by decide +kernel
theorem dX11_appendInput_7 : decode cX11_appendInput 7 = .ok (.getfield 49, 3) := by decide +kernel
theorem dX11_appendInput_10 : decode cX11_appendInput 10 = .ok (.bipush 20, 2) := by decide +kernel
theorem dX11_appendInput_12 : decode cX11_appendInput 12 = .ok (.iadd, 1) := by decide +kernel
theorem dX11_appendInput_13 : decode cX11_appendInput 13 = .ok (.sipush 600, 3) := by decide +kernel
theorem dX11_appendInput_16 : decode cX11_appendInput 16 = .ok (.if_icmp .le 7, 3) := by decide +kernel
theorem dX11_appendInput_19 : decode cX11_appendInput 19 = .ok (.iconst 1, 1) := by decide +kernel
theorem dX11_appendInput_20 : decode cX11_appendInput 20 = .ok (.goto 4, 3) := by decide +kernel
theorem dX11_appendInput_23 : decode cX11_appendInput 23 = .ok (.iconst 0, 1) := by decide +kernel
theorem dX11_appendInput_24 : decode cX11_appendInput 24 = .ok (.iconst 1, 1) := by decide +kernel
theorem dX11_appendInput_25 : decode cX11_appendInput 25 = .ok (.invokevirtual 161, 3) := by decide +kernel
theorem dX11_appendInput_28 : decode cX11_appendInput 28 = .ok (.ifCond .eq 5, 3) := by decide +kernel
theorem dX11_appendInput_31 : decode cX11_appendInput 31 = .ok (.iconst 0, 1) := by decide +kernel
theorem dX11_appendInput_32 : decode cX11_appendInput 32 = .ok (.ireturn, 1) := by decide +kernel
theorem dX11_appendInput_33 : decode cX11_appendInput 33 = .ok (.aload_n 0, 1) := by decide +kernel
theorem dX11_appendInput_34 : decode cX11_appendInput 34 = .ok (.iload_n 1, 1) := by decide +kernel
theorem dX11_appendInput_35 : decode cX11_appendInput 35 = .ok (.invokevirtual 165, 3) := by decide +kernel
theorem dX11_appendInput_38 : decode cX11_appendInput 38 = .ok (.aload_n 0, 1) := by decide +kernel
theorem dX11_appendInput_39 : decode cX11_appendInput 39 = .ok (.iload_n 2, 1) := by decide +kernel
theorem dX11_appendInput_40 : decode cX11_appendInput 40 = .ok (.invokevirtual 165, 3) := by decide +kernel
theorem dX11_appendInput_43 : decode cX11_appendInput 43 = .ok (.aload_n 0, 1) := by decide +kernel
theorem dX11_appendInput_44 : decode cX11_appendInput 44 = .ok (.iload_n 3, 1) := by decide +kernel
theorem dX11_appendInput_45 : decode cX11_appendInput 45 = .ok (.invokevirtual 165, 3) := by decide +kernel
theorem dX11_appendInput_48 : decode cX11_appendInput 48 = .ok (.aload_n 0, 1) := by decide +kernel
theorem dX11_appendInput_49 : decode cX11_appendInput 49 = .ok (.iload 4, 2) := by decide +kernel
theorem dX11_appendInput_51 : decode cX11_appendInput 51 = .ok (.invokevirtual 165, 3) := by decide +kernel
theorem dX11_appendInput_54 : decode cX11_appendInput 54 = .ok (.aload_n 0, 1) := by decide +kernel
theorem dX11_appendInput_55 : decode cX11_appendInput 55 = .ok (.iload 5, 2) := by decide +kernel
theorem dX11_appendInput_57 : decode cX11_appendInput 57 = .ok (.invokevirtual 165, 3) := by decide +kernel
theorem dX11_appendInput_60 : decode cX11_appendInput 60 = .ok (.aload_n 0, 1) := by decide +kernel
theorem dX11_appendInput_61 : decode cX11_appendInput 61 = .ok (.getfield 49, 3) := by decide +kernel
theorem dX11_appendInput_64 : decode cX11_appendInput 64 = .ok (.ireturn, 1) := by decide +kernel
theorem dX11_truncateInput_0 : decode cX11_truncateInput 0 = .ok (.aload_n 0, 1) := by decide +kernel
theorem dX11_truncateInput_1 : decode cX11_truncateInput 1 = .ok (.iload_n 1, 1) := by decide +kernel
theorem dX11_truncateInput_2 : decode cX11_truncateInput 2 = .ok (.iconst 0, 1) := by decide +kernel
theorem dX11_truncateInput_3 : decode cX11_truncateInput 3 = .ok (.aload_n 0, 1) := by decide +kernel
theorem dX11_truncateInput_4 : decode cX11_truncateInput 4 = .ok (.getfield 49, 3) := by decide +kernel
theorem dX11_truncateInput_7 : decode cX11_truncateInput 7 = .ok (.invokevirtual 169, 3) := by decide +kernel
theorem dX11_truncateInput_10 : decode cX11_truncateInput 10 = .ok (.ifCond .eq 5, 3) := by decide +kernel
theorem dX11_truncateInput_13 : decode cX11_truncateInput 13 = .ok (.iconst 0, 1) := by decide +kernel
theorem dX11_truncateInput_14 : decode cX11_truncateInput 14 = .ok (.ireturn, 1) := by decide +kernel
theorem dX11_truncateInput_15 : decode cX11_truncateInput 15 = .ok (.aload_n 0, 1) := by decide +kernel
theorem dX11_truncateInput_16 : decode cX11_truncateInput 16 = .ok (.iload_n 1, 1) := by decide +kernel
theorem dX11_truncateInput_17 : decode cX11_truncateInput 17 = .ok (.putfield 49, 3) := by decide +kernel
theorem dX11_truncateInput_20 : decode cX11_truncateInput 20 = .ok (.iload_n 1, 1) := by decide +kernel
theorem dX11_truncateInput_21 : decode cX11_truncateInput 21 = .ok (.ireturn, 1) := by decide +kernel
theorem dX11_errorCode_0 : decode cX11_errorCode 0 = .ok (.aload_n 0, 1) := by decide +kernel
theorem dX11_errorCode_1 : decode cX11_errorCode 1 = .ok (.iconst 0, 1) := by decide +kernel
theorem dX11_errorCode_2 : decode cX11_errorCode 2 = .ok (.putfield 66, 3) := by decide +kernel
theorem dX11_errorCode_5 : decode cX11_errorCode 5 = .ok (.aload_n 0, 1) := by decide +kernel
theorem dX11_errorCode_6 : decode cX11_errorCode 6 = .ok (.getfield 173, 3) := by decide +kernel
theorem dX11_errorCode_9 : decode cX11_errorCode 9 = .ok (.ireturn, 1) := by decide +kernel
theorem dX11_errorPosition_0 : decode cX11_errorPosition 0 = .ok (.aload_n 0, 1) := by decide +kernel
theorem dX11_errorPosition_1 : decode cX11_errorPosition 1 = .ok (.iconst 0, 1) := by decide +kernel
theorem dX11_errorPosition_2 : decode cX11_errorPosition 2 = .ok (.putfield 66, 3) := by decide +kernel
theorem dX11_errorPosition_5 : decode cX11_errorPosition 5 = .ok (.aload_n 0, 1) := by decide +kernel
theorem dX11_errorPosition_6 : decode cX11_errorPosition 6 = .ok (.getfield 32, 3) := by decide +kernel
theorem dX11_errorPosition_9 : decode cX11_errorPosition 9 = .ok (.ireturn, 1) := by decide +kernel
theorem dX11_byteAt_0 : decode cX11_byteAt 0 = .ok (.iload_n 1, 1) := by decide +kernel
theorem dX11_byteAt_1 : decode cX11_byteAt 1 = .ok (.aload_n 0, 1) := by decide +kernel
theorem dX11_byteAt_2 : decode cX11_byteAt 2 = .ok (.getfield 49, 3) := by decide +kernel
theorem dX11_byteAt_5 : decode cX11_byteAt 5 = .ok (.if_icmp .ge 12, 3) := by decide +kernel
theorem dX11_byteAt_8 : decode cX11_byteAt 8 = .ok (.aload_n 0, 1) := by decide +kernel
theorem dX11_byteAt_9 : decode cX11_byteAt 9 = .ok (.getfield 29, 3) := by decide +kernel
theorem dX11_byteAt_12 : decode cX11_byteAt 12 = .ok (.iload_n 1, 1) := by decide +kernel
theorem dX11_byteAt_13 : decode cX11_byteAt 13 = .ok (.iaload, 1) := by decide +kernel
theorem dX11_byteAt_14 : decode cX11_byteAt 14 = .ok (.goto 4, 3) := by decide +kernel
theorem dX11_byteAt_17 : decode cX11_byteAt 17 = .ok (.iconst (-1), 1) := by decide +kernel
theorem dX11_byteAt_18 : decode cX11_byteAt 18 = .ok (.ireturn, 1) := by decide +kernel
theorem dX11_isLetter_0 : decode cX11_isLetter 0 = .ok (.iload_n 0, 1) := by decide +kernel
theorem dX11_isLetter_1 : decode cX11_isLetter 1 = .ok (.bipush 97, 2) := by decide +kernel
theorem dX11_isLetter_3 : decode cX11_isLetter 3 = .ok (.bipush 122, 2) := by decide +kernel
theorem dX11_isLetter_5 : decode cX11_isLetter 5 = .ok (.invokestatic 176, 3) := by decide +kernel
theorem dX11_isLetter_8 : decode cX11_isLetter 8 = .ok (.ireturn, 1) := by decide +kernel
theorem dX11_advance_0 : decode cX11_advance 0 = .ok (.aload_n 0, 1) := by decide +kernel
theorem dX11_advance_1 : decode cX11_advance 1 = .ok (.aload_n 0, 1) := by decide +kernel
theorem dX11_advance_2 : decode cX11_advance 2 = .ok (.getfield 179, 3) := by decide +kernel
theorem dX11_advance_5 : decode cX11_advance 5 = .ok (.invokevirtual 182, 3) := by decide +kernel
theorem dX11_advance_8 : decode cX11_advance 8 = .ok (.bipush 32, 2) := by decide +kernel
theorem dX11_advance_10 : decode cX11_advance 10 = .ok (.if_icmp .eq 16, 3) := by decide +kernel
theorem dX11_advance_13 : decode cX11_advance 13 = .ok (.aload_n 0, 1) := by decide +kernel
theorem dX11_advance_14 : decode cX11_advance 14 = .ok (.aload_n 0, 1) := by decide +kernel
theorem dX11_advance_15 : decode cX11_advance 15 = .ok (.getfield 179, 3) := by decide +kernel
theorem dX11_advance_18 : decode cX11_advance 18 = .ok (.invokevirtual 182, 3) := by decide +kernel
theorem dX11_advance_21 : decode cX11_advance 21 = .ok (.bipush 10, 2) := by decide +kernel
theorem dX11_advance_23 : decode cX11_advance 23 = .ok (.if_icmp .ne 16, 3) := by decide +kernel
theorem dX11_advance_26 : decode cX11_advance 26 = .ok (.aload_n 0, 1) := by decide +kernel
theorem dX11_advance_27 : decode cX11_advance 27 = .ok (.dup, 1) := by decide +kernel
theorem dX11_advance_28 : decode cX11_advance 28 = .ok (.getfield 179, 3) := by decide +kernel
theorem dX11_advance_31 : decode cX11_advance 31 = .ok (.iconst 1, 1) := by decide +kernel
theorem dX11_advance_32 : decode cX11_advance 32 = .ok (.iadd, 1) := by decide +kernel
theorem dX11_advance_33 : decode cX11_advance 33 = .ok (.putfield 179, 3) := by decide +kernel
theorem dX11_advance_36 : decode cX11_advance 36 = .ok (.goto (-36), 3) := by decide +kernel
theorem dX11_advance_39 : decode cX11_advance 39 = .ok (.aload_n 0, 1) := by decide +kernel
theorem dX11_advance_40 : decode cX11_advance 40 = .ok (.aload_n 0, 1) := by decide +kernel
theorem dX11_advance_41 : decode cX11_advance 41 = .ok (.getfield 179, 3) := by decide +kernel
theorem dX11_advance_44 : decode cX11_advance 44 = .ok (.putfield 185, 3) := by decide +kernel
theorem dX11_advance_47 : decode cX11_advance 47 = .ok (.aload_n 0, 1) := by decide +kernel
theorem dX11_advance_48 : decode cX11_advance 48 = .ok (.iconst 0, 1) := by decide +kernel
theorem dX11_advance_49 : decode cX11_advance 49 = .ok (.putfield 188, 3) := by decide +kernel
theorem dX11_advance_52 : decode cX11_advance 52 = .ok (.aload_n 0, 1) := by decide +kernel
theorem dX11_advance_53 : decode cX11_advance 53 = .ok (.iconst 0, 1) := by decide +kernel
theorem dX11_advance_54 : decode cX11_advance 54 = .ok (.putfield 191, 3) := by decide +kernel
theorem dX11_advance_57 : decode cX11_advance 57 = .ok (.aload_n 0, 1) := by decide +kernel
theorem dX11_advance_58 : decode cX11_advance 58 = .ok (.aload_n 0, 1) := by decide +kernel
theorem dX11_advance_59 : decode cX11_advance 59 = .ok (.getfield 179, 3) := by decide +kernel
theorem dX11_advance_62 : decode cX11_advance 62 = .ok (.invokevirtual 182, 3) := by decide +kernel
theorem dX11_advance_65 : decode cX11_advance 65 = .ok (.istore_n 1, 1) := by decide +kernel
theorem dX11_advance_66 : decode cX11_advance 66 = .ok (.iload_n 1, 1) := by decide +kernel
theorem dX11_advance_67 : decode cX11_advance 67 = .ok (.iconst (-1), 1) := by decide +kernel
theorem dX11_advance_68 : decode cX11_advance 68 = .ok (.if_icmp .ne 11, 3) := by decide +kernel
theorem dX11_advance_71 : decode cX11_advance 71 = .ok (.aload_n 0, 1) := by decide +kernel
theorem dX11_advance_72 : decode cX11_advance 72 = .ok (.iconst 0, 1) := by decide +kernel
theorem dX11_advance_73 : decode cX11_advance 73 = .ok (.putfield 194, 3) := by decide +kernel
theorem dX11_advance_76 : decode cX11_advance 76 = .ok (.goto 153, 3) := by decide +kernel
theorem dX11_advance_79 : decode cX11_advance 79 = .ok (.iload_n 1, 1) := by decide +kernel
theorem dX11_advance_80 : decode cX11_advance 80 = .ok (.invokestatic 197, 3) := by decide +kernel
theorem dX11_advance_83 : decode cX11_advance 83 = .ok (.ifCond .eq 45, 3) := by decide +kernel
theorem dX11_advance_86 : decode cX11_advance 86 = .ok (.aload_n 0, 1) := by decide +kernel
theorem dX11_advance_87 : decode cX11_advance 87 = .ok (.iconst 3, 1) := by decide +kernel
theorem dX11_advance_88 : decode cX11_advance 88 = .ok (.putfield 194, 3) := by decide +kernel
theorem dX11_advance_91 : decode cX11_advance 91 = .ok (.aload_n 0, 1) := by decide +kernel
theorem dX11_advance_92 : decode cX11_advance 92 = .ok (.aload_n 0, 1) := by decide +kernel
theorem dX11_advance_93 : decode cX11_advance 93 = .ok (.getfield 179, 3) := by decide +kernel
theorem dX11_advance_96 : decode cX11_advance 96 = .ok (.invokevirtual 182, 3) := by decide +kernel
theorem dX11_advance_99 : decode cX11_advance 99 = .ok (.invokestatic 197, 3) := by decide +kernel
theorem dX11_advance_102 : decode cX11_advance 102 = .ok (.ifCond .eq 127, 3) := by decide +kernel
theorem dX11_advance_105 : decode cX11_advance 105 = .ok (.aload_n 0, 1) := by decide +kernel
theorem dX11_advance_106 : decode cX11_advance 106 = .ok (.dup, 1) := by decide +kernel
theorem dX11_advance_107 : decode cX11_advance 107 = .ok (.getfield 188, 3) := by decide +kernel
theorem dX11_advance_110 : decode cX11_advance 110 = .ok (.iconst 1, 1) := by decide +kernel
theorem dX11_advance_111 : decode cX11_advance 111 = .ok (.iadd, 1) := by decide +kernel
theorem dX11_advance_112 : decode cX11_advance 112 = .ok (.putfield 188, 3) := by decide +kernel
theorem dX11_advance_115 : decode cX11_advance 115 = .ok (.aload_n 0, 1) := by decide +kernel
theorem dX11_advance_116 : decode cX11_advance 116 = .ok (.dup, 1) := by decide +kernel
theorem dX11_advance_117 : decode cX11_advance 117 = .ok (.getfield 179, 3) := by decide +kernel
theorem dX11_advance_120 : decode cX11_advance 120 = .ok (.iconst 1, 1) := by decide +kernel
theorem dX11_advance_121 : decode cX11_advance 121 = .ok (.iadd, 1) := by decide +kernel
theorem dX11_advance_122 : decode cX11_advance 122 = .ok (.putfield 179, 3) := by decide +kernel
theorem dX11_advance_125 : decode cX11_advance 125 = .ok (.goto (-34), 3) := by decide +kernel
theorem dX11_advance_128 : decode cX11_advance 128 = .ok (.iload_n 1, 1) := by decide +kernel
theorem dX11_advance_129 : decode cX11_advance 129 = .ok (.bipush 48, 2) := by decide +kernel
theorem dX11_advance_131 : decode cX11_advance 131 = .ok (.bipush 57, 2) := by decide +kernel
theorem dX11_advance_133 : decode cX11_advance 133 = .ok (.invokestatic 176, 3) := by decide +kernel
theorem dX11_advance_136 : decode cX11_advance 136 = .ok (.ifCond .eq 78, 3) := by decide +kernel
theorem dX11_advance_139 : decode cX11_advance 139 = .ok (.aload_n 0, 1) := by decide +kernel
theorem dX11_advance_140 : decode cX11_advance 140 = .ok (.iconst 2, 1) := by decide +kernel
theorem dX11_advance_141 : decode cX11_advance 141 = .ok (.putfield 194, 3) := by decide +kernel
theorem dX11_advance_144 : decode cX11_advance 144 = .ok (.aload_n 0, 1) := by decide +kernel
theorem dX11_advance_145 : decode cX11_advance 145 = .ok (.aload_n 0, 1) := by decide +kernel
theorem dX11_advance_146 : decode cX11_advance 146 = .ok (.getfield 179, 3) := by decide +kernel
theorem dX11_advance_149 : decode cX11_advance 149 = .ok (.invokevirtual 182, 3) := by decide +kernel
theorem dX11_advance_152 : decode cX11_advance 152 = .ok (.bipush 48, 2) := by decide +kernel
theorem dX11_advance_154 : decode cX11_advance 154 = .ok (.bipush 57, 2) := by decide +kernel
theorem dX11_advance_156 : decode cX11_advance 156 = .ok (.invokestatic 176, 3) := by decide +kernel
theorem dX11_advance_159 : decode cX11_advance 159 = .ok (.ifCond .eq 70, 3) := by decide +kernel
theorem dX11_advance_162 : decode cX11_advance 162 = .ok (.aload_n 0, 1) := by decide +kernel
theorem dX11_advance_163 : decode cX11_advance 163 = .ok (.aload_n 0, 1) := by decide +kernel
theorem dX11_advance_164 : decode cX11_advance 164 = .ok (.getfield 191, 3) := by decide +kernel
theorem dX11_advance_167 : decode cX11_advance 167 = .ok (.ldc 201, 2) := by decide +kernel
theorem dX11_advance_169 : decode cX11_advance 169 = .ok (.if_icmp .le 10, 3) := by decide +kernel
theorem dX11_advance_172 : decode cX11_advance 172 = .ok (.aload_n 0, 1) := by decide +kernel
theorem dX11_advance_173 : decode cX11_advance 173 = .ok (.getfield 191, 3) := by decide +kernel
theorem dX11_advance_176 : decode cX11_advance 176 = .ok (.goto 22, 3) := by decide +kernel
theorem dX11_advance_179 : decode cX11_advance 179 = .ok (.bipush 10, 2) := by decide +kernel
theorem dX11_advance_181 : decode cX11_advance 181 = .ok (.aload_n 0, 1) := by decide +kernel
theorem dX11_advance_182 : decode cX11_advance 182 = .ok (.getfield 191, 3) := by decide +kernel
theorem dX11_advance_185 : decode cX11_advance 185 = .ok (.imul, 1) := by decide +kernel
theorem dX11_advance_186 : decode cX11_advance 186 = .ok (.aload_n 0, 1) := by decide +kernel
theorem dX11_advance_187 : decode cX11_advance 187 = .ok (.aload_n 0, 1) := by decide +kernel
theorem dX11_advance_188 : decode cX11_advance 188 = .ok (.getfield 179, 3) := by decide +kernel
theorem dX11_advance_191 : decode cX11_advance 191 = .ok (.invokevirtual 182, 3) := by decide +kernel
theorem dX11_advance_194 : decode cX11_advance 194 = .ok (.iadd, 1) := by decide +kernel
theorem dX11_advance_195 : decode cX11_advance 195 = .ok (.bipush 48, 2) := by decide +kernel
theorem dX11_advance_197 : decode cX11_advance 197 = .ok (.isub, 1) := by decide +kernel
theorem dX11_advance_198 : decode cX11_advance 198 = .ok (.putfield 191, 3) := by decide +kernel
theorem dX11_advance_201 : decode cX11_advance 201 = .ok (.aload_n 0, 1) := by decide +kernel
theorem dX11_advance_202 : decode cX11_advance 202 = .ok (.dup, 1) := by decide +kernel
theorem dX11_advance_203 : decode cX11_advance 203 = .ok (.getfield 179, 3) := by decide +kernel
theorem dX11_advance_206 : decode cX11_advance 206 = .ok (.iconst 1, 1) := by decide +kernel
theorem dX11_advance_207 : decode cX11_advance 207 = .ok (.iadd, 1) := by decide +kernel
theorem dX11_advance_208 : decode cX11_advance 208 = .ok (.putfield 179, 3) := by decide +kernel
theorem dX11_advance_211 : decode cX11_advance 211 = .ok (.goto (-67), 3) := by decide +kernel
theorem dX11_advance_214 : decode cX11_advance 214 = .ok (.aload_n 0, 1) := by decide +kernel
theorem dX11_advance_215 : decode cX11_advance 215 = .ok (.iconst 1, 1) := by decide +kernel
theorem dX11_advance_216 : decode cX11_advance 216 = .ok (.putfield 194, 3) := by decide +kernel
theorem dX11_advance_219 : decode cX11_advance 219 = .ok (.aload_n 0, 1) := by decide +kernel
theorem dX11_advance_220 : decode cX11_advance 220 = .ok (.dup, 1) := by decide +kernel
theorem dX11_advance_221 : decode cX11_advance 221 = .ok (.getfield 179, 3) := by decide +kernel
theorem dX11_advance_224 : decode cX11_advance 224 = .ok (.iconst 1, 1) := by decide +kernel
theorem dX11_advance_225 : decode cX11_advance 225 = .ok (.iadd, 1) := by decide +kernel
theorem dX11_advance_226 : decode cX11_advance 226 = .ok (.putfield 179, 3) := by decide +kernel
theorem dX11_advance_229 : decode cX11_advance 229 = .ok (.return_, 1) := by decide +kernel
theorem dX11_is_0 : decode cX11_is 0 = .ok (.aload_n 0, 1) := by decide +kernel
theorem dX11_is_1 : decode cX11_is 1 = .ok (.getfield 194, 3) := by decide +kernel
theorem dX11_is_4 : decode cX11_is 4 = .ok (.iconst 3, 1) := by decide +kernel
theorem dX11_is_5 : decode cX11_is 5 = .ok (.if_icmp .ne 14, 3) := by decide +kernel
theorem dX11_is_8 : decode cX11_is 8 = .ok (.aload_n 0, 1) := by decide +kernel
theorem dX11_is_9 : decode cX11_is 9 = .ok (.getfield 188, 3) := by decide +kernel
theorem dX11_is_12 : decode cX11_is 12 = .ok (.aload_n 1, 1) := by decide +kernel
theorem dX11_is_13 : decode cX11_is 13 = .ok (.invokevirtual 56, 3) := by decide +kernel
theorem dX11_is_16 : decode cX11_is 16 = .ok (.if_icmp .eq 5, 3) := by decide +kernel
theorem dX11_is_19 : decode cX11_is 19 = .ok (.iconst 0, 1) := by decide +kernel
theorem dX11_is_20 : decode cX11_is 20 = .ok (.ireturn, 1) := by decide +kernel
theorem dX11_is_21 : decode cX11_is 21 = .ok (.iconst 0, 1) := by decide +kernel
theorem dX11_is_22 : decode cX11_is 22 = .ok (.istore_n 2, 1) := by decide +kernel
theorem dX11_is_23 : decode cX11_is 23 = .ok (.iload_n 2, 1) := by decide +kernel
theorem dX11_is_24 : decode cX11_is 24 = .ok (.aload_n 0, 1) := by decide +kernel
theorem dX11_is_25 : decode cX11_is 25 = .ok (.getfield 188, 3) := by decide +kernel
theorem dX11_is_28 : decode cX11_is 28 = .ok (.if_icmp .ge 30, 3) := by decide +kernel
theorem dX11_is_31 : decode cX11_is 31 = .ok (.aload_n 0, 1) := by decide +kernel
theorem dX11_is_32 : decode cX11_is 32 = .ok (.getfield 29, 3) := by decide +kernel
theorem dX11_is_35 : decode cX11_is 35 = .ok (.aload_n 0, 1) := by decide +kernel
theorem dX11_is_36 : decode cX11_is 36 = .ok (.getfield 185, 3) := by decide +kernel
theorem dX11_is_39 : decode cX11_is 39 = .ok (.iload_n 2, 1) := by decide +kernel
theorem dX11_is_40 : decode cX11_is 40 = .ok (.iadd, 1) := by decide +kernel
theorem dX11_is_41 : decode cX11_is 41 = .ok (.iaload, 1) := by decide +kernel
theorem dX11_is_42 : decode cX11_is 42 = .ok (.aload_n 1, 1) := by decide +kernel
theorem dX11_is_43 : decode cX11_is 43 = .ok (.iload_n 2, 1) := by decide +kernel
theorem dX11_is_44 : decode cX11_is 44 = .ok (.invokevirtual 62, 3) := by decide +kernel
theorem dX11_is_47 : decode cX11_is 47 = .ok (.if_icmp .eq 5, 3) := by decide +kernel
theorem dX11_is_50 : decode cX11_is 50 = .ok (.iconst 0, 1) := by decide +kernel
theorem dX11_is_51 : decode cX11_is 51 = .ok (.ireturn, 1) := by decide +kernel
theorem dX11_is_52 : decode cX11_is 52 = .ok (.iinc 2 1, 3) := by decide +kernel
theorem dX11_is_55 : decode cX11_is 55 = .ok (.goto (-32), 3) := by decide +kernel
theorem dX11_is_58 : decode cX11_is 58 = .ok (.iconst 1, 1) := by decide +kernel
theorem dX11_is_59 : decode cX11_is 59 = .ok (.ireturn, 1) := by decide +kernel
theorem dX11_check_0 : decode cX11_check 0 = .ok (.aload_n 0, 1) := by decide +kernel
theorem dX11_check_1 : decode cX11_check 1 = .ok (.getfield 173, 3) := by decide +kernel
theorem dX11_check_4 : decode cX11_check 4 = .ok (.ifCond .ne 20, 3) := by decide +kernel
theorem dX11_check_7 : decode cX11_check 7 = .ok (.iload_n 1, 1) := by decide +kernel
theorem dX11_check_8 : decode cX11_check 8 = .ok (.ifCond .ne 16, 3) := by decide +kernel
theorem dX11_check_11 : decode cX11_check 11 = .ok (.aload_n 0, 1) := by decide +kernel
theorem dX11_check_12 : decode cX11_check 12 = .ok (.iload_n 2, 1) := by decide +kernel
theorem dX11_check_13 : decode cX11_check 13 = .ok (.putfield 173, 3) := by decide +kernel
theorem dX11_check_16 : decode cX11_check 16 = .ok (.aload_n 0, 1) := by decide +kernel
theorem dX11_check_17 : decode cX11_check 17 = .ok (.aload_n 0, 1) := by decide +kernel
theorem dX11_check_18 : decode cX11_check 18 = .ok (.getfield 185, 3) := by decide +kernel
theorem dX11_check_21 : decode cX11_check 21 = .ok (.putfield 32, 3) := by decide +kernel
theorem dX11_check_24 : decode cX11_check 24 = .ok (.aload_n 0, 1) := by decide +kernel
theorem dX11_check_25 : decode cX11_check 25 = .ok (.getfield 173, 3) := by decide +kernel
theorem dX11_check_28 : decode cX11_check 28 = .ok (.ifCond .ne 7, 3) := by decide +kernel
theorem dX11_check_31 : decode cX11_check 31 = .ok (.iconst 1, 1) := by decide +kernel
theorem dX11_check_32 : decode cX11_check 32 = .ok (.goto 4, 3) := by decide +kernel
theorem dX11_check_35 : decode cX11_check 35 = .ok (.iconst 0, 1) := by decide +kernel
theorem dX11_check_36 : decode cX11_check 36 = .ok (.ireturn, 1) := by decide +kernel
theorem dX11_next_0 : decode cX11_next 0 = .ok (.aload_n 0, 1) := by decide +kernel
theorem dX11_next_1 : decode cX11_next 1 = .ok (.getfield 173, 3) := by decide +kernel
theorem dX11_next_4 : decode cX11_next 4 = .ok (.ifCond .ne 7, 3) := by decide +kernel
theorem dX11_next_7 : decode cX11_next 7 = .ok (.aload_n 0, 1) := by decide +kernel
theorem dX11_next_8 : decode cX11_next 8 = .ok (.invokevirtual 202, 3) := by decide +kernel
theorem dX11_next_11 : decode cX11_next 11 = .ok (.return_, 1) := by decide +kernel
theorem dX11_look_0 : decode cX11_look 0 = .ok (.aload_n 0, 1) := by decide +kernel
theorem dX11_look_1 : decode cX11_look 1 = .ok (.aload_n 0, 1) := by decide +kernel
theorem dX11_look_2 : decode cX11_look 2 = .ok (.getfield 194, 3) := by decide +kernel
theorem dX11_look_5 : decode cX11_look 5 = .ok (.iconst 2, 1) := by decide +kernel
theorem dX11_look_6 : decode cX11_look 6 = .ok (.if_icmp .ne 7, 3) := by decide +kernel
theorem dX11_look_9 : decode cX11_look 9 = .ok (.iconst 1, 1) := by decide +kernel
theorem dX11_look_10 : decode cX11_look 10 = .ok (.goto 4, 3) := by decide +kernel
theorem dX11_look_13 : decode cX11_look 13 = .ok (.iconst 0, 1) := by decide +kernel
theorem dX11_look_14 : decode cX11_look 14 = .ok (.iconst 1, 1) := by decide +kernel
theorem dX11_look_15 : decode cX11_look 15 = .ok (.invokevirtual 205, 3) := by decide +kernel
theorem dX11_look_18 : decode cX11_look 18 = .ok (.pop, 1) := by decide +kernel
theorem dX11_look_19 : decode cX11_look 19 = .ok (.aload_n 0, 1) := by decide +kernel
theorem dX11_look_20 : decode cX11_look 20 = .ok (.aload_n 0, 1) := by decide +kernel
theorem dX11_look_21 : decode cX11_look 21 = .ok (.getfield 191, 3) := by decide +kernel
theorem dX11_look_24 : decode cX11_look 24 = .ok (.iload_n 1, 1) := by decide +kernel
theorem dX11_look_25 : decode cX11_look 25 = .ok (.iload_n 2, 1) := by decide +kernel
theorem dX11_look_26 : decode cX11_look 26 = .ok (.invokestatic 176, 3) := by decide +kernel
theorem dX11_look_29 : decode cX11_look 29 = .ok (.iconst 2, 1) := by decide +kernel
theorem dX11_look_30 : decode cX11_look 30 = .ok (.invokevirtual 205, 3) := by decide +kernel
theorem dX11_look_33 : decode cX11_look 33 = .ok (.pop, 1) := by decide +kernel
theorem dX11_look_34 : decode cX11_look 34 = .ok (.aload_n 0, 1) := by decide +kernel
theorem dX11_look_35 : decode cX11_look 35 = .ok (.getfield 173, 3) := by decide +kernel
theorem dX11_look_38 : decode cX11_look 38 = .ok (.ifCond .ne 10, 3) := by decide +kernel
theorem dX11_look_41 : decode cX11_look 41 = .ok (.aload_n 0, 1) := by decide +kernel
theorem dX11_look_42 : decode cX11_look 42 = .ok (.getfield 191, 3) := by decide +kernel
theorem dX11_look_45 : decode cX11_look 45 = .ok (.goto 4, 3) := by decide +kernel
theorem dX11_look_48 : decode cX11_look 48 = .ok (.iload_n 1, 1) := by decide +kernel
theorem dX11_look_49 : decode cX11_look 49 = .ok (.ireturn, 1) := by decide +kernel
theorem dX11_number_0 : decode cX11_number 0 = .ok (.aload_n 0, 1) := by decide +kernel
theorem dX11_number_1 : decode cX11_number 1 = .ok (.iload_n 1, 1) := by decide +kernel
theorem dX11_number_2 : decode cX11_number 2 = .ok (.iload_n 2, 1) := by decide +kernel
theorem dX11_number_3 : decode cX11_number 3 = .ok (.invokevirtual 208, 3) := by decide +kernel
theorem dX11_number_6 : decode cX11_number 6 = .ok (.istore_n 3, 1) := by decide +kernel
theorem dX11_number_7 : decode cX11_number 7 = .ok (.aload_n 0, 1) := by decide +kernel
theorem dX11_number_8 : decode cX11_number 8 = .ok (.invokevirtual 212, 3) := by decide +kernel
theorem dX11_number_11 : decode cX11_number 11 = .ok (.iload_n 3, 1) := by decide +kernel
theorem dX11_number_12 : decode cX11_number 12 = .ok (.ireturn, 1) := by decide +kernel
theorem dX11_semicolon_0 : decode cX11_semicolon 0 = .ok (.aload_n 0, 1) := by decide +kernel
theorem dX11_semicolon_1 : decode cX11_semicolon 1 = .ok (.aload_n 0, 1) := by decide +kernel
theorem dX11_semicolon_2 : decode cX11_semicolon 2 = .ok (.getfield 194, 3) := by decide +kernel
theorem dX11_semicolon_5 : decode cX11_semicolon 5 = .ok (.iconst 1, 1) := by decide +kernel
theorem dX11_semicolon_6 : decode cX11_semicolon 6 = .ok (.if_icmp .ne 21, 3) := by decide +kernel
theorem dX11_semicolon_9 : decode cX11_semicolon 9 = .ok (.aload_n 0, 1) := by decide +kernel
theorem dX11_semicolon_10 : decode cX11_semicolon 10 = .ok (.getfield 29, 3) := by decide +kernel
theorem dX11_semicolon_13 : decode cX11_semicolon 13 = .ok (.aload_n 0, 1) := by decide +kernel
theorem dX11_semicolon_14 : decode cX11_semicolon 14 = .ok (.getfield 185, 3) := by decide +kernel
theorem dX11_semicolon_17 : decode cX11_semicolon 17 = .ok (.iaload, 1) := by decide +kernel
theorem dX11_semicolon_18 : decode cX11_semicolon 18 = .ok (.bipush 59, 2) := by decide +kernel
theorem dX11_semicolon_20 : decode cX11_semicolon 20 = .ok (.if_icmp .ne 7, 3) := by decide +kernel
theorem dX11_semicolon_23 : decode cX11_semicolon 23 = .ok (.iconst 1, 1) := by decide +kernel
theorem dX11_semicolon_24 : decode cX11_semicolon 24 = .ok (.goto 4, 3) := by decide +kernel
theorem dX11_semicolon_27 : decode cX11_semicolon 27 = .ok (.iconst 0, 1) := by decide +kernel
theorem dX11_semicolon_28 : decode cX11_semicolon 28 = .ok (.iconst 1, 1) := by decide +kernel
theorem dX11_semicolon_29 : decode cX11_semicolon 29 = .ok (.invokevirtual 205, 3) := by decide +kernel
theorem dX11_semicolon_32 : decode cX11_semicolon 32 = .ok (.pop, 1) := by decide +kernel
theorem dX11_semicolon_33 : decode cX11_semicolon 33 = .ok (.return_, 1) := by decide +kernel
theorem dX11_finish_0 : decode cX11_finish 0 = .ok (.aload_n 0, 1) := by decide +kernel
theorem dX11_finish_1 : decode cX11_finish 1 = .ok (.invokevirtual 215, 3) := by decide +kernel
theorem dX11_finish_4 : decode cX11_finish 4 = .ok (.aload_n 0, 1) := by decide +kernel
theorem dX11_finish_5 : decode cX11_finish 5 = .ok (.invokevirtual 212, 3) := by decide +kernel
theorem dX11_finish_8 : decode cX11_finish 8 = .ok (.return_, 1) := by decide +kernel
theorem dX11_nameFrom_0 : decode cX11_nameFrom 0 = .ok (.iload_n 2, 1) := by decide +kernel
theorem dX11_nameFrom_1 : decode cX11_nameFrom 1 = .ok (.iconst 1, 1) := by decide +kernel
theorem dX11_nameFrom_2 : decode cX11_nameFrom 2 = .ok (.iconst 4, 1) := by decide +kernel
theorem dX11_nameFrom_3 : decode cX11_nameFrom 3 = .ok (.invokestatic 176, 3) := by decide +kernel
theorem dX11_nameFrom_6 : decode cX11_nameFrom 6 = .ok (.ifCond .ne 5, 3) := by decide +kernel
theorem dX11_nameFrom_9 : decode cX11_nameFrom 9 = .ok (.iconst (-1), 1) := by decide +kernel
theorem dX11_nameFrom_10 : decode cX11_nameFrom 10 = .ok (.ireturn, 1) := by decide +kernel
theorem dX11_nameFrom_11 : decode cX11_nameFrom 11 = .ok (.iconst 0, 1) := by decide +kernel
theorem dX11_nameFrom_12 : decode cX11_nameFrom 12 = .ok (.istore_n 3, 1) := by decide +kernel
theorem dX11_nameFrom_13 : decode cX11_nameFrom 13 = .ok (.iconst 0, 1) := by decide +kernel
theorem dX11_nameFrom_14 : decode cX11_nameFrom 14 = .ok (.istore 4, 2) := by decide +kernel
theorem dX11_nameFrom_16 : decode cX11_nameFrom 16 = .ok (.iload 4, 2) := by decide +kernel
theorem dX11_nameFrom_18 : decode cX11_nameFrom 18 = .ok (.iconst 4, 1) := by decide +kernel
theorem dX11_nameFrom_19 : decode cX11_nameFrom 19 = .ok (.if_icmp .ge 60, 3) := by decide +kernel
theorem dX11_nameFrom_22 : decode cX11_nameFrom 22 = .ok (.iload 4, 2) := by decide +kernel
theorem dX11_nameFrom_24 : decode cX11_nameFrom 24 = .ok (.iload_n 2, 1) := by decide +kernel
theorem dX11_nameFrom_25 : decode cX11_nameFrom 25 = .ok (.if_icmp .ge 20, 3) := by decide +kernel
theorem dX11_nameFrom_28 : decode cX11_nameFrom 28 = .ok (.aload_n 0, 1) := by decide +kernel
theorem dX11_nameFrom_29 : decode cX11_nameFrom 29 = .ok (.getfield 29, 3) := by decide +kernel
theorem dX11_nameFrom_32 : decode cX11_nameFrom 32 = .ok (.iload_n 1, 1) := by decide +kernel
theorem dX11_nameFrom_33 : decode cX11_nameFrom 33 = .ok (.iload 4, 2) := by decide +kernel
theorem dX11_nameFrom_35 : decode cX11_nameFrom 35 = .ok (.iadd, 1) := by decide +kernel
theorem dX11_nameFrom_36 : decode cX11_nameFrom 36 = .ok (.iaload, 1) := by decide +kernel
theorem dX11_nameFrom_37 : decode cX11_nameFrom 37 = .ok (.invokestatic 197, 3) := by decide +kernel
theorem dX11_nameFrom_40 : decode cX11_nameFrom 40 = .ok (.ifCond .ne 5, 3) := by decide +kernel
theorem dX11_nameFrom_43 : decode cX11_nameFrom 43 = .ok (.iconst (-1), 1) := by decide +kernel
theorem dX11_nameFrom_44 : decode cX11_nameFrom 44 = .ok (.ireturn, 1) := by decide +kernel
theorem dX11_nameFrom_45 : decode cX11_nameFrom 45 = .ok (.iload_n 3, 1) := by decide +kernel
theorem dX11_nameFrom_46 : decode cX11_nameFrom 46 = .ok (.bipush 27, 2) := by decide +kernel
theorem dX11_nameFrom_48 : decode cX11_nameFrom 48 = .ok (.imul, 1) := by decide +kernel
theorem dX11_nameFrom_49 : decode cX11_nameFrom 49 = .ok (.iload 4, 2) := by decide +kernel
theorem dX11_nameFrom_51 : decode cX11_nameFrom 51 = .ok (.iload_n 2, 1) := by decide +kernel
theorem dX11_nameFrom_52 : decode cX11_nameFrom 52 = .ok (.if_icmp .ge 18, 3) := by decide +kernel
theorem dX11_nameFrom_55 : decode cX11_nameFrom 55 = .ok (.aload_n 0, 1) := by decide +kernel
theorem dX11_nameFrom_56 : decode cX11_nameFrom 56 = .ok (.getfield 29, 3) := by decide +kernel
theorem dX11_nameFrom_59 : decode cX11_nameFrom 59 = .ok (.iload_n 1, 1) := by decide +kernel
theorem dX11_nameFrom_60 : decode cX11_nameFrom 60 = .ok (.iload 4, 2) := by decide +kernel
theorem dX11_nameFrom_62 : decode cX11_nameFrom 62 = .ok (.iadd, 1) := by decide +kernel
theorem dX11_nameFrom_63 : decode cX11_nameFrom 63 = .ok (.iaload, 1) := by decide +kernel
theorem dX11_nameFrom_64 : decode cX11_nameFrom 64 = .ok (.bipush 96, 2) := by decide +kernel
theorem dX11_nameFrom_66 : decode cX11_nameFrom 66 = .ok (.isub, 1) := by decide +kernel
theorem dX11_nameFrom_67 : decode cX11_nameFrom 67 = .ok (.goto 4, 3) := by decide +kernel
theorem dX11_nameFrom_70 : decode cX11_nameFrom 70 = .ok (.iconst 0, 1) := by decide +kernel
theorem dX11_nameFrom_71 : decode cX11_nameFrom 71 = .ok (.iadd, 1) := by decide +kernel
theorem dX11_nameFrom_72 : decode cX11_nameFrom 72 = .ok (.istore_n 3, 1) := by decide +kernel
theorem dX11_nameFrom_73 : decode cX11_nameFrom 73 = .ok (.iinc 4 1, 3) := by decide +kernel
theorem dX11_nameFrom_76 : decode cX11_nameFrom 76 = .ok (.goto (-60), 3) := by decide +kernel
theorem dX11_nameFrom_79 : decode cX11_nameFrom 79 = .ok (.iload_n 3, 1) := by decide +kernel
theorem dX11_nameFrom_80 : decode cX11_nameFrom 80 = .ok (.ireturn, 1) := by decide +kernel
theorem dX11_named_0 : decode cX11_named 0 = .ok (.iconst 0, 1) := by decide +kernel
theorem dX11_named_1 : decode cX11_named 1 = .ok (.istore_n 2, 1) := by decide +kernel
theorem dX11_named_2 : decode cX11_named 2 = .ok (.iload_n 2, 1) := by decide +kernel
theorem dX11_named_3 : decode cX11_named 3 = .ok (.aload_n 0, 1) := by decide +kernel
theorem dX11_named_4 : decode cX11_named 4 = .ok (.iconst 4, 1) := by decide +kernel
theorem dX11_named_5 : decode cX11_named 5 = .ok (.iaload, 1) := by decide +kernel
theorem dX11_named_6 : decode cX11_named 6 = .ok (.if_icmp .ge 21, 3) := by decide +kernel
theorem dX11_named_9 : decode cX11_named 9 = .ok (.aload_n 0, 1) := by decide +kernel
theorem dX11_named_10 : decode cX11_named 10 = .ok (.bipush 85, 2) := by decide +kernel
theorem dX11_named_12 : decode cX11_named 12 = .ok (.iload_n 2, 1) := by decide +kernel
theorem dX11_named_13 : decode cX11_named 13 = .ok (.iadd, 1) := by decide +kernel
theorem dX11_named_14 : decode cX11_named 14 = .ok (.iaload, 1) := by decide +kernel
theorem dX11_named_15 : decode cX11_named 15 = .ok (.iload_n 1, 1) := by decide +kernel
theorem dX11_named_16 : decode cX11_named 16 = .ok (.if_icmp .ne 5, 3) := by decide +kernel
theorem dX11_named_19 : decode cX11_named 19 = .ok (.iload_n 2, 1) := by decide +kernel
theorem dX11_named_20 : decode cX11_named 20 = .ok (.ireturn, 1) := by decide +kernel
theorem dX11_named_21 : decode cX11_named 21 = .ok (.iinc 2 1, 3) := by decide +kernel
theorem dX11_named_24 : decode cX11_named 24 = .ok (.goto (-22), 3) := by decide +kernel
theorem dX11_named_27 : decode cX11_named 27 = .ok (.iconst (-1), 1) := by decide +kernel
theorem dX11_named_28 : decode cX11_named 28 = .ok (.ireturn, 1) := by decide +kernel
theorem dX11_readDie_0 : decode cX11_readDie 0 = .ok (.aload_n 0, 1) := by decide +kernel
theorem dX11_readDie_1 : decode cX11_readDie 1 = .ok (.aload_n 0, 1) := by decide +kernel
theorem dX11_readDie_2 : decode cX11_readDie 2 = .ok (.getfield 13, 3) := by decide +kernel
theorem dX11_readDie_5 : decode cX11_readDie 5 = .ok (.iconst 3, 1) := by decide +kernel
theorem dX11_readDie_6 : decode cX11_readDie 6 = .ok (.iaload, 1) := by decide +kernel
theorem dX11_readDie_7 : decode cX11_readDie 7 = .ok (.bipush 6, 2) := by decide +kernel
theorem dX11_readDie_9 : decode cX11_readDie 9 = .ok (.if_icmp .ge 7, 3) := by decide +kernel
theorem dX11_readDie_12 : decode cX11_readDie 12 = .ok (.iconst 1, 1) := by decide +kernel
theorem dX11_readDie_13 : decode cX11_readDie 13 = .ok (.goto 4, 3) := by decide +kernel
theorem dX11_readDie_16 : decode cX11_readDie 16 = .ok (.iconst 0, 1) := by decide +kernel
theorem dX11_readDie_17 : decode cX11_readDie 17 = .ok (.iconst 5, 1) := by decide +kernel
theorem dX11_readDie_18 : decode cX11_readDie 18 = .ok (.invokevirtual 205, 3) := by decide +kernel
theorem dX11_readDie_21 : decode cX11_readDie 21 = .ok (.pop, 1) := by decide +kernel
theorem dX11_readDie_22 : decode cX11_readDie 22 = .ok (.aload_n 0, 1) := by decide +kernel
theorem dX11_readDie_23 : decode cX11_readDie 23 = .ok (.invokevirtual 212, 3) := by decide +kernel
theorem dX11_readDie_26 : decode cX11_readDie 26 = .ok (.aload_n 0, 1) := by decide +kernel
theorem dX11_readDie_27 : decode cX11_readDie 27 = .ok (.getfield 173, 3) := by decide +kernel
theorem dX11_readDie_30 : decode cX11_readDie 30 = .ok (.ifCond .ne 15, 3) := by decide +kernel
theorem dX11_readDie_33 : decode cX11_readDie 33 = .ok (.aload_n 0, 1) := by decide +kernel
theorem dX11_readDie_34 : decode cX11_readDie 34 = .ok (.getfield 13, 3) := by decide +kernel
theorem dX11_readDie_37 : decode cX11_readDie 37 = .ok (.iconst 3, 1) := by decide +kernel
theorem dX11_readDie_38 : decode cX11_readDie 38 = .ok (.iaload, 1) := by decide +kernel
theorem dX11_readDie_39 : decode cX11_readDie 39 = .ok (.invokestatic 69, 3) := by decide +kernel
theorem dX11_readDie_42 : decode cX11_readDie 42 = .ok (.goto 7, 3) := by decide +kernel
theorem dX11_readDie_45 : decode cX11_readDie 45 = .ok (.iconst 0, 1) := by decide +kernel
theorem dX11_readDie_46 : decode cX11_readDie 46 = .ok (.invokestatic 69, 3) := by decide +kernel
theorem dX11_readDie_49 : decode cX11_readDie 49 = .ok (.istore_n 1, 1) := by decide +kernel
theorem dX11_readDie_50 : decode cX11_readDie 50 = .ok (.iconst 0, 1) := by decide +kernel
theorem dX11_readDie_51 : decode cX11_readDie 51 = .ok (.istore_n 2, 1) := by decide +kernel
theorem dX11_readDie_52 : decode cX11_readDie 52 = .ok (.aload_n 0, 1) := by decide +kernel
theorem dX11_readDie_53 : decode cX11_readDie 53 = .ok (.getfield 173, 3) := by decide +kernel
theorem dX11_readDie_56 : decode cX11_readDie 56 = .ok (.ifCond .ne 69, 3) := by decide +kernel
theorem dX11_readDie_59 : decode cX11_readDie 59 = .ok (.iload_n 2, 1) := by decide +kernel
theorem dX11_readDie_60 : decode cX11_readDie 60 = .ok (.iconst 2, 1) := by decide +kernel
theorem dX11_readDie_61 : decode cX11_readDie 61 = .ok (.if_icmp .lt 11, 3) := by decide +kernel
theorem dX11_readDie_64 : decode cX11_readDie 64 = .ok (.aload_n 0, 1) := by decide +kernel
theorem dX11_readDie_65 : decode cX11_readDie 65 = .ok (.getfield 194, 3) := by decide +kernel
theorem dX11_readDie_68 : decode cX11_readDie 68 = .ok (.iconst 2, 1) := by decide +kernel
theorem dX11_readDie_69 : decode cX11_readDie 69 = .ok (.if_icmp .ne 56, 3) := by decide +kernel
theorem dX11_readDie_72 : decode cX11_readDie 72 = .ok (.aload_n 0, 1) := by decide +kernel
theorem dX11_readDie_73 : decode cX11_readDie 73 = .ok (.iconst 0, 1) := by decide +kernel
theorem dX11_readDie_74 : decode cX11_readDie 74 = .ok (.bipush 9, 2) := by decide +kernel
theorem dX11_readDie_76 : decode cX11_readDie 76 = .ok (.invokevirtual 208, 3) := by decide +kernel
theorem dX11_readDie_79 : decode cX11_readDie 79 = .ok (.istore_n 3, 1) := by decide +kernel
theorem dX11_readDie_80 : decode cX11_readDie 80 = .ok (.aload_n 0, 1) := by decide +kernel
theorem dX11_readDie_81 : decode cX11_readDie 81 = .ok (.iload_n 2, 1) := by decide +kernel
theorem dX11_readDie_82 : decode cX11_readDie 82 = .ok (.bipush 12, 2) := by decide +kernel
theorem dX11_readDie_84 : decode cX11_readDie 84 = .ok (.if_icmp .ge 7, 3) := by decide +kernel
theorem dX11_readDie_87 : decode cX11_readDie 87 = .ok (.iconst 1, 1) := by decide +kernel
theorem dX11_readDie_88 : decode cX11_readDie 88 = .ok (.goto 4, 3) := by decide +kernel
theorem dX11_readDie_91 : decode cX11_readDie 91 = .ok (.iconst 0, 1) := by decide +kernel
theorem dX11_readDie_92 : decode cX11_readDie 92 = .ok (.iconst 5, 1) := by decide +kernel
theorem dX11_readDie_93 : decode cX11_readDie 93 = .ok (.invokevirtual 205, 3) := by decide +kernel
theorem dX11_readDie_96 : decode cX11_readDie 96 = .ok (.pop, 1) := by decide +kernel
theorem dX11_readDie_97 : decode cX11_readDie 97 = .ok (.aload_n 0, 1) := by decide +kernel
theorem dX11_readDie_98 : decode cX11_readDie 98 = .ok (.getfield 173, 3) := by decide +kernel
theorem dX11_readDie_101 : decode cX11_readDie 101 = .ok (.ifCond .ne 17, 3) := by decide +kernel
theorem dX11_readDie_104 : decode cX11_readDie 104 = .ok (.aload_n 0, 1) := by decide +kernel
theorem dX11_readDie_105 : decode cX11_readDie 105 = .ok (.getfield 13, 3) := by decide +kernel
theorem dX11_readDie_108 : decode cX11_readDie 108 = .ok (.iload_n 1, 1) := by decide +kernel
theorem dX11_readDie_109 : decode cX11_readDie 109 = .ok (.iconst 1, 1) := by decide +kernel
theorem dX11_readDie_110 : decode cX11_readDie 110 = .ok (.iadd, 1) := by decide +kernel
theorem dX11_readDie_111 : decode cX11_readDie 111 = .ok (.iload_n 2, 1) := by decide +kernel
theorem dX11_readDie_112 : decode cX11_readDie 112 = .ok (.iadd, 1) := by decide +kernel
theorem dX11_readDie_113 : decode cX11_readDie 113 = .ok (.iload_n 3, 1) := by decide +kernel
theorem dX11_readDie_114 : decode cX11_readDie 114 = .ok (.iastore, 1) := by decide +kernel
theorem dX11_readDie_115 : decode cX11_readDie 115 = .ok (.iinc 2 1, 3) := by decide +kernel
theorem dX11_readDie_118 : decode cX11_readDie 118 = .ok (.aload_n 0, 1) := by decide +kernel
theorem dX11_readDie_119 : decode cX11_readDie 119 = .ok (.invokevirtual 212, 3) := by decide +kernel
theorem dX11_readDie_122 : decode cX11_readDie 122 = .ok (.goto (-70), 3) := by decide +kernel
theorem dX11_readDie_125 : decode cX11_readDie 125 = .ok (.aload_n 0, 1) := by decide +kernel
theorem dX11_readDie_126 : decode cX11_readDie 126 = .ok (.invokevirtual 215, 3) := by decide +kernel
theorem dX11_readDie_129 : decode cX11_readDie 129 = .ok (.aload_n 0, 1) := by decide +kernel
theorem dX11_readDie_130 : decode cX11_readDie 130 = .ok (.getfield 173, 3) := by decide +kernel
theorem dX11_readDie_133 : decode cX11_readDie 133 = .ok (.ifCond .ne 50, 3) := by decide +kernel
theorem dX11_readDie_136 : decode cX11_readDie 136 = .ok (.aload_n 0, 1) := by decide +kernel
theorem dX11_readDie_137 : decode cX11_readDie 137 = .ok (.getfield 13, 3) := by decide +kernel
theorem dX11_readDie_140 : decode cX11_readDie 140 = .ok (.iload_n 1, 1) := by decide +kernel
theorem dX11_readDie_141 : decode cX11_readDie 141 = .ok (.iconst 0, 1) := by decide +kernel
theorem dX11_readDie_142 : decode cX11_readDie 142 = .ok (.iadd, 1) := by decide +kernel
theorem dX11_readDie_143 : decode cX11_readDie 143 = .ok (.iload_n 2, 1) := by decide +kernel
theorem dX11_readDie_144 : decode cX11_readDie 144 = .ok (.iastore, 1) := by decide +kernel
theorem dX11_readDie_145 : decode cX11_readDie 145 = .ok (.aload_n 0, 1) := by decide +kernel
theorem dX11_readDie_146 : decode cX11_readDie 146 = .ok (.aload_n 0, 1) := by decide +kernel
theorem dX11_readDie_147 : decode cX11_readDie 147 = .ok (.getfield 13, 3) := by decide +kernel
theorem dX11_readDie_150 : decode cX11_readDie 150 = .ok (.aload_n 0, 1) := by decide +kernel
theorem dX11_readDie_151 : decode cX11_readDie 151 = .ok (.getfield 13, 3) := by decide +kernel
theorem dX11_readDie_154 : decode cX11_readDie 154 = .ok (.iconst 3, 1) := by decide +kernel
theorem dX11_readDie_155 : decode cX11_readDie 155 = .ok (.iaload, 1) := by decide +kernel
theorem dX11_readDie_156 : decode cX11_readDie 156 = .ok (.invokestatic 82, 3) := by decide +kernel
theorem dX11_readDie_159 : decode cX11_readDie 159 = .ok (.ifCond .le 7, 3) := by decide +kernel
theorem dX11_readDie_162 : decode cX11_readDie 162 = .ok (.iconst 1, 1) := by decide +kernel
theorem dX11_readDie_163 : decode cX11_readDie 163 = .ok (.goto 4, 3) := by decide +kernel
theorem dX11_readDie_166 : decode cX11_readDie 166 = .ok (.iconst 0, 1) := by decide +kernel
theorem dX11_readDie_167 : decode cX11_readDie 167 = .ok (.bipush 6, 2) := by decide +kernel
theorem dX11_readDie_169 : decode cX11_readDie 169 = .ok (.invokevirtual 205, 3) := by decide +kernel
theorem dX11_readDie_172 : decode cX11_readDie 172 = .ok (.pop, 1) := by decide +kernel
theorem dX11_readDie_173 : decode cX11_readDie 173 = .ok (.aload_n 0, 1) := by decide +kernel
theorem dX11_readDie_174 : decode cX11_readDie 174 = .ok (.getfield 13, 3) := by decide +kernel
theorem dX11_readDie_177 : decode cX11_readDie 177 = .ok (.iconst 3, 1) := by decide +kernel
theorem dX11_readDie_178 : decode cX11_readDie 178 = .ok (.dup2, 1) := by decide +kernel
theorem dX11_readDie_179 : decode cX11_readDie 179 = .ok (.iaload, 1) := by decide +kernel
theorem dX11_readDie_180 : decode cX11_readDie 180 = .ok (.iconst 1, 1) := by decide +kernel
theorem dX11_readDie_181 : decode cX11_readDie 181 = .ok (.iadd, 1) := by decide +kernel
theorem dX11_readDie_182 : decode cX11_readDie 182 = .ok (.iastore, 1) := by decide +kernel
theorem dX11_readDie_183 : decode cX11_readDie 183 = .ok (.aload_n 0, 1) := by decide +kernel
theorem dX11_readDie_184 : decode cX11_readDie 184 = .ok (.invokevirtual 212, 3) := by decide +kernel
theorem dX11_readDie_187 : decode cX11_readDie 187 = .ok (.return_, 1) := by decide +kernel
theorem dX11_readPlayer_0 : decode cX11_readPlayer 0 = .ok (.aload_n 0, 1) := by decide +kernel
theorem dX11_readPlayer_1 : decode cX11_readPlayer 1 = .ok (.aload_n 0, 1) := by decide +kernel
theorem dX11_readPlayer_2 : decode cX11_readPlayer 2 = .ok (.getfield 13, 3) := by decide +kernel
theorem dX11_readPlayer_5 : decode cX11_readPlayer 5 = .ok (.iconst 4, 1) := by decide +kernel
theorem dX11_readPlayer_6 : decode cX11_readPlayer 6 = .ok (.iaload, 1) := by decide +kernel
theorem dX11_readPlayer_7 : decode cX11_readPlayer 7 = .ok (.bipush 6, 2) := by decide +kernel
theorem dX11_readPlayer_9 : decode cX11_readPlayer 9 = .ok (.if_icmp .ge 7, 3) := by decide +kernel
theorem dX11_readPlayer_12 : decode cX11_readPlayer 12 = .ok (.iconst 1, 1) := by decide +kernel
theorem dX11_readPlayer_13 : decode cX11_readPlayer 13 = .ok (.goto 4, 3) := by decide +kernel
theorem dX11_readPlayer_16 : decode cX11_readPlayer 16 = .ok (.iconst 0, 1) := by decide +kernel
theorem dX11_readPlayer_17 : decode cX11_readPlayer 17 = .ok (.iconst 5, 1) := by decide +kernel
theorem dX11_readPlayer_18 : decode cX11_readPlayer 18 = .ok (.invokevirtual 205, 3) := by decide +kernel
theorem dX11_readPlayer_21 : decode cX11_readPlayer 21 = .ok (.pop, 1) := by decide +kernel
theorem dX11_readPlayer_22 : decode cX11_readPlayer 22 = .ok (.aload_n 0, 1) := by decide +kernel
theorem dX11_readPlayer_23 : decode cX11_readPlayer 23 = .ok (.invokevirtual 212, 3) := by decide +kernel
theorem dX11_readPlayer_26 : decode cX11_readPlayer 26 = .ok (.aload_n 0, 1) := by decide +kernel
theorem dX11_readPlayer_27 : decode cX11_readPlayer 27 = .ok (.aload_n 0, 1) := by decide +kernel
theorem dX11_readPlayer_28 : decode cX11_readPlayer 28 = .ok (.getfield 194, 3) := by decide +kernel
theorem dX11_readPlayer_31 : decode cX11_readPlayer 31 = .ok (.iconst 3, 1) := by decide +kernel
theorem dX11_readPlayer_32 : decode cX11_readPlayer 32 = .ok (.if_icmp .ne 7, 3) := by decide +kernel
theorem dX11_readPlayer_35 : decode cX11_readPlayer 35 = .ok (.iconst 1, 1) := by decide +kernel
theorem dX11_readPlayer_36 : decode cX11_readPlayer 36 = .ok (.goto 4, 3) := by decide +kernel
theorem dX11_readPlayer_39 : decode cX11_readPlayer 39 = .ok (.iconst 0, 1) := by decide +kernel
theorem dX11_readPlayer_40 : decode cX11_readPlayer 40 = .ok (.iconst 1, 1) := by decide +kernel
theorem dX11_readPlayer_41 : decode cX11_readPlayer 41 = .ok (.invokevirtual 205, 3) := by decide +kernel
theorem dX11_readPlayer_44 : decode cX11_readPlayer 44 = .ok (.pop, 1) := by decide +kernel
theorem dX11_readPlayer_45 : decode cX11_readPlayer 45 = .ok (.aload_n 0, 1) := by decide +kernel
theorem dX11_readPlayer_46 : decode cX11_readPlayer 46 = .ok (.getfield 173, 3) := by decide +kernel
theorem dX11_readPlayer_49 : decode cX11_readPlayer 49 = .ok (.ifCond .ne 18, 3) := by decide +kernel
theorem dX11_readPlayer_52 : decode cX11_readPlayer 52 = .ok (.aload_n 0, 1) := by decide +kernel
theorem dX11_readPlayer_53 : decode cX11_readPlayer 53 = .ok (.aload_n 0, 1) := by decide +kernel
theorem dX11_readPlayer_54 : decode cX11_readPlayer 54 = .ok (.getfield 185, 3) := by decide +kernel
theorem dX11_readPlayer_57 : decode cX11_readPlayer 57 = .ok (.aload_n 0, 1) := by decide +kernel
theorem dX11_readPlayer_58 : decode cX11_readPlayer 58 = .ok (.getfield 188, 3) := by decide +kernel
theorem dX11_readPlayer_61 : decode cX11_readPlayer 61 = .ok (.invokevirtual 218, 3) := by decide +kernel
theorem dX11_readPlayer_64 : decode cX11_readPlayer 64 = .ok (.goto 4, 3) := by decide +kernel
theorem dX11_readPlayer_67 : decode cX11_readPlayer 67 = .ok (.iconst 0, 1) := by decide +kernel
theorem dX11_readPlayer_68 : decode cX11_readPlayer 68 = .ok (.istore_n 1, 1) := by decide +kernel
theorem dX11_readPlayer_69 : decode cX11_readPlayer 69 = .ok (.aload_n 0, 1) := by decide +kernel
theorem dX11_readPlayer_70 : decode cX11_readPlayer 70 = .ok (.iload_n 1, 1) := by decide +kernel
theorem dX11_readPlayer_71 : decode cX11_readPlayer 71 = .ok (.iconst (-1), 1) := by decide +kernel
theorem dX11_readPlayer_72 : decode cX11_readPlayer 72 = .ok (.if_icmp .eq 7, 3) := by decide +kernel
theorem dX11_readPlayer_75 : decode cX11_readPlayer 75 = .ok (.iconst 1, 1) := by decide +kernel
theorem dX11_readPlayer_76 : decode cX11_readPlayer 76 = .ok (.goto 4, 3) := by decide +kernel
theorem dX11_readPlayer_79 : decode cX11_readPlayer 79 = .ok (.iconst 0, 1) := by decide +kernel
theorem dX11_readPlayer_80 : decode cX11_readPlayer 80 = .ok (.iconst 2, 1) := by decide +kernel
theorem dX11_readPlayer_81 : decode cX11_readPlayer 81 = .ok (.invokevirtual 205, 3) := by decide +kernel
theorem dX11_readPlayer_84 : decode cX11_readPlayer 84 = .ok (.pop, 1) := by decide +kernel
theorem dX11_readPlayer_85 : decode cX11_readPlayer 85 = .ok (.aload_n 0, 1) := by decide +kernel
theorem dX11_readPlayer_86 : decode cX11_readPlayer 86 = .ok (.aload_n 0, 1) := by decide +kernel
theorem dX11_readPlayer_87 : decode cX11_readPlayer 87 = .ok (.getfield 173, 3) := by decide +kernel
theorem dX11_readPlayer_90 : decode cX11_readPlayer 90 = .ok (.ifCond .ne 15, 3) := by decide +kernel
theorem dX11_readPlayer_93 : decode cX11_readPlayer 93 = .ok (.aload_n 0, 1) := by decide +kernel
theorem dX11_readPlayer_94 : decode cX11_readPlayer 94 = .ok (.getfield 13, 3) := by decide +kernel
theorem dX11_readPlayer_97 : decode cX11_readPlayer 97 = .ok (.iload_n 1, 1) := by decide +kernel
theorem dX11_readPlayer_98 : decode cX11_readPlayer 98 = .ok (.invokestatic 221, 3) := by decide +kernel
theorem dX11_readPlayer_101 : decode cX11_readPlayer 101 = .ok (.iconst (-1), 1) := by decide +kernel
theorem dX11_readPlayer_102 : decode cX11_readPlayer 102 = .ok (.if_icmp .ne 7, 3) := by decide +kernel
theorem dX11_readPlayer_105 : decode cX11_readPlayer 105 = .ok (.iconst 1, 1) := by decide +kernel
theorem dX11_readPlayer_106 : decode cX11_readPlayer 106 = .ok (.goto 4, 3) := by decide +kernel
theorem dX11_readPlayer_109 : decode cX11_readPlayer 109 = .ok (.iconst 0, 1) := by decide +kernel
theorem dX11_readPlayer_110 : decode cX11_readPlayer 110 = .ok (.iconst 3, 1) := by decide +kernel
theorem dX11_readPlayer_111 : decode cX11_readPlayer 111 = .ok (.invokevirtual 205, 3) := by decide +kernel
theorem dX11_readPlayer_114 : decode cX11_readPlayer 114 = .ok (.pop, 1) := by decide +kernel
theorem dX11_readPlayer_115 : decode cX11_readPlayer 115 = .ok (.aload_n 0, 1) := by decide +kernel
theorem dX11_readPlayer_116 : decode cX11_readPlayer 116 = .ok (.invokevirtual 212, 3) := by decide +kernel
theorem dX11_readPlayer_119 : decode cX11_readPlayer 119 = .ok (.aload_n 0, 1) := by decide +kernel
theorem dX11_readPlayer_120 : decode cX11_readPlayer 120 = .ok (.invokevirtual 224, 3) := by decide +kernel
theorem dX11_readPlayer_123 : decode cX11_readPlayer 123 = .ok (.aload_n 0, 1) := by decide +kernel
theorem dX11_readPlayer_124 : decode cX11_readPlayer 124 = .ok (.getfield 173, 3) := by decide +kernel
theorem dX11_readPlayer_127 : decode cX11_readPlayer 127 = .ok (.ifCond .ne 28, 3) := by decide +kernel
theorem dX11_readPlayer_130 : decode cX11_readPlayer 130 = .ok (.aload_n 0, 1) := by decide +kernel
theorem dX11_readPlayer_131 : decode cX11_readPlayer 131 = .ok (.getfield 13, 3) := by decide +kernel
theorem dX11_readPlayer_134 : decode cX11_readPlayer 134 = .ok (.bipush 85, 2) := by decide +kernel
theorem dX11_readPlayer_136 : decode cX11_readPlayer 136 = .ok (.aload_n 0, 1) := by decide +kernel
theorem dX11_readPlayer_137 : decode cX11_readPlayer 137 = .ok (.getfield 13, 3) := by decide +kernel
theorem dX11_readPlayer_140 : decode cX11_readPlayer 140 = .ok (.iconst 4, 1) := by decide +kernel
theorem dX11_readPlayer_141 : decode cX11_readPlayer 141 = .ok (.iaload, 1) := by decide +kernel
theorem dX11_readPlayer_142 : decode cX11_readPlayer 142 = .ok (.iadd, 1) := by decide +kernel
theorem dX11_readPlayer_143 : decode cX11_readPlayer 143 = .ok (.iload_n 1, 1) := by decide +kernel
theorem dX11_readPlayer_144 : decode cX11_readPlayer 144 = .ok (.iastore, 1) := by decide +kernel
theorem dX11_readPlayer_145 : decode cX11_readPlayer 145 = .ok (.aload_n 0, 1) := by decide +kernel
theorem dX11_readPlayer_146 : decode cX11_readPlayer 146 = .ok (.getfield 13, 3) := by decide +kernel
theorem dX11_readPlayer_149 : decode cX11_readPlayer 149 = .ok (.iconst 4, 1) := by decide +kernel
theorem dX11_readPlayer_150 : decode cX11_readPlayer 150 = .ok (.dup2, 1) := by decide +kernel
theorem dX11_readPlayer_151 : decode cX11_readPlayer 151 = .ok (.iaload, 1) := by decide +kernel
theorem dX11_readPlayer_152 : decode cX11_readPlayer 152 = .ok (.iconst 1, 1) := by decide +kernel
theorem dX11_readPlayer_153 : decode cX11_readPlayer 153 = .ok (.iadd, 1) := by decide +kernel
theorem dX11_readPlayer_154 : decode cX11_readPlayer 154 = .ok (.iastore, 1) := by decide +kernel
theorem dX11_readPlayer_155 : decode cX11_readPlayer 155 = .ok (.return_, 1) := by decide +kernel
theorem dX11_player_0 : decode cX11_player 0 = .ok (.aload_n 0, 1) := by decide +kernel
theorem dX11_player_1 : decode cX11_player 1 = .ok (.aload_n 0, 1) := by decide +kernel
theorem dX11_player_2 : decode cX11_player 2 = .ok (.getfield 194, 3) := by decide +kernel
theorem dX11_player_5 : decode cX11_player 5 = .ok (.iconst 3, 1) := by decide +kernel
theorem dX11_player_6 : decode cX11_player 6 = .ok (.if_icmp .ne 7, 3) := by decide +kernel
theorem dX11_player_9 : decode cX11_player 9 = .ok (.iconst 1, 1) := by decide +kernel
theorem dX11_player_10 : decode cX11_player 10 = .ok (.goto 4, 3) := by decide +kernel
theorem dX11_player_13 : decode cX11_player 13 = .ok (.iconst 0, 1) := by decide +kernel
theorem dX11_player_14 : decode cX11_player 14 = .ok (.iconst 1, 1) := by decide +kernel
theorem dX11_player_15 : decode cX11_player 15 = .ok (.invokevirtual 205, 3) := by decide +kernel
theorem dX11_player_18 : decode cX11_player 18 = .ok (.pop, 1) := by decide +kernel
theorem dX11_player_19 : decode cX11_player 19 = .ok (.aload_n 0, 1) := by decide +kernel
theorem dX11_player_20 : decode cX11_player 20 = .ok (.getfield 173, 3) := by decide +kernel
theorem dX11_player_23 : decode cX11_player 23 = .ok (.ifCond .ne 25, 3) := by decide +kernel
theorem dX11_player_26 : decode cX11_player 26 = .ok (.aload_n 0, 1) := by decide +kernel
theorem dX11_player_27 : decode cX11_player 27 = .ok (.getfield 13, 3) := by decide +kernel
theorem dX11_player_30 : decode cX11_player 30 = .ok (.aload_n 0, 1) := by decide +kernel
theorem dX11_player_31 : decode cX11_player 31 = .ok (.aload_n 0, 1) := by decide +kernel
theorem dX11_player_32 : decode cX11_player 32 = .ok (.getfield 185, 3) := by decide +kernel
theorem dX11_player_35 : decode cX11_player 35 = .ok (.aload_n 0, 1) := by decide +kernel
theorem dX11_player_36 : decode cX11_player 36 = .ok (.getfield 188, 3) := by decide +kernel
theorem dX11_player_39 : decode cX11_player 39 = .ok (.invokevirtual 218, 3) := by decide +kernel
theorem dX11_player_42 : decode cX11_player 42 = .ok (.invokestatic 221, 3) := by decide +kernel
theorem dX11_player_45 : decode cX11_player 45 = .ok (.goto 4, 3) := by decide +kernel
theorem dX11_player_48 : decode cX11_player 48 = .ok (.iconst 0, 1) := by decide +kernel
theorem dX11_player_49 : decode cX11_player 49 = .ok (.istore_n 1, 1) := by decide +kernel
theorem dX11_player_50 : decode cX11_player 50 = .ok (.aload_n 0, 1) := by decide +kernel
theorem dX11_player_51 : decode cX11_player 51 = .ok (.aload_n 0, 1) := by decide +kernel
theorem dX11_player_52 : decode cX11_player 52 = .ok (.getfield 173, 3) := by decide +kernel
theorem dX11_player_55 : decode cX11_player 55 = .ok (.ifCond .ne 8, 3) := by decide +kernel
theorem dX11_player_58 : decode cX11_player 58 = .ok (.iload_n 1, 1) := by decide +kernel
theorem dX11_player_59 : decode cX11_player 59 = .ok (.iconst (-1), 1) := by decide +kernel
theorem dX11_player_60 : decode cX11_player 60 = .ok (.if_icmp .eq 7, 3) := by decide +kernel
theorem dX11_player_63 : decode cX11_player 63 = .ok (.iconst 1, 1) := by decide +kernel
theorem dX11_player_64 : decode cX11_player 64 = .ok (.goto 4, 3) := by decide +kernel
theorem dX11_player_67 : decode cX11_player 67 = .ok (.iconst 0, 1) := by decide +kernel
theorem dX11_player_68 : decode cX11_player 68 = .ok (.iconst 4, 1) := by decide +kernel
theorem dX11_player_69 : decode cX11_player 69 = .ok (.invokevirtual 205, 3) := by decide +kernel
theorem dX11_player_72 : decode cX11_player 72 = .ok (.pop, 1) := by decide +kernel
theorem dX11_player_73 : decode cX11_player 73 = .ok (.aload_n 0, 1) := by decide +kernel
theorem dX11_player_74 : decode cX11_player 74 = .ok (.invokevirtual 212, 3) := by decide +kernel
theorem dX11_player_77 : decode cX11_player 77 = .ok (.iload_n 1, 1) := by decide +kernel
theorem dX11_player_78 : decode cX11_player 78 = .ok (.ireturn, 1) := by decide +kernel
theorem dX11_readThrow_0 : decode cX11_readThrow 0 = .ok (.aload_n 0, 1) := by decide +kernel
theorem dX11_readThrow_1 : decode cX11_readThrow 1 = .ok (.invokevirtual 212, 3) := by decide +kernel
theorem dX11_readThrow_4 : decode cX11_readThrow 4 = .ok (.aload_n 0, 1) := by decide +kernel
theorem dX11_readThrow_5 : decode cX11_readThrow 5 = .ok (.invokevirtual 227, 3) := by decide +kernel
theorem dX11_readThrow_8 : decode cX11_readThrow 8 = .ok (.istore_n 1, 1) := by decide +kernel
theorem dX11_readThrow_9 : decode cX11_readThrow 9 = .ok (.aload_n 0, 1) := by decide +kernel
theorem dX11_readThrow_10 : decode cX11_readThrow 10 = .ok (.iconst 0, 1) := by decide +kernel
theorem dX11_readThrow_11 : decode cX11_readThrow 11 = .ok (.aload_n 0, 1) := by decide +kernel
theorem dX11_readThrow_12 : decode cX11_readThrow 12 = .ok (.getfield 13, 3) := by decide +kernel
theorem dX11_readThrow_15 : decode cX11_readThrow 15 = .ok (.iconst 3, 1) := by decide +kernel
theorem dX11_readThrow_16 : decode cX11_readThrow 16 = .ok (.iaload, 1) := by decide +kernel
theorem dX11_readThrow_17 : decode cX11_readThrow 17 = .ok (.iconst 1, 1) := by decide +kernel
theorem dX11_readThrow_18 : decode cX11_readThrow 18 = .ok (.isub, 1) := by decide +kernel
theorem dX11_readThrow_19 : decode cX11_readThrow 19 = .ok (.invokevirtual 230, 3) := by decide +kernel
theorem dX11_readThrow_22 : decode cX11_readThrow 22 = .ok (.istore_n 2, 1) := by decide +kernel
theorem dX11_readThrow_23 : decode cX11_readThrow 23 = .ok (.aload_n 0, 1) := by decide +kernel
theorem dX11_readThrow_24 : decode cX11_readThrow 24 = .ok (.iconst 1, 1) := by decide +kernel
theorem dX11_readThrow_25 : decode cX11_readThrow 25 = .ok (.bipush 50, 2) := by decide +kernel
theorem dX11_readThrow_27 : decode cX11_readThrow 27 = .ok (.invokevirtual 230, 3) := by decide +kernel
theorem dX11_readThrow_30 : decode cX11_readThrow 30 = .ok (.istore_n 3, 1) := by decide +kernel
theorem dX11_readThrow_31 : decode cX11_readThrow 31 = .ok (.aload_n 0, 1) := by decide +kernel
theorem dX11_readThrow_32 : decode cX11_readThrow 32 = .ok (.invokevirtual 215, 3) := by decide +kernel
theorem dX11_readThrow_35 : decode cX11_readThrow 35 = .ok (.aload_n 0, 1) := by decide +kernel
theorem dX11_readThrow_36 : decode cX11_readThrow 36 = .ok (.aload_n 0, 1) := by decide +kernel
theorem dX11_readThrow_37 : decode cX11_readThrow 37 = .ok (.getfield 173, 3) := by decide +kernel
theorem dX11_readThrow_40 : decode cX11_readThrow 40 = .ok (.ifCond .ne 17, 3) := by decide +kernel
theorem dX11_readThrow_43 : decode cX11_readThrow 43 = .ok (.aload_n 0, 1) := by decide +kernel
theorem dX11_readThrow_44 : decode cX11_readThrow 44 = .ok (.getfield 13, 3) := by decide +kernel
theorem dX11_readThrow_47 : decode cX11_readThrow 47 = .ok (.iconst 5, 1) := by decide +kernel
theorem dX11_readThrow_48 : decode cX11_readThrow 48 = .ok (.iaload, 1) := by decide +kernel
theorem dX11_readThrow_49 : decode cX11_readThrow 49 = .ok (.iload_n 3, 1) := by decide +kernel
theorem dX11_readThrow_50 : decode cX11_readThrow 50 = .ok (.iadd, 1) := by decide +kernel
theorem dX11_readThrow_51 : decode cX11_readThrow 51 = .ok (.sipush 300, 3) := by decide +kernel
theorem dX11_readThrow_54 : decode cX11_readThrow 54 = .ok (.if_icmp .gt 7, 3) := by decide +kernel
theorem dX11_readThrow_57 : decode cX11_readThrow 57 = .ok (.iconst 1, 1) := by decide +kernel
theorem dX11_readThrow_58 : decode cX11_readThrow 58 = .ok (.goto 4, 3) := by decide +kernel
theorem dX11_readThrow_61 : decode cX11_readThrow 61 = .ok (.iconst 0, 1) := by decide +kernel
theorem dX11_readThrow_62 : decode cX11_readThrow 62 = .ok (.bipush 6, 2) := by decide +kernel
theorem dX11_readThrow_64 : decode cX11_readThrow 64 = .ok (.invokevirtual 205, 3) := by decide +kernel
theorem dX11_readThrow_67 : decode cX11_readThrow 67 = .ok (.pop, 1) := by decide +kernel
theorem dX11_readThrow_68 : decode cX11_readThrow 68 = .ok (.aload_n 0, 1) := by decide +kernel
theorem dX11_readThrow_69 : decode cX11_readThrow 69 = .ok (.getfield 173, 3) := by decide +kernel
theorem dX11_readThrow_72 : decode cX11_readThrow 72 = .ok (.ifCond .ne 22, 3) := by decide +kernel
theorem dX11_readThrow_75 : decode cX11_readThrow 75 = .ok (.aload_n 0, 1) := by decide +kernel
theorem dX11_readThrow_76 : decode cX11_readThrow 76 = .ok (.getfield 13, 3) := by decide +kernel
theorem dX11_readThrow_79 : decode cX11_readThrow 79 = .ok (.iload_n 1, 1) := by decide +kernel
theorem dX11_readThrow_80 : decode cX11_readThrow 80 = .ok (.iload_n 2, 1) := by decide +kernel
theorem dX11_readThrow_81 : decode cX11_readThrow 81 = .ok (.iload_n 3, 1) := by decide +kernel
theorem dX11_readThrow_82 : decode cX11_readThrow 82 = .ok (.iconst 0, 1) := by decide +kernel
theorem dX11_readThrow_83 : decode cX11_readThrow 83 = .ok (.invokestatic 151, 3) := by decide +kernel
theorem dX11_readThrow_86 : decode cX11_readThrow 86 = .ok (.ifCond .ge 8, 3) := by decide +kernel
theorem dX11_readThrow_89 : decode cX11_readThrow 89 = .ok (.aload_n 0, 1) := by decide +kernel
theorem dX11_readThrow_90 : decode cX11_readThrow 90 = .ok (.iconst 1, 1) := by decide +kernel
theorem dX11_readThrow_91 : decode cX11_readThrow 91 = .ok (.putfield 173, 3) := by decide +kernel
theorem dX11_readThrow_94 : decode cX11_readThrow 94 = .ok (.aload_n 0, 1) := by decide +kernel
theorem dX11_readThrow_95 : decode cX11_readThrow 95 = .ok (.invokevirtual 212, 3) := by decide +kernel
theorem dX11_readThrow_98 : decode cX11_readThrow 98 = .ok (.return_, 1) := by decide +kernel
theorem dX11_readAudit_0 : decode cX11_readAudit 0 = .ok (.aload_n 0, 1) := by decide +kernel
theorem dX11_readAudit_1 : decode cX11_readAudit 1 = .ok (.invokevirtual 212, 3) := by decide +kernel
theorem dX11_readAudit_4 : decode cX11_readAudit 4 = .ok (.aload_n 0, 1) := by decide +kernel
theorem dX11_readAudit_5 : decode cX11_readAudit 5 = .ok (.invokevirtual 224, 3) := by decide +kernel
theorem dX11_readAudit_8 : decode cX11_readAudit 8 = .ok (.aload_n 0, 1) := by decide +kernel
theorem dX11_readAudit_9 : decode cX11_readAudit 9 = .ok (.getfield 173, 3) := by decide +kernel
theorem dX11_readAudit_12 : decode cX11_readAudit 12 = .ok (.ifCond .ne 19, 3) := by decide +kernel
theorem dX11_readAudit_15 : decode cX11_readAudit 15 = .ok (.aload_n 0, 1) := by decide +kernel
theorem dX11_readAudit_16 : decode cX11_readAudit 16 = .ok (.aload_n 0, 1) := by decide +kernel
theorem dX11_readAudit_17 : decode cX11_readAudit 17 = .ok (.getfield 13, 3) := by decide +kernel
theorem dX11_readAudit_20 : decode cX11_readAudit 20 = .ok (.invokevirtual 233, 3) := by decide +kernel
theorem dX11_readAudit_23 : decode cX11_readAudit 23 = .ok (.ifCond .ge 8, 3) := by decide +kernel
theorem dX11_readAudit_26 : decode cX11_readAudit 26 = .ok (.aload_n 0, 1) := by decide +kernel
theorem dX11_readAudit_27 : decode cX11_readAudit 27 = .ok (.iconst 1, 1) := by decide +kernel
theorem dX11_readAudit_28 : decode cX11_readAudit 28 = .ok (.putfield 173, 3) := by decide +kernel
theorem dX11_readAudit_31 : decode cX11_readAudit 31 = .ok (.return_, 1) := by decide +kernel
theorem dX11_readAbsolve_0 : decode cX11_readAbsolve 0 = .ok (.aload_n 0, 1) := by decide +kernel
theorem dX11_readAbsolve_1 : decode cX11_readAbsolve 1 = .ok (.invokevirtual 212, 3) := by decide +kernel
theorem dX11_readAbsolve_4 : decode cX11_readAbsolve 4 = .ok (.aload_n 0, 1) := by decide +kernel
theorem dX11_readAbsolve_5 : decode cX11_readAbsolve 5 = .ok (.invokevirtual 215, 3) := by decide +kernel
theorem dX11_readAbsolve_8 : decode cX11_readAbsolve 8 = .ok (.aload_n 0, 1) := by decide +kernel
theorem dX11_readAbsolve_9 : decode cX11_readAbsolve 9 = .ok (.aload_n 0, 1) := by decide +kernel
theorem dX11_readAbsolve_10 : decode cX11_readAbsolve 10 = .ok (.getfield 173, 3) := by decide +kernel
theorem dX11_readAbsolve_13 : decode cX11_readAbsolve 13 = .ok (.ifCond .ne 13, 3) := by decide +kernel
theorem dX11_readAbsolve_16 : decode cX11_readAbsolve 16 = .ok (.aload_n 0, 1) := by decide +kernel
theorem dX11_readAbsolve_17 : decode cX11_readAbsolve 17 = .ok (.getfield 13, 3) := by decide +kernel
theorem dX11_readAbsolve_20 : decode cX11_readAbsolve 20 = .ok (.bipush 6, 2) := by decide +kernel
theorem dX11_readAbsolve_22 : decode cX11_readAbsolve 22 = .ok (.iaload, 1) := by decide +kernel
theorem dX11_readAbsolve_23 : decode cX11_readAbsolve 23 = .ok (.ifCond .le 7, 3) := by decide +kernel
theorem dX11_readAbsolve_26 : decode cX11_readAbsolve 26 = .ok (.iconst 1, 1) := by decide +kernel
theorem dX11_readAbsolve_27 : decode cX11_readAbsolve 27 = .ok (.goto 4, 3) := by decide +kernel
theorem dX11_readAbsolve_30 : decode cX11_readAbsolve 30 = .ok (.iconst 0, 1) := by decide +kernel
theorem dX11_readAbsolve_31 : decode cX11_readAbsolve 31 = .ok (.bipush 6, 2) := by decide +kernel
theorem dX11_readAbsolve_33 : decode cX11_readAbsolve 33 = .ok (.invokevirtual 205, 3) := by decide +kernel
theorem dX11_readAbsolve_36 : decode cX11_readAbsolve 36 = .ok (.pop, 1) := by decide +kernel
theorem dX11_readAbsolve_37 : decode cX11_readAbsolve 37 = .ok (.aload_n 0, 1) := by decide +kernel
theorem dX11_readAbsolve_38 : decode cX11_readAbsolve 38 = .ok (.getfield 173, 3) := by decide +kernel
theorem dX11_readAbsolve_41 : decode cX11_readAbsolve 41 = .ok (.ifCond .ne 18, 3) := by decide +kernel
theorem dX11_readAbsolve_44 : decode cX11_readAbsolve 44 = .ok (.aload_n 0, 1) := by decide +kernel
theorem dX11_readAbsolve_45 : decode cX11_readAbsolve 45 = .ok (.getfield 13, 3) := by decide +kernel
theorem dX11_readAbsolve_48 : decode cX11_readAbsolve 48 = .ok (.invokestatic 236, 3) := by decide +kernel
theorem dX11_readAbsolve_51 : decode cX11_readAbsolve 51 = .ok (.ifCond .ge 8, 3) := by decide +kernel
theorem dX11_readAbsolve_54 : decode cX11_readAbsolve 54 = .ok (.aload_n 0, 1) := by decide +kernel
theorem dX11_readAbsolve_55 : decode cX11_readAbsolve 55 = .ok (.iconst 1, 1) := by decide +kernel
theorem dX11_readAbsolve_56 : decode cX11_readAbsolve 56 = .ok (.putfield 173, 3) := by decide +kernel
theorem dX11_readAbsolve_59 : decode cX11_readAbsolve 59 = .ok (.aload_n 0, 1) := by decide +kernel
theorem dX11_readAbsolve_60 : decode cX11_readAbsolve 60 = .ok (.invokevirtual 212, 3) := by decide +kernel
theorem dX11_readAbsolve_63 : decode cX11_readAbsolve 63 = .ok (.return_, 1) := by decide +kernel
theorem dX11_readForgive_0 : decode cX11_readForgive 0 = .ok (.aload_n 0, 1) := by decide +kernel
theorem dX11_readForgive_1 : decode cX11_readForgive 1 = .ok (.invokevirtual 212, 3) := by decide +kernel
theorem dX11_readForgive_4 : decode cX11_readForgive 4 = .ok (.aload_n 0, 1) := by decide +kernel
theorem dX11_readForgive_5 : decode cX11_readForgive 5 = .ok (.invokevirtual 227, 3) := by decide +kernel
theorem dX11_readForgive_8 : decode cX11_readForgive 8 = .ok (.istore_n 1, 1) := by decide +kernel
theorem dX11_readForgive_9 : decode cX11_readForgive 9 = .ok (.aload_n 0, 1) := by decide +kernel
theorem dX11_readForgive_10 : decode cX11_readForgive 10 = .ok (.invokevirtual 224, 3) := by decide +kernel
theorem dX11_readForgive_13 : decode cX11_readForgive 13 = .ok (.aload_n 0, 1) := by decide +kernel
theorem dX11_readForgive_14 : decode cX11_readForgive 14 = .ok (.getfield 173, 3) := by decide +kernel
theorem dX11_readForgive_17 : decode cX11_readForgive 17 = .ok (.ifCond .ne 19, 3) := by decide +kernel
theorem dX11_readForgive_20 : decode cX11_readForgive 20 = .ok (.aload_n 0, 1) := by decide +kernel
theorem dX11_readForgive_21 : decode cX11_readForgive 21 = .ok (.getfield 13, 3) := by decide +kernel
theorem dX11_readForgive_24 : decode cX11_readForgive 24 = .ok (.iload_n 1, 1) := by decide +kernel
theorem dX11_readForgive_25 : decode cX11_readForgive 25 = .ok (.invokestatic 239, 3) := by decide +kernel
theorem dX11_readForgive_28 : decode cX11_readForgive 28 = .ok (.ifCond .ge 8, 3) := by decide +kernel
theorem dX11_readForgive_31 : decode cX11_readForgive 31 = .ok (.aload_n 0, 1) := by decide +kernel
theorem dX11_readForgive_32 : decode cX11_readForgive 32 = .ok (.iconst 1, 1) := by decide +kernel
theorem dX11_readForgive_33 : decode cX11_readForgive 33 = .ok (.putfield 173, 3) := by decide +kernel
theorem dX11_readForgive_36 : decode cX11_readForgive 36 = .ok (.return_, 1) := by decide +kernel
theorem dX11_readStatement_0 : decode cX11_readStatement 0 = .ok (.aload_n 0, 1) := by decide +kernel
theorem dX11_readStatement_1 : decode cX11_readStatement 1 = .ok (.ldc 242, 2) := by decide +kernel
theorem dX11_readStatement_3 : decode cX11_readStatement 3 = .ok (.invokevirtual 244, 3) := by decide +kernel
theorem dX11_readStatement_6 : decode cX11_readStatement 6 = .ok (.ifCond .eq 10, 3) := by decide +kernel
theorem dX11_readStatement_9 : decode cX11_readStatement 9 = .ok (.aload_n 0, 1) := by decide +kernel
theorem dX11_readStatement_10 : decode cX11_readStatement 10 = .ok (.invokevirtual 248, 3) := by decide +kernel
theorem dX11_readStatement_13 : decode cX11_readStatement 13 = .ok (.goto 93, 3) := by decide +kernel
theorem dX11_readStatement_16 : decode cX11_readStatement 16 = .ok (.aload_n 0, 1) := by decide +kernel
theorem dX11_readStatement_17 : decode cX11_readStatement 17 = .ok (.ldc 251, 2) := by decide +kernel
theorem dX11_readStatement_19 : decode cX11_readStatement 19 = .ok (.invokevirtual 244, 3) := by decide +kernel
theorem dX11_readStatement_22 : decode cX11_readStatement 22 = .ok (.ifCond .eq 10, 3) := by decide +kernel
theorem dX11_readStatement_25 : decode cX11_readStatement 25 = .ok (.aload_n 0, 1) := by decide +kernel
theorem dX11_readStatement_26 : decode cX11_readStatement 26 = .ok (.invokevirtual 252, 3) := by decide +kernel
theorem dX11_readStatement_29 : decode cX11_readStatement 29 = .ok (.goto 77, 3) := by decide +kernel
theorem dX11_readStatement_32 : decode cX11_readStatement 32 = .ok (.aload_n 0, 1) := by decide +kernel
theorem dX11_readStatement_33 : decode cX11_readStatement 33 = .ok (.ldc 255, 2) := by decide +kernel
theorem dX11_readStatement_35 : decode cX11_readStatement 35 = .ok (.invokevirtual 244, 3) := by decide +kernel
theorem dX11_readStatement_38 : decode cX11_readStatement 38 = .ok (.ifCond .eq 10, 3) := by decide +kernel
theorem dX11_readStatement_41 : decode cX11_readStatement 41 = .ok (.aload_n 0, 1) := by decide +kernel
theorem dX11_readStatement_42 : decode cX11_readStatement 42 = .ok (.invokevirtual 257, 3) := by decide +kernel
theorem dX11_readStatement_45 : decode cX11_readStatement 45 = .ok (.goto 61, 3) := by decide +kernel
theorem dX11_readStatement_48 : decode cX11_readStatement 48 = .ok (.aload_n 0, 1) := by decide +kernel
theorem dX11_readStatement_49 : decode cX11_readStatement 49 = .ok (.ldc_w 260, 3) := by decide +kernel
theorem dX11_readStatement_52 : decode cX11_readStatement 52 = .ok (.invokevirtual 244, 3) := by decide +kernel
theorem dX11_readStatement_55 : decode cX11_readStatement 55 = .ok (.ifCond .eq 10, 3) := by decide +kernel
theorem dX11_readStatement_58 : decode cX11_readStatement 58 = .ok (.aload_n 0, 1) := by decide +kernel
theorem dX11_readStatement_59 : decode cX11_readStatement 59 = .ok (.invokevirtual 262, 3) := by decide +kernel
theorem dX11_readStatement_62 : decode cX11_readStatement 62 = .ok (.goto 44, 3) := by decide +kernel
theorem dX11_readStatement_65 : decode cX11_readStatement 65 = .ok (.aload_n 0, 1) := by decide +kernel
theorem dX11_readStatement_66 : decode cX11_readStatement 66 = .ok (.ldc_w 265, 3) := by decide +kernel
theorem dX11_readStatement_69 : decode cX11_readStatement 69 = .ok (.invokevirtual 244, 3) := by decide +kernel
theorem dX11_readStatement_72 : decode cX11_readStatement 72 = .ok (.ifCond .eq 10, 3) := by decide +kernel
theorem dX11_readStatement_75 : decode cX11_readStatement 75 = .ok (.aload_n 0, 1) := by decide +kernel
theorem dX11_readStatement_76 : decode cX11_readStatement 76 = .ok (.invokevirtual 267, 3) := by decide +kernel
theorem dX11_readStatement_79 : decode cX11_readStatement 79 = .ok (.goto 27, 3) := by decide +kernel
theorem dX11_readStatement_82 : decode cX11_readStatement 82 = .ok (.aload_n 0, 1) := by decide +kernel
theorem dX11_readStatement_83 : decode cX11_readStatement 83 = .ok (.ldc_w 270, 3) := by decide +kernel
theorem dX11_readStatement_86 : decode cX11_readStatement 86 = .ok (.invokevirtual 244, 3) := by decide +kernel
theorem dX11_readStatement_89 : decode cX11_readStatement 89 = .ok (.ifCond .eq 10, 3) := by decide +kernel
theorem dX11_readStatement_92 : decode cX11_readStatement 92 = .ok (.aload_n 0, 1) := by decide +kernel
theorem dX11_readStatement_93 : decode cX11_readStatement 93 = .ok (.invokevirtual 272, 3) := by decide +kernel
theorem dX11_readStatement_96 : decode cX11_readStatement 96 = .ok (.goto 10, 3) := by decide +kernel
theorem dX11_readStatement_99 : decode cX11_readStatement 99 = .ok (.aload_n 0, 1) := by decide +kernel
theorem dX11_readStatement_100 : decode cX11_readStatement 100 = .ok (.iconst 0, 1) := by decide +kernel
theorem dX11_readStatement_101 : decode cX11_readStatement 101 = .ok (.iconst 1, 1) := by decide +kernel
theorem dX11_readStatement_102 : decode cX11_readStatement 102 = .ok (.invokevirtual 205, 3) := by decide +kernel
theorem dX11_readStatement_105 : decode cX11_readStatement 105 = .ok (.pop, 1) := by decide +kernel
theorem dX11_readStatement_106 : decode cX11_readStatement 106 = .ok (.return_, 1) := by decide +kernel
theorem dX11_read_0 : decode cX11_read 0 = .ok (.aload_n 0, 1) := by decide +kernel
theorem dX11_read_1 : decode cX11_read 1 = .ok (.iconst 0, 1) := by decide +kernel
theorem dX11_read_2 : decode cX11_read 2 = .ok (.putfield 173, 3) := by decide +kernel
theorem dX11_read_5 : decode cX11_read 5 = .ok (.aload_n 0, 1) := by decide +kernel
theorem dX11_read_6 : decode cX11_read 6 = .ok (.iconst (-1), 1) := by decide +kernel
theorem dX11_read_7 : decode cX11_read 7 = .ok (.putfield 32, 3) := by decide +kernel
theorem dX11_read_10 : decode cX11_read 10 = .ok (.aload_n 0, 1) := by decide +kernel
theorem dX11_read_11 : decode cX11_read 11 = .ok (.iconst 0, 1) := by decide +kernel
theorem dX11_read_12 : decode cX11_read 12 = .ok (.putfield 179, 3) := by decide +kernel
theorem dX11_read_15 : decode cX11_read 15 = .ok (.iconst 0, 1) := by decide +kernel
theorem dX11_read_16 : decode cX11_read 16 = .ok (.istore_n 1, 1) := by decide +kernel
theorem dX11_read_17 : decode cX11_read 17 = .ok (.iload_n 1, 1) := by decide +kernel
theorem dX11_read_18 : decode cX11_read 18 = .ok (.sipush 1399, 3) := by decide +kernel
theorem dX11_read_21 : decode cX11_read 21 = .ok (.if_icmp .ge 16, 3) := by decide +kernel
theorem dX11_read_24 : decode cX11_read 24 = .ok (.aload_n 0, 1) := by decide +kernel
theorem dX11_read_25 : decode cX11_read 25 = .ok (.getfield 13, 3) := by decide +kernel
theorem dX11_read_28 : decode cX11_read 28 = .ok (.iload_n 1, 1) := by decide +kernel
theorem dX11_read_29 : decode cX11_read 29 = .ok (.iconst 0, 1) := by decide +kernel
theorem dX11_read_30 : decode cX11_read 30 = .ok (.iastore, 1) := by decide +kernel
theorem dX11_read_31 : decode cX11_read 31 = .ok (.iinc 1 1, 3) := by decide +kernel
theorem dX11_read_34 : decode cX11_read 34 = .ok (.goto (-17), 3) := by decide +kernel
theorem dX11_read_37 : decode cX11_read 37 = .ok (.aload_n 0, 1) := by decide +kernel
theorem dX11_read_38 : decode cX11_read 38 = .ok (.invokevirtual 202, 3) := by decide +kernel
theorem dX11_read_41 : decode cX11_read 41 = .ok (.aload_n 0, 1) := by decide +kernel
theorem dX11_read_42 : decode cX11_read 42 = .ok (.aload_n 0, 1) := by decide +kernel
theorem dX11_read_43 : decode cX11_read 43 = .ok (.ldc_w 275, 3) := by decide +kernel
theorem dX11_read_46 : decode cX11_read 46 = .ok (.invokevirtual 244, 3) := by decide +kernel
theorem dX11_read_49 : decode cX11_read 49 = .ok (.iconst 1, 1) := by decide +kernel
theorem dX11_read_50 : decode cX11_read 50 = .ok (.invokevirtual 205, 3) := by decide +kernel
theorem dX11_read_53 : decode cX11_read 53 = .ok (.pop, 1) := by decide +kernel
theorem dX11_read_54 : decode cX11_read 54 = .ok (.aload_n 0, 1) := by decide +kernel
theorem dX11_read_55 : decode cX11_read 55 = .ok (.invokevirtual 212, 3) := by decide +kernel
theorem dX11_read_58 : decode cX11_read 58 = .ok (.aload_n 0, 1) := by decide +kernel
theorem dX11_read_59 : decode cX11_read 59 = .ok (.getfield 13, 3) := by decide +kernel
theorem dX11_read_62 : decode cX11_read 62 = .ok (.iconst 0, 1) := by decide +kernel
theorem dX11_read_63 : decode cX11_read 63 = .ok (.aload_n 0, 1) := by decide +kernel
theorem dX11_read_64 : decode cX11_read 64 = .ok (.iconst 0, 1) := by decide +kernel
theorem dX11_read_65 : decode cX11_read 65 = .ok (.ldc_w 277, 3) := by decide +kernel
theorem dX11_read_68 : decode cX11_read 68 = .ok (.invokevirtual 230, 3) := by decide +kernel
theorem dX11_read_71 : decode cX11_read 71 = .ok (.iastore, 1) := by decide +kernel
theorem dX11_read_72 : decode cX11_read 72 = .ok (.aload_n 0, 1) := by decide +kernel
theorem dX11_read_73 : decode cX11_read 73 = .ok (.getfield 13, 3) := by decide +kernel
theorem dX11_read_76 : decode cX11_read 76 = .ok (.iconst 1, 1) := by decide +kernel
theorem dX11_read_77 : decode cX11_read 77 = .ok (.aload_n 0, 1) := by decide +kernel
theorem dX11_read_78 : decode cX11_read 78 = .ok (.iconst 1, 1) := by decide +kernel
theorem dX11_read_79 : decode cX11_read 79 = .ok (.bipush 99, 2) := by decide +kernel
theorem dX11_read_81 : decode cX11_read 81 = .ok (.invokevirtual 230, 3) := by decide +kernel
theorem dX11_read_84 : decode cX11_read 84 = .ok (.iastore, 1) := by decide +kernel
theorem dX11_read_85 : decode cX11_read 85 = .ok (.aload_n 0, 1) := by decide +kernel
theorem dX11_read_86 : decode cX11_read 86 = .ok (.getfield 13, 3) := by decide +kernel
theorem dX11_read_89 : decode cX11_read 89 = .ok (.iconst 2, 1) := by decide +kernel
theorem dX11_read_90 : decode cX11_read 90 = .ok (.aload_n 0, 1) := by decide +kernel
theorem dX11_read_91 : decode cX11_read 91 = .ok (.iconst 0, 1) := by decide +kernel
theorem dX11_read_92 : decode cX11_read 92 = .ok (.sipush 999, 3) := by decide +kernel
theorem dX11_read_95 : decode cX11_read 95 = .ok (.invokevirtual 230, 3) := by decide +kernel
theorem dX11_read_98 : decode cX11_read 98 = .ok (.iastore, 1) := by decide +kernel
theorem dX11_read_99 : decode cX11_read 99 = .ok (.aload_n 0, 1) := by decide +kernel
theorem dX11_read_100 : decode cX11_read 100 = .ok (.invokevirtual 224, 3) := by decide +kernel
theorem dX11_read_103 : decode cX11_read 103 = .ok (.aload_n 0, 1) := by decide +kernel
theorem dX11_read_104 : decode cX11_read 104 = .ok (.getfield 173, 3) := by decide +kernel
theorem dX11_read_107 : decode cX11_read 107 = .ok (.ifCond .ne 17, 3) := by decide +kernel
theorem dX11_read_110 : decode cX11_read 110 = .ok (.aload_n 0, 1) := by decide +kernel
theorem dX11_read_111 : decode cX11_read 111 = .ok (.getfield 194, 3) := by decide +kernel
theorem dX11_read_114 : decode cX11_read 114 = .ok (.ifCond .eq 10, 3) := by decide +kernel
theorem dX11_read_117 : decode cX11_read 117 = .ok (.aload_n 0, 1) := by decide +kernel
theorem dX11_read_118 : decode cX11_read 118 = .ok (.invokevirtual 278, 3) := by decide +kernel
theorem dX11_read_121 : decode cX11_read 121 = .ok (.goto (-18), 3) := by decide +kernel
theorem dX11_read_124 : decode cX11_read 124 = .ok (.return_, 1) := by decide +kernel
theorem dX11_load_0 : decode cX11_load 0 = .ok (.aload_n 0, 1) := by decide +kernel
theorem dX11_load_1 : decode cX11_load 1 = .ok (.iconst 0, 1) := by decide +kernel
theorem dX11_load_2 : decode cX11_load 2 = .ok (.putfield 66, 3) := by decide +kernel
theorem dX11_load_5 : decode cX11_load 5 = .ok (.aload_n 0, 1) := by decide +kernel
theorem dX11_load_6 : decode cX11_load 6 = .ok (.invokevirtual 46, 3) := by decide +kernel
theorem dX11_load_9 : decode cX11_load 9 = .ok (.aload_n 0, 1) := by decide +kernel
theorem dX11_load_10 : decode cX11_load 10 = .ok (.iconst 0, 1) := by decide +kernel
theorem dX11_load_11 : decode cX11_load 11 = .ok (.putfield 49, 3) := by decide +kernel
theorem dX11_load_14 : decode cX11_load 14 = .ok (.aload_n 0, 1) := by decide +kernel
theorem dX11_load_15 : decode cX11_load 15 = .ok (.aload_n 0, 1) := by decide +kernel
theorem dX11_load_16 : decode cX11_load 16 = .ok (.getfield 173, 3) := by decide +kernel
theorem dX11_load_19 : decode cX11_load 19 = .ok (.ifCond .eq 7, 3) := by decide +kernel
theorem dX11_load_22 : decode cX11_load 22 = .ok (.iconst 1, 1) := by decide +kernel
theorem dX11_load_23 : decode cX11_load 23 = .ok (.goto 4, 3) := by decide +kernel
theorem dX11_load_26 : decode cX11_load 26 = .ok (.iconst 0, 1) := by decide +kernel
theorem dX11_load_27 : decode cX11_load 27 = .ok (.iconst 1, 1) := by decide +kernel
theorem dX11_load_28 : decode cX11_load 28 = .ok (.invokevirtual 161, 3) := by decide +kernel
theorem dX11_load_31 : decode cX11_load 31 = .ok (.ifCond .eq 5, 3) := by decide +kernel
theorem dX11_load_34 : decode cX11_load 34 = .ok (.iconst 0, 1) := by decide +kernel
theorem dX11_load_35 : decode cX11_load 35 = .ok (.ireturn, 1) := by decide +kernel
theorem dX11_load_36 : decode cX11_load 36 = .ok (.aload_n 0, 1) := by decide +kernel
theorem dX11_load_37 : decode cX11_load 37 = .ok (.invokevirtual 281, 3) := by decide +kernel
theorem dX11_load_40 : decode cX11_load 40 = .ok (.aload_n 0, 1) := by decide +kernel
theorem dX11_load_41 : decode cX11_load 41 = .ok (.getfield 13, 3) := by decide +kernel
theorem dX11_load_44 : decode cX11_load 44 = .ok (.iconst 0, 1) := by decide +kernel
theorem dX11_load_45 : decode cX11_load 45 = .ok (.aload_n 0, 1) := by decide +kernel
theorem dX11_load_46 : decode cX11_load 46 = .ok (.getfield 7, 3) := by decide +kernel
theorem dX11_load_49 : decode cX11_load 49 = .ok (.iconst 0, 1) := by decide +kernel
theorem dX11_load_50 : decode cX11_load 50 = .ok (.invokestatic 52, 3) := by decide +kernel
theorem dX11_load_53 : decode cX11_load 53 = .ok (.aload_n 0, 1) := by decide +kernel
theorem dX11_load_54 : decode cX11_load 54 = .ok (.getfield 7, 3) := by decide +kernel
theorem dX11_load_57 : decode cX11_load 57 = .ok (.iconst 5, 1) := by decide +kernel
theorem dX11_load_58 : decode cX11_load 58 = .ok (.iaload, 1) := by decide +kernel
theorem dX11_load_59 : decode cX11_load 59 = .ok (.ireturn, 1) := by decide +kernel
theorem dX11_remember_0 : decode cX11_remember 0 = .ok (.aload_n 0, 1) := by decide +kernel
theorem dX11_remember_1 : decode cX11_remember 1 = .ok (.getfield 284, 3) := by decide +kernel
theorem dX11_remember_4 : decode cX11_remember 4 = .ok (.bipush 8, 2) := by decide +kernel
theorem dX11_remember_6 : decode cX11_remember 6 = .ok (.if_icmp .ne 26, 3) := by decide +kernel
theorem dX11_remember_9 : decode cX11_remember 9 = .ok (.aload_n 0, 1) := by decide +kernel
theorem dX11_remember_10 : decode cX11_remember 10 = .ok (.aload_n 0, 1) := by decide +kernel
theorem dX11_remember_11 : decode cX11_remember 11 = .ok (.getfield 287, 3) := by decide +kernel
theorem dX11_remember_14 : decode cX11_remember 14 = .ok (.iconst 1, 1) := by decide +kernel
theorem dX11_remember_15 : decode cX11_remember 15 = .ok (.iadd, 1) := by decide +kernel
theorem dX11_remember_16 : decode cX11_remember 16 = .ok (.bipush 8, 2) := by decide +kernel
theorem dX11_remember_18 : decode cX11_remember 18 = .ok (.irem, 1) := by decide +kernel
theorem dX11_remember_19 : decode cX11_remember 19 = .ok (.putfield 287, 3) := by decide +kernel
theorem dX11_remember_22 : decode cX11_remember 22 = .ok (.aload_n 0, 1) := by decide +kernel
theorem dX11_remember_23 : decode cX11_remember 23 = .ok (.dup, 1) := by decide +kernel
theorem dX11_remember_24 : decode cX11_remember 24 = .ok (.getfield 284, 3) := by decide +kernel
theorem dX11_remember_27 : decode cX11_remember 27 = .ok (.iconst 1, 1) := by decide +kernel
theorem dX11_remember_28 : decode cX11_remember 28 = .ok (.isub, 1) := by decide +kernel
theorem dX11_remember_29 : decode cX11_remember 29 = .ok (.putfield 284, 3) := by decide +kernel
theorem dX11_remember_32 : decode cX11_remember 32 = .ok (.aload_n 0, 1) := by decide +kernel
theorem dX11_remember_33 : decode cX11_remember 33 = .ok (.getfield 7, 3) := by decide +kernel
theorem dX11_remember_36 : decode cX11_remember 36 = .ok (.iconst 0, 1) := by decide +kernel
theorem dX11_remember_37 : decode cX11_remember 37 = .ok (.aload_n 0, 1) := by decide +kernel
theorem dX11_remember_38 : decode cX11_remember 38 = .ok (.getfield 16, 3) := by decide +kernel
theorem dX11_remember_41 : decode cX11_remember 41 = .ok (.sipush 1399, 3) := by decide +kernel
theorem dX11_remember_44 : decode cX11_remember 44 = .ok (.aload_n 0, 1) := by decide +kernel
theorem dX11_remember_45 : decode cX11_remember 45 = .ok (.getfield 287, 3) := by decide +kernel
theorem dX11_remember_48 : decode cX11_remember 48 = .ok (.aload_n 0, 1) := by decide +kernel
theorem dX11_remember_49 : decode cX11_remember 49 = .ok (.getfield 284, 3) := by decide +kernel
theorem dX11_remember_52 : decode cX11_remember 52 = .ok (.iadd, 1) := by decide +kernel
theorem dX11_remember_53 : decode cX11_remember 53 = .ok (.bipush 8, 2) := by decide +kernel
theorem dX11_remember_55 : decode cX11_remember 55 = .ok (.irem, 1) := by decide +kernel
theorem dX11_remember_56 : decode cX11_remember 56 = .ok (.imul, 1) := by decide +kernel
theorem dX11_remember_57 : decode cX11_remember 57 = .ok (.invokestatic 52, 3) := by decide +kernel
theorem dX11_remember_60 : decode cX11_remember 60 = .ok (.aload_n 0, 1) := by decide +kernel
theorem dX11_remember_61 : decode cX11_remember 61 = .ok (.dup, 1) := by decide +kernel
theorem dX11_remember_62 : decode cX11_remember 62 = .ok (.getfield 284, 3) := by decide +kernel
theorem dX11_remember_65 : decode cX11_remember 65 = .ok (.iconst 1, 1) := by decide +kernel
theorem dX11_remember_66 : decode cX11_remember 66 = .ok (.iadd, 1) := by decide +kernel
theorem dX11_remember_67 : decode cX11_remember 67 = .ok (.putfield 284, 3) := by decide +kernel
theorem dX11_remember_70 : decode cX11_remember 70 = .ok (.return_, 1) := by decide +kernel
theorem dX11_undo_0 : decode cX11_undo 0 = .ok (.aload_n 0, 1) := by decide +kernel
theorem dX11_undo_1 : decode cX11_undo 1 = .ok (.iconst 0, 1) := by decide +kernel
theorem dX11_undo_2 : decode cX11_undo 2 = .ok (.putfield 66, 3) := by decide +kernel
theorem dX11_undo_5 : decode cX11_undo 5 = .ok (.aload_n 0, 1) := by decide +kernel
theorem dX11_undo_6 : decode cX11_undo 6 = .ok (.aload_n 0, 1) := by decide +kernel
theorem dX11_undo_7 : decode cX11_undo 7 = .ok (.getfield 284, 3) := by decide +kernel
theorem dX11_undo_10 : decode cX11_undo 10 = .ok (.ifCond .ne 7, 3) := by decide +kernel
theorem dX11_undo_13 : decode cX11_undo 13 = .ok (.iconst 1, 1) := by decide +kernel
theorem dX11_undo_14 : decode cX11_undo 14 = .ok (.goto 4, 3) := by decide +kernel
theorem dX11_undo_17 : decode cX11_undo 17 = .ok (.iconst 0, 1) := by decide +kernel
theorem dX11_undo_18 : decode cX11_undo 18 = .ok (.iconst 1, 1) := by decide +kernel
theorem dX11_undo_19 : decode cX11_undo 19 = .ok (.invokevirtual 161, 3) := by decide +kernel
theorem dX11_undo_22 : decode cX11_undo 22 = .ok (.ifCond .eq 5, 3) := by decide +kernel
theorem dX11_undo_25 : decode cX11_undo 25 = .ok (.iconst 0, 1) := by decide +kernel
theorem dX11_undo_26 : decode cX11_undo 26 = .ok (.ireturn, 1) := by decide +kernel
theorem dX11_undo_27 : decode cX11_undo 27 = .ok (.aload_n 0, 1) := by decide +kernel
theorem dX11_undo_28 : decode cX11_undo 28 = .ok (.dup, 1) := by decide +kernel
theorem dX11_undo_29 : decode cX11_undo 29 = .ok (.getfield 284, 3) := by decide +kernel
theorem dX11_undo_32 : decode cX11_undo 32 = .ok (.iconst 1, 1) := by decide +kernel
theorem dX11_undo_33 : decode cX11_undo 33 = .ok (.isub, 1) := by decide +kernel
theorem dX11_undo_34 : decode cX11_undo 34 = .ok (.putfield 284, 3) := by decide +kernel
theorem dX11_undo_37 : decode cX11_undo 37 = .ok (.aload_n 0, 1) := by decide +kernel
theorem dX11_undo_38 : decode cX11_undo 38 = .ok (.getfield 16, 3) := by decide +kernel
theorem dX11_undo_41 : decode cX11_undo 41 = .ok (.sipush 1399, 3) := by decide +kernel
theorem dX11_undo_44 : decode cX11_undo 44 = .ok (.aload_n 0, 1) := by decide +kernel
theorem dX11_undo_45 : decode cX11_undo 45 = .ok (.getfield 287, 3) := by decide +kernel
theorem dX11_undo_48 : decode cX11_undo 48 = .ok (.aload_n 0, 1) := by decide +kernel
theorem dX11_undo_49 : decode cX11_undo 49 = .ok (.getfield 284, 3) := by decide +kernel
theorem dX11_undo_52 : decode cX11_undo 52 = .ok (.iadd, 1) := by decide +kernel
theorem dX11_undo_53 : decode cX11_undo 53 = .ok (.bipush 8, 2) := by decide +kernel
theorem dX11_undo_55 : decode cX11_undo 55 = .ok (.irem, 1) := by decide +kernel
theorem dX11_undo_56 : decode cX11_undo 56 = .ok (.imul, 1) := by decide +kernel
theorem dX11_undo_57 : decode cX11_undo 57 = .ok (.aload_n 0, 1) := by decide +kernel
theorem dX11_undo_58 : decode cX11_undo 58 = .ok (.getfield 7, 3) := by decide +kernel
theorem dX11_undo_61 : decode cX11_undo 61 = .ok (.iconst 0, 1) := by decide +kernel
theorem dX11_undo_62 : decode cX11_undo 62 = .ok (.invokestatic 52, 3) := by decide +kernel
theorem dX11_undo_65 : decode cX11_undo 65 = .ok (.aload_n 0, 1) := by decide +kernel
theorem dX11_undo_66 : decode cX11_undo 66 = .ok (.getfield 284, 3) := by decide +kernel
theorem dX11_undo_69 : decode cX11_undo 69 = .ok (.ireturn, 1) := by decide +kernel
theorem dX11_undoDepth_0 : decode cX11_undoDepth 0 = .ok (.aload_n 0, 1) := by decide +kernel
theorem dX11_undoDepth_1 : decode cX11_undoDepth 1 = .ok (.iconst 0, 1) := by decide +kernel
theorem dX11_undoDepth_2 : decode cX11_undoDepth 2 = .ok (.putfield 66, 3) := by decide +kernel
theorem dX11_undoDepth_5 : decode cX11_undoDepth 5 = .ok (.aload_n 0, 1) := by decide +kernel
theorem dX11_undoDepth_6 : decode cX11_undoDepth 6 = .ok (.getfield 284, 3) := by decide +kernel
theorem dX11_undoDepth_9 : decode cX11_undoDepth 9 = .ok (.ireturn, 1) := by decide +kernel
theorem dX11_noNumber_0 : decode cX11_noNumber 0 = .ok (.aload_n 0, 1) := by decide +kernel
theorem dX11_noNumber_1 : decode cX11_noNumber 1 = .ok (.iconst 0, 1) := by decide +kernel
theorem dX11_noNumber_2 : decode cX11_noNumber 2 = .ok (.putfield 66, 3) := by decide +kernel
theorem dX11_noNumber_5 : decode cX11_noNumber 5 = .ok (.aload_n 0, 1) := by decide +kernel
theorem dX11_noNumber_6 : decode cX11_noNumber 6 = .ok (.iload_n 1, 1) := by decide +kernel
theorem dX11_noNumber_7 : decode cX11_noNumber 7 = .ok (.iload_n 2, 1) := by decide +kernel
theorem dX11_noNumber_8 : decode cX11_noNumber 8 = .ok (.iload_n 3, 1) := by decide +kernel
theorem dX11_noNumber_9 : decode cX11_noNumber 9 = .ok (.invokestatic 176, 3) := by decide +kernel
theorem dX11_noNumber_12 : decode cX11_noNumber 12 = .ok (.ifCond .ne 7, 3) := by decide +kernel
theorem dX11_noNumber_15 : decode cX11_noNumber 15 = .ok (.iconst 1, 1) := by decide +kernel
theorem dX11_noNumber_16 : decode cX11_noNumber 16 = .ok (.goto 4, 3) := by decide +kernel
theorem dX11_noNumber_19 : decode cX11_noNumber 19 = .ok (.iconst 0, 1) := by decide +kernel
theorem dX11_noNumber_20 : decode cX11_noNumber 20 = .ok (.iconst 1, 1) := by decide +kernel
theorem dX11_noNumber_21 : decode cX11_noNumber 21 = .ok (.invokevirtual 161, 3) := by decide +kernel
theorem dX11_noNumber_24 : decode cX11_noNumber 24 = .ok (.ireturn, 1) := by decide +kernel
theorem dX11_noDie_0 : decode cX11_noDie 0 = .ok (.aload_n 0, 1) := by decide +kernel
theorem dX11_noDie_1 : decode cX11_noDie 1 = .ok (.iload_n 1, 1) := by decide +kernel
theorem dX11_noDie_2 : decode cX11_noDie 2 = .ok (.iconst 0, 1) := by decide +kernel
theorem dX11_noDie_3 : decode cX11_noDie 3 = .ok (.aload_n 0, 1) := by decide +kernel
theorem dX11_noDie_4 : decode cX11_noDie 4 = .ok (.getfield 7, 3) := by decide +kernel
theorem dX11_noDie_7 : decode cX11_noDie 7 = .ok (.iconst 3, 1) := by decide +kernel
theorem dX11_noDie_8 : decode cX11_noDie 8 = .ok (.iaload, 1) := by decide +kernel
theorem dX11_noDie_9 : decode cX11_noDie 9 = .ok (.iconst 1, 1) := by decide +kernel
theorem dX11_noDie_10 : decode cX11_noDie 10 = .ok (.isub, 1) := by decide +kernel
theorem dX11_noDie_11 : decode cX11_noDie 11 = .ok (.invokevirtual 169, 3) := by decide +kernel
theorem dX11_noDie_14 : decode cX11_noDie 14 = .ok (.ireturn, 1) := by decide +kernel
theorem dX11_noPlayer_0 : decode cX11_noPlayer 0 = .ok (.aload_n 0, 1) := by decide +kernel
theorem dX11_noPlayer_1 : decode cX11_noPlayer 1 = .ok (.iload_n 1, 1) := by decide +kernel
theorem dX11_noPlayer_2 : decode cX11_noPlayer 2 = .ok (.iconst 0, 1) := by decide +kernel
theorem dX11_noPlayer_3 : decode cX11_noPlayer 3 = .ok (.aload_n 0, 1) := by decide +kernel
theorem dX11_noPlayer_4 : decode cX11_noPlayer 4 = .ok (.getfield 7, 3) := by decide +kernel
theorem dX11_noPlayer_7 : decode cX11_noPlayer 7 = .ok (.iconst 4, 1) := by decide +kernel
theorem dX11_noPlayer_8 : decode cX11_noPlayer 8 = .ok (.iaload, 1) := by decide +kernel
theorem dX11_noPlayer_9 : decode cX11_noPlayer 9 = .ok (.iconst 1, 1) := by decide +kernel
theorem dX11_noPlayer_10 : decode cX11_noPlayer 10 = .ok (.isub, 1) := by decide +kernel
theorem dX11_noPlayer_11 : decode cX11_noPlayer 11 = .ok (.invokevirtual 169, 3) := by decide +kernel
theorem dX11_noPlayer_14 : decode cX11_noPlayer 14 = .ok (.ireturn, 1) := by decide +kernel
theorem dX11_noPair_0 : decode cX11_noPair 0 = .ok (.aload_n 0, 1) := by decide +kernel
theorem dX11_noPair_1 : decode cX11_noPair 1 = .ok (.iload_n 1, 1) := by decide +kernel
theorem dX11_noPair_2 : decode cX11_noPair 2 = .ok (.invokevirtual 290, 3) := by decide +kernel
theorem dX11_noPair_5 : decode cX11_noPair 5 = .ok (.ifCond .ne 11, 3) := by decide +kernel
theorem dX11_noPair_8 : decode cX11_noPair 8 = .ok (.aload_n 0, 1) := by decide +kernel
theorem dX11_noPair_9 : decode cX11_noPair 9 = .ok (.iload_n 2, 1) := by decide +kernel
theorem dX11_noPair_10 : decode cX11_noPair 10 = .ok (.invokevirtual 293, 3) := by decide +kernel
theorem dX11_noPair_13 : decode cX11_noPair 13 = .ok (.ifCond .eq 7, 3) := by decide +kernel
theorem dX11_noPair_16 : decode cX11_noPair 16 = .ok (.iconst 1, 1) := by decide +kernel
theorem dX11_noPair_17 : decode cX11_noPair 17 = .ok (.goto 4, 3) := by decide +kernel
theorem dX11_noPair_20 : decode cX11_noPair 20 = .ok (.iconst 0, 1) := by decide +kernel
theorem dX11_noPair_21 : decode cX11_noPair 21 = .ok (.ireturn, 1) := by decide +kernel
theorem dX11_noThrow_0 : decode cX11_noThrow 0 = .ok (.aload_n 0, 1) := by decide +kernel
theorem dX11_noThrow_1 : decode cX11_noThrow 1 = .ok (.iload_n 1, 1) := by decide +kernel
theorem dX11_noThrow_2 : decode cX11_noThrow 2 = .ok (.iconst 0, 1) := by decide +kernel
theorem dX11_noThrow_3 : decode cX11_noThrow 3 = .ok (.aload_n 0, 1) := by decide +kernel
theorem dX11_noThrow_4 : decode cX11_noThrow 4 = .ok (.getfield 7, 3) := by decide +kernel
theorem dX11_noThrow_7 : decode cX11_noThrow 7 = .ok (.iconst 5, 1) := by decide +kernel
theorem dX11_noThrow_8 : decode cX11_noThrow 8 = .ok (.iaload, 1) := by decide +kernel
theorem dX11_noThrow_9 : decode cX11_noThrow 9 = .ok (.iconst 1, 1) := by decide +kernel
theorem dX11_noThrow_10 : decode cX11_noThrow 10 = .ok (.isub, 1) := by decide +kernel
theorem dX11_noThrow_11 : decode cX11_noThrow 11 = .ok (.invokevirtual 169, 3) := by decide +kernel
theorem dX11_noThrow_14 : decode cX11_noThrow 14 = .ok (.ireturn, 1) := by decide +kernel
theorem dX11_noOffence_0 : decode cX11_noOffence 0 = .ok (.aload_n 0, 1) := by decide +kernel
theorem dX11_noOffence_1 : decode cX11_noOffence 1 = .ok (.iload_n 1, 1) := by decide +kernel
theorem dX11_noOffence_2 : decode cX11_noOffence 2 = .ok (.iconst 0, 1) := by decide +kernel
theorem dX11_noOffence_3 : decode cX11_noOffence 3 = .ok (.aload_n 0, 1) := by decide +kernel
theorem dX11_noOffence_4 : decode cX11_noOffence 4 = .ok (.getfield 7, 3) := by decide +kernel
theorem dX11_noOffence_7 : decode cX11_noOffence 7 = .ok (.bipush 6, 2) := by decide +kernel
theorem dX11_noOffence_9 : decode cX11_noOffence 9 = .ok (.iaload, 1) := by decide +kernel
theorem dX11_noOffence_10 : decode cX11_noOffence 10 = .ok (.iconst 1, 1) := by decide +kernel
theorem dX11_noOffence_11 : decode cX11_noOffence 11 = .ok (.isub, 1) := by decide +kernel
theorem dX11_noOffence_12 : decode cX11_noOffence 12 = .ok (.invokevirtual 169, 3) := by decide +kernel
theorem dX11_noOffence_15 : decode cX11_noOffence 15 = .ok (.ireturn, 1) := by decide +kernel
theorem dX11_out_0 : decode cX11_out 0 = .ok (.aload_n 0, 1) := by decide +kernel
theorem dX11_out_1 : decode cX11_out 1 = .ok (.iload_n 1, 1) := by decide +kernel
theorem dX11_out_2 : decode cX11_out 2 = .ok (.iload_n 2, 1) := by decide +kernel
theorem dX11_out_3 : decode cX11_out 3 = .ok (.iload_n 3, 1) := by decide +kernel
theorem dX11_out_4 : decode cX11_out 4 = .ok (.invokestatic 176, 3) := by decide +kernel
theorem dX11_out_7 : decode cX11_out 7 = .ok (.ifCond .ne 7, 3) := by decide +kernel
theorem dX11_out_10 : decode cX11_out 10 = .ok (.iconst 1, 1) := by decide +kernel
theorem dX11_out_11 : decode cX11_out 11 = .ok (.goto 4, 3) := by decide +kernel
theorem dX11_out_14 : decode cX11_out 14 = .ok (.iconst 0, 1) := by decide +kernel
theorem dX11_out_15 : decode cX11_out 15 = .ok (.iconst 2, 1) := by decide +kernel
theorem dX11_out_16 : decode cX11_out 16 = .ok (.invokevirtual 161, 3) := by decide +kernel
theorem dX11_out_19 : decode cX11_out 19 = .ok (.ireturn, 1) := by decide +kernel
theorem dX11_seed_0 : decode cX11_seed 0 = .ok (.aload_n 0, 1) := by decide +kernel
theorem dX11_seed_1 : decode cX11_seed 1 = .ok (.iconst 0, 1) := by decide +kernel
theorem dX11_seed_2 : decode cX11_seed 2 = .ok (.putfield 66, 3) := by decide +kernel
theorem dX11_seed_5 : decode cX11_seed 5 = .ok (.aload_n 0, 1) := by decide +kernel
theorem dX11_seed_6 : decode cX11_seed 6 = .ok (.getfield 7, 3) := by decide +kernel
theorem dX11_seed_9 : decode cX11_seed 9 = .ok (.iconst 0, 1) := by decide +kernel
theorem dX11_seed_10 : decode cX11_seed 10 = .ok (.iaload, 1) := by decide +kernel
theorem dX11_seed_11 : decode cX11_seed 11 = .ok (.ireturn, 1) := by decide +kernel
theorem dX11_minimum_0 : decode cX11_minimum 0 = .ok (.aload_n 0, 1) := by decide +kernel
theorem dX11_minimum_1 : decode cX11_minimum 1 = .ok (.iconst 0, 1) := by decide +kernel
theorem dX11_minimum_2 : decode cX11_minimum 2 = .ok (.putfield 66, 3) := by decide +kernel
theorem dX11_minimum_5 : decode cX11_minimum 5 = .ok (.aload_n 0, 1) := by decide +kernel
theorem dX11_minimum_6 : decode cX11_minimum 6 = .ok (.getfield 7, 3) := by decide +kernel
theorem dX11_minimum_9 : decode cX11_minimum 9 = .ok (.iconst 1, 1) := by decide +kernel
theorem dX11_minimum_10 : decode cX11_minimum 10 = .ok (.iaload, 1) := by decide +kernel
theorem dX11_minimum_11 : decode cX11_minimum 11 = .ok (.ireturn, 1) := by decide +kernel
theorem dX11_threshold_0 : decode cX11_threshold 0 = .ok (.aload_n 0, 1) := by decide +kernel
theorem dX11_threshold_1 : decode cX11_threshold 1 = .ok (.iconst 0, 1) := by decide +kernel
theorem dX11_threshold_2 : decode cX11_threshold 2 = .ok (.putfield 66, 3) := by decide +kernel
theorem dX11_threshold_5 : decode cX11_threshold 5 = .ok (.aload_n 0, 1) := by decide +kernel
theorem dX11_threshold_6 : decode cX11_threshold 6 = .ok (.getfield 7, 3) := by decide +kernel
theorem dX11_threshold_9 : decode cX11_threshold 9 = .ok (.iconst 2, 1) := by decide +kernel
theorem dX11_threshold_10 : decode cX11_threshold 10 = .ok (.iaload, 1) := by decide +kernel
theorem dX11_threshold_11 : decode cX11_threshold 11 = .ok (.ireturn, 1) := by decide +kernel
theorem dX11_dieCount_0 : decode cX11_dieCount 0 = .ok (.aload_n 0, 1) := by decide +kernel
theorem dX11_dieCount_1 : decode cX11_dieCount 1 = .ok (.iconst 0, 1) := by decide +kernel
theorem dX11_dieCount_2 : decode cX11_dieCount 2 = .ok (.putfield 66, 3) := by decide +kernel
theorem dX11_dieCount_5 : decode cX11_dieCount 5 = .ok (.aload_n 0, 1) := by decide +kernel
theorem dX11_dieCount_6 : decode cX11_dieCount 6 = .ok (.getfield 7, 3) := by decide +kernel
theorem dX11_dieCount_9 : decode cX11_dieCount 9 = .ok (.iconst 3, 1) := by decide +kernel
theorem dX11_dieCount_10 : decode cX11_dieCount 10 = .ok (.iaload, 1) := by decide +kernel
theorem dX11_dieCount_11 : decode cX11_dieCount 11 = .ok (.ireturn, 1) := by decide +kernel
theorem dX11_playerCount_0 : decode cX11_playerCount 0 = .ok (.aload_n 0, 1) := by decide +kernel
theorem dX11_playerCount_1 : decode cX11_playerCount 1 = .ok (.iconst 0, 1) := by decide +kernel
theorem dX11_playerCount_2 : decode cX11_playerCount 2 = .ok (.putfield 66, 3) := by decide +kernel
theorem dX11_playerCount_5 : decode cX11_playerCount 5 = .ok (.aload_n 0, 1) := by decide +kernel
theorem dX11_playerCount_6 : decode cX11_playerCount 6 = .ok (.getfield 7, 3) := by decide +kernel
theorem dX11_playerCount_9 : decode cX11_playerCount 9 = .ok (.iconst 4, 1) := by decide +kernel
theorem dX11_playerCount_10 : decode cX11_playerCount 10 = .ok (.iaload, 1) := by decide +kernel
theorem dX11_playerCount_11 : decode cX11_playerCount 11 = .ok (.ireturn, 1) := by decide +kernel
theorem dX11_throwCount_0 : decode cX11_throwCount 0 = .ok (.aload_n 0, 1) := by decide +kernel
theorem dX11_throwCount_1 : decode cX11_throwCount 1 = .ok (.iconst 0, 1) := by decide +kernel
theorem dX11_throwCount_2 : decode cX11_throwCount 2 = .ok (.putfield 66, 3) := by decide +kernel
theorem dX11_throwCount_5 : decode cX11_throwCount 5 = .ok (.aload_n 0, 1) := by decide +kernel
theorem dX11_throwCount_6 : decode cX11_throwCount 6 = .ok (.getfield 7, 3) := by decide +kernel
theorem dX11_throwCount_9 : decode cX11_throwCount 9 = .ok (.iconst 5, 1) := by decide +kernel
theorem dX11_throwCount_10 : decode cX11_throwCount 10 = .ok (.iaload, 1) := by decide +kernel
theorem dX11_throwCount_11 : decode cX11_throwCount 11 = .ok (.ireturn, 1) := by decide +kernel
theorem dX11_faces_0 : decode cX11_faces 0 = .ok (.aload_n 0, 1) := by decide +kernel
theorem dX11_faces_1 : decode cX11_faces 1 = .ok (.iload_n 1, 1) := by decide +kernel
theorem dX11_faces_2 : decode cX11_faces 2 = .ok (.invokevirtual 293, 3) := by decide +kernel
theorem dX11_faces_5 : decode cX11_faces 5 = .ok (.ifCond .eq 7, 3) := by decide +kernel
theorem dX11_faces_8 : decode cX11_faces 8 = .ok (.iconst 0, 1) := by decide +kernel
theorem dX11_faces_9 : decode cX11_faces 9 = .ok (.goto 11, 3) := by decide +kernel
theorem dX11_faces_12 : decode cX11_faces 12 = .ok (.aload_n 0, 1) := by decide +kernel
theorem dX11_faces_13 : decode cX11_faces 13 = .ok (.getfield 7, 3) := by decide +kernel
theorem dX11_faces_16 : decode cX11_faces 16 = .ok (.iload_n 1, 1) := by decide +kernel
theorem dX11_faces_17 : decode cX11_faces 17 = .ok (.invokestatic 73, 3) := by decide +kernel
theorem dX11_faces_20 : decode cX11_faces 20 = .ok (.ireturn, 1) := by decide +kernel
theorem dX11_weightOf_0 : decode cX11_weightOf 0 = .ok (.aload_n 0, 1) := by decide +kernel
theorem dX11_weightOf_1 : decode cX11_weightOf 1 = .ok (.iload_n 1, 1) := by decide +kernel
theorem dX11_weightOf_2 : decode cX11_weightOf 2 = .ok (.invokevirtual 293, 3) := by decide +kernel
theorem dX11_weightOf_5 : decode cX11_weightOf 5 = .ok (.ifCond .ne 20, 3) := by decide +kernel
theorem dX11_weightOf_8 : decode cX11_weightOf 8 = .ok (.aload_n 0, 1) := by decide +kernel
theorem dX11_weightOf_9 : decode cX11_weightOf 9 = .ok (.iload_n 2, 1) := by decide +kernel
theorem dX11_weightOf_10 : decode cX11_weightOf 10 = .ok (.iconst 1, 1) := by decide +kernel
theorem dX11_weightOf_11 : decode cX11_weightOf 11 = .ok (.aload_n 0, 1) := by decide +kernel
theorem dX11_weightOf_12 : decode cX11_weightOf 12 = .ok (.getfield 7, 3) := by decide +kernel
theorem dX11_weightOf_15 : decode cX11_weightOf 15 = .ok (.iload_n 1, 1) := by decide +kernel
theorem dX11_weightOf_16 : decode cX11_weightOf 16 = .ok (.invokestatic 73, 3) := by decide +kernel
theorem dX11_weightOf_19 : decode cX11_weightOf 19 = .ok (.invokevirtual 296, 3) := by decide +kernel
theorem dX11_weightOf_22 : decode cX11_weightOf 22 = .ok (.ifCond .eq 7, 3) := by decide +kernel
theorem dX11_weightOf_25 : decode cX11_weightOf 25 = .ok (.iconst 0, 1) := by decide +kernel
theorem dX11_weightOf_26 : decode cX11_weightOf 26 = .ok (.goto 12, 3) := by decide +kernel
theorem dX11_weightOf_29 : decode cX11_weightOf 29 = .ok (.aload_n 0, 1) := by decide +kernel
theorem dX11_weightOf_30 : decode cX11_weightOf 30 = .ok (.getfield 7, 3) := by decide +kernel
theorem dX11_weightOf_33 : decode cX11_weightOf 33 = .ok (.iload_n 1, 1) := by decide +kernel
theorem dX11_weightOf_34 : decode cX11_weightOf 34 = .ok (.iload_n 2, 1) := by decide +kernel
theorem dX11_weightOf_35 : decode cX11_weightOf 35 = .ok (.invokestatic 77, 3) := by decide +kernel
theorem dX11_weightOf_38 : decode cX11_weightOf 38 = .ok (.ireturn, 1) := by decide +kernel
theorem dX11_isBalanced_0 : decode cX11_isBalanced 0 = .ok (.aload_n 0, 1) := by decide +kernel
theorem dX11_isBalanced_1 : decode cX11_isBalanced 1 = .ok (.iload_n 1, 1) := by decide +kernel
theorem dX11_isBalanced_2 : decode cX11_isBalanced 2 = .ok (.invokevirtual 293, 3) := by decide +kernel
theorem dX11_isBalanced_5 : decode cX11_isBalanced 5 = .ok (.ifCond .eq 5, 3) := by decide +kernel
theorem dX11_isBalanced_8 : decode cX11_isBalanced 8 = .ok (.iconst 0, 1) := by decide +kernel
theorem dX11_isBalanced_9 : decode cX11_isBalanced 9 = .ok (.ireturn, 1) := by decide +kernel
theorem dX11_isBalanced_10 : decode cX11_isBalanced 10 = .ok (.iconst 2, 1) := by decide +kernel
theorem dX11_isBalanced_11 : decode cX11_isBalanced 11 = .ok (.istore_n 2, 1) := by decide +kernel
theorem dX11_isBalanced_12 : decode cX11_isBalanced 12 = .ok (.iload_n 2, 1) := by decide +kernel
theorem dX11_isBalanced_13 : decode cX11_isBalanced 13 = .ok (.aload_n 0, 1) := by decide +kernel
theorem dX11_isBalanced_14 : decode cX11_isBalanced 14 = .ok (.getfield 7, 3) := by decide +kernel
theorem dX11_isBalanced_17 : decode cX11_isBalanced 17 = .ok (.iload_n 1, 1) := by decide +kernel
theorem dX11_isBalanced_18 : decode cX11_isBalanced 18 = .ok (.invokestatic 73, 3) := by decide +kernel
theorem dX11_isBalanced_21 : decode cX11_isBalanced 21 = .ok (.if_icmp .gt 32, 3) := by decide +kernel
theorem dX11_isBalanced_24 : decode cX11_isBalanced 24 = .ok (.aload_n 0, 1) := by decide +kernel
theorem dX11_isBalanced_25 : decode cX11_isBalanced 25 = .ok (.getfield 7, 3) := by decide +kernel
theorem dX11_isBalanced_28 : decode cX11_isBalanced 28 = .ok (.iload_n 1, 1) := by decide +kernel
theorem dX11_isBalanced_29 : decode cX11_isBalanced 29 = .ok (.iload_n 2, 1) := by decide +kernel
theorem dX11_isBalanced_30 : decode cX11_isBalanced 30 = .ok (.invokestatic 77, 3) := by decide +kernel
theorem dX11_isBalanced_33 : decode cX11_isBalanced 33 = .ok (.aload_n 0, 1) := by decide +kernel
theorem dX11_isBalanced_34 : decode cX11_isBalanced 34 = .ok (.getfield 7, 3) := by decide +kernel
theorem dX11_isBalanced_37 : decode cX11_isBalanced 37 = .ok (.iload_n 1, 1) := by decide +kernel
theorem dX11_isBalanced_38 : decode cX11_isBalanced 38 = .ok (.iconst 1, 1) := by decide +kernel
theorem dX11_isBalanced_39 : decode cX11_isBalanced 39 = .ok (.invokestatic 77, 3) := by decide +kernel
theorem dX11_isBalanced_42 : decode cX11_isBalanced 42 = .ok (.if_icmp .eq 5, 3) := by decide +kernel
theorem dX11_isBalanced_45 : decode cX11_isBalanced 45 = .ok (.iconst 0, 1) := by decide +kernel
theorem dX11_isBalanced_46 : decode cX11_isBalanced 46 = .ok (.ireturn, 1) := by decide +kernel
theorem dX11_isBalanced_47 : decode cX11_isBalanced 47 = .ok (.iinc 2 1, 3) := by decide +kernel
theorem dX11_isBalanced_50 : decode cX11_isBalanced 50 = .ok (.goto (-38), 3) := by decide +kernel
theorem dX11_isBalanced_53 : decode cX11_isBalanced 53 = .ok (.iconst 1, 1) := by decide +kernel
theorem dX11_isBalanced_54 : decode cX11_isBalanced 54 = .ok (.ireturn, 1) := by decide +kernel
theorem dX11_heaviestFace_0 : decode cX11_heaviestFace 0 = .ok (.aload_n 0, 1) := by decide +kernel
theorem dX11_heaviestFace_1 : decode cX11_heaviestFace 1 = .ok (.iload_n 1, 1) := by decide +kernel
theorem dX11_heaviestFace_2 : decode cX11_heaviestFace 2 = .ok (.invokevirtual 293, 3) := by decide +kernel
theorem dX11_heaviestFace_5 : decode cX11_heaviestFace 5 = .ok (.ifCond .eq 5, 3) := by decide +kernel
theorem dX11_heaviestFace_8 : decode cX11_heaviestFace 8 = .ok (.iconst 0, 1) := by decide +kernel
theorem dX11_heaviestFace_9 : decode cX11_heaviestFace 9 = .ok (.ireturn, 1) := by decide +kernel
theorem dX11_heaviestFace_10 : decode cX11_heaviestFace 10 = .ok (.iconst 1, 1) := by decide +kernel
theorem dX11_heaviestFace_11 : decode cX11_heaviestFace 11 = .ok (.istore_n 2, 1) := by decide +kernel
theorem dX11_heaviestFace_12 : decode cX11_heaviestFace 12 = .ok (.iconst 2, 1) := by decide +kernel
theorem dX11_heaviestFace_13 : decode cX11_heaviestFace 13 = .ok (.istore_n 3, 1) := by decide +kernel
theorem dX11_heaviestFace_14 : decode cX11_heaviestFace 14 = .ok (.iload_n 3, 1) := by decide +kernel
theorem dX11_heaviestFace_15 : decode cX11_heaviestFace 15 = .ok (.aload_n 0, 1) := by decide +kernel
theorem dX11_heaviestFace_16 : decode cX11_heaviestFace 16 = .ok (.getfield 7, 3) := by decide +kernel
theorem dX11_heaviestFace_19 : decode cX11_heaviestFace 19 = .ok (.iload_n 1, 1) := by decide +kernel
theorem dX11_heaviestFace_20 : decode cX11_heaviestFace 20 = .ok (.invokestatic 73, 3) := by decide +kernel
theorem dX11_heaviestFace_23 : decode cX11_heaviestFace 23 = .ok (.if_icmp .gt 36, 3) := by decide +kernel
theorem dX11_heaviestFace_26 : decode cX11_heaviestFace 26 = .ok (.aload_n 0, 1) := by decide +kernel
theorem dX11_heaviestFace_27 : decode cX11_heaviestFace 27 = .ok (.getfield 7, 3) := by decide +kernel
theorem dX11_heaviestFace_30 : decode cX11_heaviestFace 30 = .ok (.iload_n 1, 1) := by decide +kernel
theorem dX11_heaviestFace_31 : decode cX11_heaviestFace 31 = .ok (.iload_n 3, 1) := by decide +kernel
theorem dX11_heaviestFace_32 : decode cX11_heaviestFace 32 = .ok (.invokestatic 77, 3) := by decide +kernel
theorem dX11_heaviestFace_35 : decode cX11_heaviestFace 35 = .ok (.aload_n 0, 1) := by decide +kernel
theorem dX11_heaviestFace_36 : decode cX11_heaviestFace 36 = .ok (.getfield 7, 3) := by decide +kernel
theorem dX11_heaviestFace_39 : decode cX11_heaviestFace 39 = .ok (.iload_n 1, 1) := by decide +kernel
theorem dX11_heaviestFace_40 : decode cX11_heaviestFace 40 = .ok (.iload_n 2, 1) := by decide +kernel
theorem dX11_heaviestFace_41 : decode cX11_heaviestFace 41 = .ok (.invokestatic 77, 3) := by decide +kernel
theorem dX11_heaviestFace_44 : decode cX11_heaviestFace 44 = .ok (.if_icmp .le 7, 3) := by decide +kernel
theorem dX11_heaviestFace_47 : decode cX11_heaviestFace 47 = .ok (.iload_n 3, 1) := by decide +kernel
theorem dX11_heaviestFace_48 : decode cX11_heaviestFace 48 = .ok (.goto 4, 3) := by decide +kernel
theorem dX11_heaviestFace_51 : decode cX11_heaviestFace 51 = .ok (.iload_n 2, 1) := by decide +kernel
theorem dX11_heaviestFace_52 : decode cX11_heaviestFace 52 = .ok (.istore_n 2, 1) := by decide +kernel
theorem dX11_heaviestFace_53 : decode cX11_heaviestFace 53 = .ok (.iinc 3 1, 3) := by decide +kernel
theorem dX11_heaviestFace_56 : decode cX11_heaviestFace 56 = .ok (.goto (-42), 3) := by decide +kernel
theorem dX11_heaviestFace_59 : decode cX11_heaviestFace 59 = .ok (.iload_n 2, 1) := by decide +kernel
theorem dX11_heaviestFace_60 : decode cX11_heaviestFace 60 = .ok (.ireturn, 1) := by decide +kernel
theorem dX11_letterOf_0 : decode cX11_letterOf 0 = .ok (.iload_n 0, 1) := by decide +kernel
theorem dX11_letterOf_1 : decode cX11_letterOf 1 = .ok (.istore_n 2, 1) := by decide +kernel
theorem dX11_letterOf_2 : decode cX11_letterOf 2 = .ok (.iconst 3, 1) := by decide +kernel
theorem dX11_letterOf_3 : decode cX11_letterOf 3 = .ok (.istore_n 3, 1) := by decide +kernel
theorem dX11_letterOf_4 : decode cX11_letterOf 4 = .ok (.iload_n 3, 1) := by decide +kernel
theorem dX11_letterOf_5 : decode cX11_letterOf 5 = .ok (.iload_n 1, 1) := by decide +kernel
theorem dX11_letterOf_6 : decode cX11_letterOf 6 = .ok (.if_icmp .le 14, 3) := by decide +kernel
theorem dX11_letterOf_9 : decode cX11_letterOf 9 = .ok (.iload_n 2, 1) := by decide +kernel
theorem dX11_letterOf_10 : decode cX11_letterOf 10 = .ok (.bipush 27, 2) := by decide +kernel
theorem dX11_letterOf_12 : decode cX11_letterOf 12 = .ok (.idiv, 1) := by decide +kernel
theorem dX11_letterOf_13 : decode cX11_letterOf 13 = .ok (.istore_n 2, 1) := by decide +kernel
theorem dX11_letterOf_14 : decode cX11_letterOf 14 = .ok (.iinc 3 (-1), 3) := by decide +kernel
theorem dX11_letterOf_17 : decode cX11_letterOf 17 = .ok (.goto (-13), 3) := by decide +kernel
theorem dX11_letterOf_20 : decode cX11_letterOf 20 = .ok (.iload_n 2, 1) := by decide +kernel
theorem dX11_letterOf_21 : decode cX11_letterOf 21 = .ok (.bipush 27, 2) := by decide +kernel
theorem dX11_letterOf_23 : decode cX11_letterOf 23 = .ok (.irem, 1) := by decide +kernel
theorem dX11_letterOf_24 : decode cX11_letterOf 24 = .ok (.ireturn, 1) := by decide +kernel
theorem dX11_lettersOf_0 : decode cX11_lettersOf 0 = .ok (.iconst 0, 1) := by decide +kernel
theorem dX11_lettersOf_1 : decode cX11_lettersOf 1 = .ok (.istore_n 1, 1) := by decide +kernel
theorem dX11_lettersOf_2 : decode cX11_lettersOf 2 = .ok (.iload_n 1, 1) := by decide +kernel
theorem dX11_lettersOf_3 : decode cX11_lettersOf 3 = .ok (.iconst 4, 1) := by decide +kernel
theorem dX11_lettersOf_4 : decode cX11_lettersOf 4 = .ok (.if_icmp .ge 17, 3) := by decide +kernel
theorem dX11_lettersOf_7 : decode cX11_lettersOf 7 = .ok (.iload_n 0, 1) := by decide +kernel
theorem dX11_lettersOf_8 : decode cX11_lettersOf 8 = .ok (.iload_n 1, 1) := by decide +kernel
theorem dX11_lettersOf_9 : decode cX11_lettersOf 9 = .ok (.invokestatic 299, 3) := by decide +kernel
theorem dX11_lettersOf_12 : decode cX11_lettersOf 12 = .ok (.ifCond .le 9, 3) := by decide +kernel
theorem dX11_lettersOf_15 : decode cX11_lettersOf 15 = .ok (.iinc 1 1, 3) := by decide +kernel
theorem dX11_lettersOf_18 : decode cX11_lettersOf 18 = .ok (.goto (-16), 3) := by decide +kernel
theorem dX11_lettersOf_21 : decode cX11_lettersOf 21 = .ok (.iload_n 1, 1) := by decide +kernel
theorem dX11_lettersOf_22 : decode cX11_lettersOf 22 = .ok (.ireturn, 1) := by decide +kernel
theorem dX11_nameByte_0 : decode cX11_nameByte 0 = .ok (.aload_n 0, 1) := by decide +kernel
theorem dX11_nameByte_1 : decode cX11_nameByte 1 = .ok (.iload_n 1, 1) := by decide +kernel
theorem dX11_nameByte_2 : decode cX11_nameByte 2 = .ok (.invokevirtual 290, 3) := by decide +kernel
theorem dX11_nameByte_5 : decode cX11_nameByte 5 = .ok (.ifCond .ne 26, 3) := by decide +kernel
theorem dX11_nameByte_8 : decode cX11_nameByte 8 = .ok (.aload_n 0, 1) := by decide +kernel
theorem dX11_nameByte_9 : decode cX11_nameByte 9 = .ok (.iload_n 2, 1) := by decide +kernel
theorem dX11_nameByte_10 : decode cX11_nameByte 10 = .ok (.iconst 0, 1) := by decide +kernel
theorem dX11_nameByte_11 : decode cX11_nameByte 11 = .ok (.aload_n 0, 1) := by decide +kernel
theorem dX11_nameByte_12 : decode cX11_nameByte 12 = .ok (.getfield 7, 3) := by decide +kernel
theorem dX11_nameByte_15 : decode cX11_nameByte 15 = .ok (.bipush 85, 2) := by decide +kernel
theorem dX11_nameByte_17 : decode cX11_nameByte 17 = .ok (.iload_n 1, 1) := by decide +kernel
theorem dX11_nameByte_18 : decode cX11_nameByte 18 = .ok (.iadd, 1) := by decide +kernel
theorem dX11_nameByte_19 : decode cX11_nameByte 19 = .ok (.iaload, 1) := by decide +kernel
theorem dX11_nameByte_20 : decode cX11_nameByte 20 = .ok (.invokestatic 302, 3) := by decide +kernel
theorem dX11_nameByte_23 : decode cX11_nameByte 23 = .ok (.iconst 1, 1) := by decide +kernel
theorem dX11_nameByte_24 : decode cX11_nameByte 24 = .ok (.isub, 1) := by decide +kernel
theorem dX11_nameByte_25 : decode cX11_nameByte 25 = .ok (.invokevirtual 296, 3) := by decide +kernel
theorem dX11_nameByte_28 : decode cX11_nameByte 28 = .ok (.ifCond .eq 7, 3) := by decide +kernel
theorem dX11_nameByte_31 : decode cX11_nameByte 31 = .ok (.iconst 0, 1) := by decide +kernel
theorem dX11_nameByte_32 : decode cX11_nameByte 32 = .ok (.goto 19, 3) := by decide +kernel
theorem dX11_nameByte_35 : decode cX11_nameByte 35 = .ok (.bipush 96, 2) := by decide +kernel
theorem dX11_nameByte_37 : decode cX11_nameByte 37 = .ok (.aload_n 0, 1) := by decide +kernel
theorem dX11_nameByte_38 : decode cX11_nameByte 38 = .ok (.getfield 7, 3) := by decide +kernel
theorem dX11_nameByte_41 : decode cX11_nameByte 41 = .ok (.bipush 85, 2) := by decide +kernel
theorem dX11_nameByte_43 : decode cX11_nameByte 43 = .ok (.iload_n 1, 1) := by decide +kernel
theorem dX11_nameByte_44 : decode cX11_nameByte 44 = .ok (.iadd, 1) := by decide +kernel
theorem dX11_nameByte_45 : decode cX11_nameByte 45 = .ok (.iaload, 1) := by decide +kernel
theorem dX11_nameByte_46 : decode cX11_nameByte 46 = .ok (.iload_n 2, 1) := by decide +kernel
theorem dX11_nameByte_47 : decode cX11_nameByte 47 = .ok (.invokestatic 299, 3) := by decide +kernel
theorem dX11_nameByte_50 : decode cX11_nameByte 50 = .ok (.iadd, 1) := by decide +kernel
theorem dX11_nameByte_51 : decode cX11_nameByte 51 = .ok (.ireturn, 1) := by decide +kernel
theorem dX11_ofIt_0 : decode cX11_ofIt 0 = .ok (.aload_n 0, 1) := by decide +kernel
theorem dX11_ofIt_1 : decode cX11_ofIt 1 = .ok (.iload_n 1, 1) := by decide +kernel
theorem dX11_ofIt_2 : decode cX11_ofIt 2 = .ok (.invokevirtual 305, 3) := by decide +kernel
theorem dX11_ofIt_5 : decode cX11_ofIt 5 = .ok (.ifCond .eq 7, 3) := by decide +kernel
theorem dX11_ofIt_8 : decode cX11_ofIt 8 = .ok (.iconst 0, 1) := by decide +kernel
theorem dX11_ofIt_9 : decode cX11_ofIt 9 = .ok (.goto 14, 3) := by decide +kernel
theorem dX11_ofIt_12 : decode cX11_ofIt 12 = .ok (.aload_n 0, 1) := by decide +kernel
theorem dX11_ofIt_13 : decode cX11_ofIt 13 = .ok (.getfield 7, 3) := by decide +kernel
theorem dX11_ofIt_16 : decode cX11_ofIt 16 = .ok (.iload_n 1, 1) := by decide +kernel
theorem dX11_ofIt_17 : decode cX11_ofIt 17 = .ok (.invokestatic 85, 3) := by decide +kernel
theorem dX11_ofIt_20 : decode cX11_ofIt 20 = .ok (.iload_n 2, 1) := by decide +kernel
theorem dX11_ofIt_21 : decode cX11_ofIt 21 = .ok (.iadd, 1) := by decide +kernel
theorem dX11_ofIt_22 : decode cX11_ofIt 22 = .ok (.iaload, 1) := by decide +kernel
theorem dX11_ofIt_23 : decode cX11_ofIt 23 = .ok (.ireturn, 1) := by decide +kernel
theorem dX11_playerAt_0 : decode cX11_playerAt 0 = .ok (.aload_n 0, 1) := by decide +kernel
theorem dX11_playerAt_1 : decode cX11_playerAt 1 = .ok (.iload_n 1, 1) := by decide +kernel
theorem dX11_playerAt_2 : decode cX11_playerAt 2 = .ok (.iconst 0, 1) := by decide +kernel
theorem dX11_playerAt_3 : decode cX11_playerAt 3 = .ok (.invokevirtual 308, 3) := by decide +kernel
theorem dX11_playerAt_6 : decode cX11_playerAt 6 = .ok (.ireturn, 1) := by decide +kernel
theorem dX11_dieAt_0 : decode cX11_dieAt 0 = .ok (.aload_n 0, 1) := by decide +kernel
theorem dX11_dieAt_1 : decode cX11_dieAt 1 = .ok (.iload_n 1, 1) := by decide +kernel
theorem dX11_dieAt_2 : decode cX11_dieAt 2 = .ok (.iconst 1, 1) := by decide +kernel
theorem dX11_dieAt_3 : decode cX11_dieAt 3 = .ok (.invokevirtual 308, 3) := by decide +kernel
theorem dX11_dieAt_6 : decode cX11_dieAt 6 = .ok (.ireturn, 1) := by decide +kernel
theorem dX11_faceAt_0 : decode cX11_faceAt 0 = .ok (.aload_n 0, 1) := by decide +kernel
theorem dX11_faceAt_1 : decode cX11_faceAt 1 = .ok (.iload_n 1, 1) := by decide +kernel
theorem dX11_faceAt_2 : decode cX11_faceAt 2 = .ok (.iconst 2, 1) := by decide +kernel
theorem dX11_faceAt_3 : decode cX11_faceAt 3 = .ok (.invokevirtual 308, 3) := by decide +kernel
theorem dX11_faceAt_6 : decode cX11_faceAt 6 = .ok (.ireturn, 1) := by decide +kernel
theorem dX11_isFairAt_0 : decode cX11_isFairAt 0 = .ok (.aload_n 0, 1) := by decide +kernel
theorem dX11_isFairAt_1 : decode cX11_isFairAt 1 = .ok (.iload_n 1, 1) := by decide +kernel
theorem dX11_isFairAt_2 : decode cX11_isFairAt 2 = .ok (.iconst 3, 1) := by decide +kernel
theorem dX11_isFairAt_3 : decode cX11_isFairAt 3 = .ok (.invokevirtual 308, 3) := by decide +kernel
theorem dX11_isFairAt_6 : decode cX11_isFairAt 6 = .ok (.iconst 1, 1) := by decide +kernel
theorem dX11_isFairAt_7 : decode cX11_isFairAt 7 = .ok (.if_icmp .ne 7, 3) := by decide +kernel
theorem dX11_isFairAt_10 : decode cX11_isFairAt 10 = .ok (.iconst 1, 1) := by decide +kernel
theorem dX11_isFairAt_11 : decode cX11_isFairAt 11 = .ok (.goto 4, 3) := by decide +kernel
theorem dX11_isFairAt_14 : decode cX11_isFairAt 14 = .ok (.iconst 0, 1) := by decide +kernel
theorem dX11_isFairAt_15 : decode cX11_isFairAt 15 = .ok (.ireturn, 1) := by decide +kernel
theorem dX11_throwsOf_0 : decode cX11_throwsOf 0 = .ok (.aload_n 0, 1) := by decide +kernel
theorem dX11_throwsOf_1 : decode cX11_throwsOf 1 = .ok (.iload_n 1, 1) := by decide +kernel
theorem dX11_throwsOf_2 : decode cX11_throwsOf 2 = .ok (.invokevirtual 290, 3) := by decide +kernel
theorem dX11_throwsOf_5 : decode cX11_throwsOf 5 = .ok (.ifCond .eq 7, 3) := by decide +kernel
theorem dX11_throwsOf_8 : decode cX11_throwsOf 8 = .ok (.iconst 0, 1) := by decide +kernel
theorem dX11_throwsOf_9 : decode cX11_throwsOf 9 = .ok (.goto 11, 3) := by decide +kernel
theorem dX11_throwsOf_12 : decode cX11_throwsOf 12 = .ok (.aload_n 0, 1) := by decide +kernel
theorem dX11_throwsOf_13 : decode cX11_throwsOf 13 = .ok (.getfield 7, 3) := by decide +kernel
theorem dX11_throwsOf_16 : decode cX11_throwsOf 16 = .ok (.iload_n 1, 1) := by decide +kernel
theorem dX11_throwsOf_17 : decode cX11_throwsOf 17 = .ok (.invokestatic 311, 3) := by decide +kernel
theorem dX11_throwsOf_20 : decode cX11_throwsOf 20 = .ok (.ireturn, 1) := by decide +kernel
theorem dX11_total_0 : decode cX11_total 0 = .ok (.aload_n 0, 1) := by decide +kernel
theorem dX11_total_1 : decode cX11_total 1 = .ok (.iload_n 1, 1) := by decide +kernel
theorem dX11_total_2 : decode cX11_total 2 = .ok (.invokevirtual 290, 3) := by decide +kernel
theorem dX11_total_5 : decode cX11_total 5 = .ok (.ifCond .eq 7, 3) := by decide +kernel
theorem dX11_total_8 : decode cX11_total 8 = .ok (.iconst 0, 1) := by decide +kernel
theorem dX11_total_9 : decode cX11_total 9 = .ok (.goto 11, 3) := by decide +kernel
theorem dX11_total_12 : decode cX11_total 12 = .ok (.aload_n 0, 1) := by decide +kernel
theorem dX11_total_13 : decode cX11_total 13 = .ok (.getfield 7, 3) := by decide +kernel
theorem dX11_total_16 : decode cX11_total 16 = .ok (.iload_n 1, 1) := by decide +kernel
theorem dX11_total_17 : decode cX11_total 17 = .ok (.invokestatic 158, 3) := by decide +kernel
theorem dX11_total_20 : decode cX11_total 20 = .ok (.ireturn, 1) := by decide +kernel
theorem dX11_meanFace_0 : decode cX11_meanFace 0 = .ok (.aload_n 0, 1) := by decide +kernel
theorem dX11_meanFace_1 : decode cX11_meanFace 1 = .ok (.iload_n 1, 1) := by decide +kernel
theorem dX11_meanFace_2 : decode cX11_meanFace 2 = .ok (.invokevirtual 290, 3) := by decide +kernel
theorem dX11_meanFace_5 : decode cX11_meanFace 5 = .ok (.ifCond .eq 5, 3) := by decide +kernel
theorem dX11_meanFace_8 : decode cX11_meanFace 8 = .ok (.dconst 0, 1) := by decide +kernel
theorem dX11_meanFace_9 : decode cX11_meanFace 9 = .ok (.dreturn, 1) := by decide +kernel
theorem dX11_meanFace_10 : decode cX11_meanFace 10 = .ok (.aload_n 0, 1) := by decide +kernel
theorem dX11_meanFace_11 : decode cX11_meanFace 11 = .ok (.getfield 7, 3) := by decide +kernel
theorem dX11_meanFace_14 : decode cX11_meanFace 14 = .ok (.iload_n 1, 1) := by decide +kernel
theorem dX11_meanFace_15 : decode cX11_meanFace 15 = .ok (.invokestatic 311, 3) := by decide +kernel
theorem dX11_meanFace_18 : decode cX11_meanFace 18 = .ok (.istore_n 2, 1) := by decide +kernel
theorem dX11_meanFace_19 : decode cX11_meanFace 19 = .ok (.iload_n 2, 1) := by decide +kernel
theorem dX11_meanFace_20 : decode cX11_meanFace 20 = .ok (.ifCond .ne 7, 3) := by decide +kernel
theorem dX11_meanFace_23 : decode cX11_meanFace 23 = .ok (.dconst 0, 1) := by decide +kernel
theorem dX11_meanFace_24 : decode cX11_meanFace 24 = .ok (.goto 15, 3) := by decide +kernel
theorem dX11_meanFace_27 : decode cX11_meanFace 27 = .ok (.aload_n 0, 1) := by decide +kernel
theorem dX11_meanFace_28 : decode cX11_meanFace 28 = .ok (.getfield 7, 3) := by decide +kernel
theorem dX11_meanFace_31 : decode cX11_meanFace 31 = .ok (.iload_n 1, 1) := by decide +kernel
theorem dX11_meanFace_32 : decode cX11_meanFace 32 = .ok (.invokestatic 158, 3) := by decide +kernel
theorem dX11_meanFace_35 : decode cX11_meanFace 35 = .ok (.i2d, 1) := by decide +kernel
theorem dX11_meanFace_36 : decode cX11_meanFace 36 = .ok (.iload_n 2, 1) := by decide +kernel
theorem dX11_meanFace_37 : decode cX11_meanFace 37 = .ok (.i2d, 1) := by decide +kernel
theorem dX11_meanFace_38 : decode cX11_meanFace 38 = .ok (.ddiv, 1) := by decide +kernel
theorem dX11_meanFace_39 : decode cX11_meanFace 39 = .ok (.dreturn, 1) := by decide +kernel
theorem dX11_rankOf_0 : decode cX11_rankOf 0 = .ok (.aload_n 0, 1) := by decide +kernel
theorem dX11_rankOf_1 : decode cX11_rankOf 1 = .ok (.iload_n 1, 1) := by decide +kernel
theorem dX11_rankOf_2 : decode cX11_rankOf 2 = .ok (.invokevirtual 290, 3) := by decide +kernel
theorem dX11_rankOf_5 : decode cX11_rankOf 5 = .ok (.ifCond .eq 7, 3) := by decide +kernel
theorem dX11_rankOf_8 : decode cX11_rankOf 8 = .ok (.iconst 0, 1) := by decide +kernel
theorem dX11_rankOf_9 : decode cX11_rankOf 9 = .ok (.goto 11, 3) := by decide +kernel
theorem dX11_rankOf_12 : decode cX11_rankOf 12 = .ok (.aload_n 0, 1) := by decide +kernel
theorem dX11_rankOf_13 : decode cX11_rankOf 13 = .ok (.getfield 7, 3) := by decide +kernel
theorem dX11_rankOf_16 : decode cX11_rankOf 16 = .ok (.iload_n 1, 1) := by decide +kernel
theorem dX11_rankOf_17 : decode cX11_rankOf 17 = .ok (.invokestatic 314, 3) := by decide +kernel
theorem dX11_rankOf_20 : decode cX11_rankOf 20 = .ok (.ireturn, 1) := by decide +kernel
theorem dX11_playerWithRank_0 : decode cX11_playerWithRank 0 = .ok (.aload_n 0, 1) := by decide +kernel
theorem dX11_playerWithRank_1 : decode cX11_playerWithRank 1 = .ok (.iload_n 1, 1) := by decide +kernel
theorem dX11_playerWithRank_2 : decode cX11_playerWithRank 2 = .ok (.iconst 0, 1) := by decide +kernel
theorem dX11_playerWithRank_3 : decode cX11_playerWithRank 3 = .ok (.aload_n 0, 1) := by decide +kernel
theorem dX11_playerWithRank_4 : decode cX11_playerWithRank 4 = .ok (.getfield 7, 3) := by decide +kernel
theorem dX11_playerWithRank_7 : decode cX11_playerWithRank 7 = .ok (.iconst 4, 1) := by decide +kernel
theorem dX11_playerWithRank_8 : decode cX11_playerWithRank 8 = .ok (.iaload, 1) := by decide +kernel
theorem dX11_playerWithRank_9 : decode cX11_playerWithRank 9 = .ok (.iconst 1, 1) := by decide +kernel
theorem dX11_playerWithRank_10 : decode cX11_playerWithRank 10 = .ok (.isub, 1) := by decide +kernel
theorem dX11_playerWithRank_11 : decode cX11_playerWithRank 11 = .ok (.invokevirtual 169, 3) := by decide +kernel
theorem dX11_playerWithRank_14 : decode cX11_playerWithRank 14 = .ok (.ifCond .eq 5, 3) := by decide +kernel
theorem dX11_playerWithRank_17 : decode cX11_playerWithRank 17 = .ok (.iconst 0, 1) := by decide +kernel
theorem dX11_playerWithRank_18 : decode cX11_playerWithRank 18 = .ok (.ireturn, 1) := by decide +kernel
theorem dX11_playerWithRank_19 : decode cX11_playerWithRank 19 = .ok (.iconst 0, 1) := by decide +kernel
theorem dX11_playerWithRank_20 : decode cX11_playerWithRank 20 = .ok (.istore_n 2, 1) := by decide +kernel
theorem dX11_playerWithRank_21 : decode cX11_playerWithRank 21 = .ok (.aload_n 0, 1) := by decide +kernel
theorem dX11_playerWithRank_22 : decode cX11_playerWithRank 22 = .ok (.getfield 7, 3) := by decide +kernel
theorem dX11_playerWithRank_25 : decode cX11_playerWithRank 25 = .ok (.iload_n 2, 1) := by decide +kernel
theorem dX11_playerWithRank_26 : decode cX11_playerWithRank 26 = .ok (.invokestatic 314, 3) := by decide +kernel
theorem dX11_playerWithRank_29 : decode cX11_playerWithRank 29 = .ok (.iload_n 1, 1) := by decide +kernel
theorem dX11_playerWithRank_30 : decode cX11_playerWithRank 30 = .ok (.if_icmp .eq 9, 3) := by decide +kernel
theorem dX11_playerWithRank_33 : decode cX11_playerWithRank 33 = .ok (.iinc 2 1, 3) := by decide +kernel
theorem dX11_playerWithRank_36 : decode cX11_playerWithRank 36 = .ok (.goto (-15), 3) := by decide +kernel
theorem dX11_playerWithRank_39 : decode cX11_playerWithRank 39 = .ok (.iload_n 2, 1) := by decide +kernel
theorem dX11_playerWithRank_40 : decode cX11_playerWithRank 40 = .ok (.ireturn, 1) := by decide +kernel
theorem dX11_longestRun_0 : decode cX11_longestRun 0 = .ok (.aload_n 0, 1) := by decide +kernel
theorem dX11_longestRun_1 : decode cX11_longestRun 1 = .ok (.iload_n 1, 1) := by decide +kernel
theorem dX11_longestRun_2 : decode cX11_longestRun 2 = .ok (.invokevirtual 290, 3) := by decide +kernel
theorem dX11_longestRun_5 : decode cX11_longestRun 5 = .ok (.ifCond .eq 5, 3) := by decide +kernel
theorem dX11_longestRun_8 : decode cX11_longestRun 8 = .ok (.iconst 0, 1) := by decide +kernel
theorem dX11_longestRun_9 : decode cX11_longestRun 9 = .ok (.ireturn, 1) := by decide +kernel
theorem dX11_longestRun_10 : decode cX11_longestRun 10 = .ok (.iconst 0, 1) := by decide +kernel
theorem dX11_longestRun_11 : decode cX11_longestRun 11 = .ok (.istore_n 2, 1) := by decide +kernel
theorem dX11_longestRun_12 : decode cX11_longestRun 12 = .ok (.iconst 0, 1) := by decide +kernel
theorem dX11_longestRun_13 : decode cX11_longestRun 13 = .ok (.istore_n 3, 1) := by decide +kernel
theorem dX11_longestRun_14 : decode cX11_longestRun 14 = .ok (.iconst 0, 1) := by decide +kernel
theorem dX11_longestRun_15 : decode cX11_longestRun 15 = .ok (.istore 4, 2) := by decide +kernel
theorem dX11_longestRun_17 : decode cX11_longestRun 17 = .ok (.iconst 0, 1) := by decide +kernel
theorem dX11_longestRun_18 : decode cX11_longestRun 18 = .ok (.istore 5, 2) := by decide +kernel
theorem dX11_longestRun_20 : decode cX11_longestRun 20 = .ok (.iload 5, 2) := by decide +kernel
theorem dX11_longestRun_22 : decode cX11_longestRun 22 = .ok (.aload_n 0, 1) := by decide +kernel
theorem dX11_longestRun_23 : decode cX11_longestRun 23 = .ok (.getfield 7, 3) := by decide +kernel
theorem dX11_longestRun_26 : decode cX11_longestRun 26 = .ok (.iconst 5, 1) := by decide +kernel
theorem dX11_longestRun_27 : decode cX11_longestRun 27 = .ok (.iaload, 1) := by decide +kernel
theorem dX11_longestRun_28 : decode cX11_longestRun 28 = .ok (.if_icmp .ge 75, 3) := by decide +kernel
theorem dX11_longestRun_31 : decode cX11_longestRun 31 = .ok (.aload_n 0, 1) := by decide +kernel
theorem dX11_longestRun_32 : decode cX11_longestRun 32 = .ok (.getfield 7, 3) := by decide +kernel
theorem dX11_longestRun_35 : decode cX11_longestRun 35 = .ok (.iload 5, 2) := by decide +kernel
theorem dX11_longestRun_37 : decode cX11_longestRun 37 = .ok (.invokestatic 85, 3) := by decide +kernel
theorem dX11_longestRun_40 : decode cX11_longestRun 40 = .ok (.iconst 0, 1) := by decide +kernel
theorem dX11_longestRun_41 : decode cX11_longestRun 41 = .ok (.iadd, 1) := by decide +kernel
theorem dX11_longestRun_42 : decode cX11_longestRun 42 = .ok (.iaload, 1) := by decide +kernel
theorem dX11_longestRun_43 : decode cX11_longestRun 43 = .ok (.iload_n 1, 1) := by decide +kernel
theorem dX11_longestRun_44 : decode cX11_longestRun 44 = .ok (.if_icmp .ne 53, 3) := by decide +kernel
theorem dX11_longestRun_47 : decode cX11_longestRun 47 = .ok (.aload_n 0, 1) := by decide +kernel
theorem dX11_longestRun_48 : decode cX11_longestRun 48 = .ok (.getfield 7, 3) := by decide +kernel
theorem dX11_longestRun_51 : decode cX11_longestRun 51 = .ok (.iload 5, 2) := by decide +kernel
theorem dX11_longestRun_53 : decode cX11_longestRun 53 = .ok (.invokestatic 85, 3) := by decide +kernel
theorem dX11_longestRun_56 : decode cX11_longestRun 56 = .ok (.iconst 2, 1) := by decide +kernel
theorem dX11_longestRun_57 : decode cX11_longestRun 57 = .ok (.iadd, 1) := by decide +kernel
theorem dX11_longestRun_58 : decode cX11_longestRun 58 = .ok (.iaload, 1) := by decide +kernel
theorem dX11_longestRun_59 : decode cX11_longestRun 59 = .ok (.iload 4, 2) := by decide +kernel
theorem dX11_longestRun_61 : decode cX11_longestRun 61 = .ok (.if_icmp .ne 9, 3) := by decide +kernel
theorem dX11_longestRun_64 : decode cX11_longestRun 64 = .ok (.iload_n 3, 1) := by decide +kernel
theorem dX11_longestRun_65 : decode cX11_longestRun 65 = .ok (.iconst 1, 1) := by decide +kernel
theorem dX11_longestRun_66 : decode cX11_longestRun 66 = .ok (.iadd, 1) := by decide +kernel
theorem dX11_longestRun_67 : decode cX11_longestRun 67 = .ok (.goto 4, 3) := by decide +kernel
theorem dX11_longestRun_70 : decode cX11_longestRun 70 = .ok (.iconst 1, 1) := by decide +kernel
theorem dX11_longestRun_71 : decode cX11_longestRun 71 = .ok (.istore_n 3, 1) := by decide +kernel
theorem dX11_longestRun_72 : decode cX11_longestRun 72 = .ok (.aload_n 0, 1) := by decide +kernel
theorem dX11_longestRun_73 : decode cX11_longestRun 73 = .ok (.getfield 7, 3) := by decide +kernel
theorem dX11_longestRun_76 : decode cX11_longestRun 76 = .ok (.iload 5, 2) := by decide +kernel
theorem dX11_longestRun_78 : decode cX11_longestRun 78 = .ok (.invokestatic 85, 3) := by decide +kernel
theorem dX11_longestRun_81 : decode cX11_longestRun 81 = .ok (.iconst 2, 1) := by decide +kernel
theorem dX11_longestRun_82 : decode cX11_longestRun 82 = .ok (.iadd, 1) := by decide +kernel
theorem dX11_longestRun_83 : decode cX11_longestRun 83 = .ok (.iaload, 1) := by decide +kernel
theorem dX11_longestRun_84 : decode cX11_longestRun 84 = .ok (.istore 4, 2) := by decide +kernel
theorem dX11_longestRun_86 : decode cX11_longestRun 86 = .ok (.iload_n 3, 1) := by decide +kernel
theorem dX11_longestRun_87 : decode cX11_longestRun 87 = .ok (.iload_n 2, 1) := by decide +kernel
theorem dX11_longestRun_88 : decode cX11_longestRun 88 = .ok (.if_icmp .le 7, 3) := by decide +kernel
theorem dX11_longestRun_91 : decode cX11_longestRun 91 = .ok (.iload_n 3, 1) := by decide +kernel
theorem dX11_longestRun_92 : decode cX11_longestRun 92 = .ok (.goto 4, 3) := by decide +kernel
theorem dX11_longestRun_95 : decode cX11_longestRun 95 = .ok (.iload_n 2, 1) := by decide +kernel
theorem dX11_longestRun_96 : decode cX11_longestRun 96 = .ok (.istore_n 2, 1) := by decide +kernel
theorem dX11_longestRun_97 : decode cX11_longestRun 97 = .ok (.iinc 5 1, 3) := by decide +kernel
theorem dX11_longestRun_100 : decode cX11_longestRun 100 = .ok (.goto (-80), 3) := by decide +kernel
theorem dX11_longestRun_103 : decode cX11_longestRun 103 = .ok (.iload_n 2, 1) := by decide +kernel
theorem dX11_longestRun_104 : decode cX11_longestRun 104 = .ok (.ireturn, 1) := by decide +kernel
theorem dX11_findPlayer_0 : decode cX11_findPlayer 0 = .ok (.aload_n 0, 1) := by decide +kernel
theorem dX11_findPlayer_1 : decode cX11_findPlayer 1 = .ok (.iconst 0, 1) := by decide +kernel
theorem dX11_findPlayer_2 : decode cX11_findPlayer 2 = .ok (.putfield 66, 3) := by decide +kernel
theorem dX11_findPlayer_5 : decode cX11_findPlayer 5 = .ok (.aload_n 0, 1) := by decide +kernel
theorem dX11_findPlayer_6 : decode cX11_findPlayer 6 = .ok (.iconst 0, 1) := by decide +kernel
theorem dX11_findPlayer_7 : decode cX11_findPlayer 7 = .ok (.aload_n 0, 1) := by decide +kernel
theorem dX11_findPlayer_8 : decode cX11_findPlayer 8 = .ok (.getfield 49, 3) := by decide +kernel
theorem dX11_findPlayer_11 : decode cX11_findPlayer 11 = .ok (.invokevirtual 218, 3) := by decide +kernel
theorem dX11_findPlayer_14 : decode cX11_findPlayer 14 = .ok (.istore_n 1, 1) := by decide +kernel
theorem dX11_findPlayer_15 : decode cX11_findPlayer 15 = .ok (.iload_n 1, 1) := by decide +kernel
theorem dX11_findPlayer_16 : decode cX11_findPlayer 16 = .ok (.iconst (-1), 1) := by decide +kernel
theorem dX11_findPlayer_17 : decode cX11_findPlayer 17 = .ok (.if_icmp .ne 7, 3) := by decide +kernel
theorem dX11_findPlayer_20 : decode cX11_findPlayer 20 = .ok (.iconst (-1), 1) := by decide +kernel
theorem dX11_findPlayer_21 : decode cX11_findPlayer 21 = .ok (.goto 11, 3) := by decide +kernel
theorem dX11_findPlayer_24 : decode cX11_findPlayer 24 = .ok (.aload_n 0, 1) := by decide +kernel
theorem dX11_findPlayer_25 : decode cX11_findPlayer 25 = .ok (.getfield 7, 3) := by decide +kernel
theorem dX11_findPlayer_28 : decode cX11_findPlayer 28 = .ok (.iload_n 1, 1) := by decide +kernel
theorem dX11_findPlayer_29 : decode cX11_findPlayer 29 = .ok (.invokestatic 221, 3) := by decide +kernel
theorem dX11_findPlayer_32 : decode cX11_findPlayer 32 = .ok (.ireturn, 1) := by decide +kernel
theorem dX11_throwsOfPair_0 : decode cX11_throwsOfPair 0 = .ok (.aload_n 0, 1) := by decide +kernel
theorem dX11_throwsOfPair_1 : decode cX11_throwsOfPair 1 = .ok (.iload_n 1, 1) := by decide +kernel
theorem dX11_throwsOfPair_2 : decode cX11_throwsOfPair 2 = .ok (.iload_n 2, 1) := by decide +kernel
theorem dX11_throwsOfPair_3 : decode cX11_throwsOfPair 3 = .ok (.invokevirtual 317, 3) := by decide +kernel
theorem dX11_throwsOfPair_6 : decode cX11_throwsOfPair 6 = .ok (.ifCond .eq 7, 3) := by decide +kernel
theorem dX11_throwsOfPair_9 : decode cX11_throwsOfPair 9 = .ok (.iconst 0, 1) := by decide +kernel
theorem dX11_throwsOfPair_10 : decode cX11_throwsOfPair 10 = .ok (.goto 12, 3) := by decide +kernel
theorem dX11_throwsOfPair_13 : decode cX11_throwsOfPair 13 = .ok (.aload_n 0, 1) := by decide +kernel
theorem dX11_throwsOfPair_14 : decode cX11_throwsOfPair 14 = .ok (.getfield 7, 3) := by decide +kernel
theorem dX11_throwsOfPair_17 : decode cX11_throwsOfPair 17 = .ok (.iload_n 1, 1) := by decide +kernel
theorem dX11_throwsOfPair_18 : decode cX11_throwsOfPair 18 = .ok (.iload_n 2, 1) := by decide +kernel
theorem dX11_throwsOfPair_19 : decode cX11_throwsOfPair 19 = .ok (.invokestatic 137, 3) := by decide +kernel
theorem dX11_throwsOfPair_22 : decode cX11_throwsOfPair 22 = .ok (.ireturn, 1) := by decide +kernel
theorem dX11_frequency_0 : decode cX11_frequency 0 = .ok (.aload_n 0, 1) := by decide +kernel
theorem dX11_frequency_1 : decode cX11_frequency 1 = .ok (.iload_n 1, 1) := by decide +kernel
theorem dX11_frequency_2 : decode cX11_frequency 2 = .ok (.iload_n 2, 1) := by decide +kernel
theorem dX11_frequency_3 : decode cX11_frequency 3 = .ok (.invokevirtual 317, 3) := by decide +kernel
theorem dX11_frequency_6 : decode cX11_frequency 6 = .ok (.ifCond .ne 20, 3) := by decide +kernel
theorem dX11_frequency_9 : decode cX11_frequency 9 = .ok (.aload_n 0, 1) := by decide +kernel
theorem dX11_frequency_10 : decode cX11_frequency 10 = .ok (.iload_n 3, 1) := by decide +kernel
theorem dX11_frequency_11 : decode cX11_frequency 11 = .ok (.iconst 1, 1) := by decide +kernel
theorem dX11_frequency_12 : decode cX11_frequency 12 = .ok (.aload_n 0, 1) := by decide +kernel
theorem dX11_frequency_13 : decode cX11_frequency 13 = .ok (.getfield 7, 3) := by decide +kernel
theorem dX11_frequency_16 : decode cX11_frequency 16 = .ok (.iload_n 2, 1) := by decide +kernel
theorem dX11_frequency_17 : decode cX11_frequency 17 = .ok (.invokestatic 73, 3) := by decide +kernel
theorem dX11_frequency_20 : decode cX11_frequency 20 = .ok (.invokevirtual 296, 3) := by decide +kernel
theorem dX11_frequency_23 : decode cX11_frequency 23 = .ok (.ifCond .eq 5, 3) := by decide +kernel
theorem dX11_frequency_26 : decode cX11_frequency 26 = .ok (.iconst 0, 1) := by decide +kernel
theorem dX11_frequency_27 : decode cX11_frequency 27 = .ok (.ireturn, 1) := by decide +kernel
theorem dX11_frequency_28 : decode cX11_frequency 28 = .ok (.aload_n 0, 1) := by decide +kernel
theorem dX11_frequency_29 : decode cX11_frequency 29 = .ok (.aload_n 0, 1) := by decide +kernel
theorem dX11_frequency_30 : decode cX11_frequency 30 = .ok (.getfield 7, 3) := by decide +kernel
theorem dX11_frequency_33 : decode cX11_frequency 33 = .ok (.iload_n 1, 1) := by decide +kernel
theorem dX11_frequency_34 : decode cX11_frequency 34 = .ok (.iload_n 2, 1) := by decide +kernel
theorem dX11_frequency_35 : decode cX11_frequency 35 = .ok (.invokevirtual 105, 3) := by decide +kernel
theorem dX11_frequency_38 : decode cX11_frequency 38 = .ok (.aload_n 0, 1) := by decide +kernel
theorem dX11_frequency_39 : decode cX11_frequency 39 = .ok (.getfield 26, 3) := by decide +kernel
theorem dX11_frequency_42 : decode cX11_frequency 42 = .ok (.iload_n 3, 1) := by decide +kernel
theorem dX11_frequency_43 : decode cX11_frequency 43 = .ok (.iaload, 1) := by decide +kernel
theorem dX11_frequency_44 : decode cX11_frequency 44 = .ok (.ireturn, 1) := by decide +kernel
theorem dX11_commonFace_0 : decode cX11_commonFace 0 = .ok (.aload_n 0, 1) := by decide +kernel
theorem dX11_commonFace_1 : decode cX11_commonFace 1 = .ok (.iload_n 1, 1) := by decide +kernel
theorem dX11_commonFace_2 : decode cX11_commonFace 2 = .ok (.iload_n 2, 1) := by decide +kernel
theorem dX11_commonFace_3 : decode cX11_commonFace 3 = .ok (.invokevirtual 317, 3) := by decide +kernel
theorem dX11_commonFace_6 : decode cX11_commonFace 6 = .ok (.ifCond .eq 5, 3) := by decide +kernel
theorem dX11_commonFace_9 : decode cX11_commonFace 9 = .ok (.iconst 0, 1) := by decide +kernel
theorem dX11_commonFace_10 : decode cX11_commonFace 10 = .ok (.ireturn, 1) := by decide +kernel
theorem dX11_commonFace_11 : decode cX11_commonFace 11 = .ok (.aload_n 0, 1) := by decide +kernel
theorem dX11_commonFace_12 : decode cX11_commonFace 12 = .ok (.aload_n 0, 1) := by decide +kernel
theorem dX11_commonFace_13 : decode cX11_commonFace 13 = .ok (.getfield 7, 3) := by decide +kernel
theorem dX11_commonFace_16 : decode cX11_commonFace 16 = .ok (.iload_n 1, 1) := by decide +kernel
theorem dX11_commonFace_17 : decode cX11_commonFace 17 = .ok (.iload_n 2, 1) := by decide +kernel
theorem dX11_commonFace_18 : decode cX11_commonFace 18 = .ok (.invokevirtual 105, 3) := by decide +kernel
theorem dX11_commonFace_21 : decode cX11_commonFace 21 = .ok (.iconst (-1), 1) := by decide +kernel
theorem dX11_commonFace_22 : decode cX11_commonFace 22 = .ok (.istore_n 3, 1) := by decide +kernel
theorem dX11_commonFace_23 : decode cX11_commonFace 23 = .ok (.iconst 0, 1) := by decide +kernel
theorem dX11_commonFace_24 : decode cX11_commonFace 24 = .ok (.istore 4, 2) := by decide +kernel
theorem dX11_commonFace_26 : decode cX11_commonFace 26 = .ok (.iconst 1, 1) := by decide +kernel
theorem dX11_commonFace_27 : decode cX11_commonFace 27 = .ok (.istore 5, 2) := by decide +kernel
theorem dX11_commonFace_29 : decode cX11_commonFace 29 = .ok (.iload 5, 2) := by decide +kernel
theorem dX11_commonFace_31 : decode cX11_commonFace 31 = .ok (.bipush 12, 2) := by decide +kernel
theorem dX11_commonFace_33 : decode cX11_commonFace 33 = .ok (.if_icmp .gt 54, 3) := by decide +kernel
theorem dX11_commonFace_36 : decode cX11_commonFace 36 = .ok (.aload_n 0, 1) := by decide +kernel
theorem dX11_commonFace_37 : decode cX11_commonFace 37 = .ok (.getfield 26, 3) := by decide +kernel
theorem dX11_commonFace_40 : decode cX11_commonFace 40 = .ok (.iload 5, 2) := by decide +kernel
theorem dX11_commonFace_42 : decode cX11_commonFace 42 = .ok (.iaload, 1) := by decide +kernel
theorem dX11_commonFace_43 : decode cX11_commonFace 43 = .ok (.iload 4, 2) := by decide +kernel
theorem dX11_commonFace_45 : decode cX11_commonFace 45 = .ok (.if_icmp .le 8, 3) := by decide +kernel
theorem dX11_commonFace_48 : decode cX11_commonFace 48 = .ok (.iload 5, 2) := by decide +kernel
theorem dX11_commonFace_50 : decode cX11_commonFace 50 = .ok (.goto 4, 3) := by decide +kernel
theorem dX11_commonFace_53 : decode cX11_commonFace 53 = .ok (.iload_n 3, 1) := by decide +kernel
theorem dX11_commonFace_54 : decode cX11_commonFace 54 = .ok (.istore_n 3, 1) := by decide +kernel
theorem dX11_commonFace_55 : decode cX11_commonFace 55 = .ok (.aload_n 0, 1) := by decide +kernel
theorem dX11_commonFace_56 : decode cX11_commonFace 56 = .ok (.getfield 26, 3) := by decide +kernel
theorem dX11_commonFace_59 : decode cX11_commonFace 59 = .ok (.iload 5, 2) := by decide +kernel
theorem dX11_commonFace_61 : decode cX11_commonFace 61 = .ok (.iaload, 1) := by decide +kernel
theorem dX11_commonFace_62 : decode cX11_commonFace 62 = .ok (.iload 4, 2) := by decide +kernel
theorem dX11_commonFace_64 : decode cX11_commonFace 64 = .ok (.if_icmp .le 13, 3) := by decide +kernel
theorem dX11_commonFace_67 : decode cX11_commonFace 67 = .ok (.aload_n 0, 1) := by decide +kernel
theorem dX11_commonFace_68 : decode cX11_commonFace 68 = .ok (.getfield 26, 3) := by decide +kernel
theorem dX11_commonFace_71 : decode cX11_commonFace 71 = .ok (.iload 5, 2) := by decide +kernel
theorem dX11_commonFace_73 : decode cX11_commonFace 73 = .ok (.iaload, 1) := by decide +kernel
theorem dX11_commonFace_74 : decode cX11_commonFace 74 = .ok (.goto 5, 3) := by decide +kernel
theorem dX11_commonFace_77 : decode cX11_commonFace 77 = .ok (.iload 4, 2) := by decide +kernel
theorem dX11_commonFace_79 : decode cX11_commonFace 79 = .ok (.istore 4, 2) := by decide +kernel
theorem dX11_commonFace_81 : decode cX11_commonFace 81 = .ok (.iinc 5 1, 3) := by decide +kernel
theorem dX11_commonFace_84 : decode cX11_commonFace 84 = .ok (.goto (-55), 3) := by decide +kernel
theorem dX11_commonFace_87 : decode cX11_commonFace 87 = .ok (.iload_n 3, 1) := by decide +kernel
theorem dX11_commonFace_88 : decode cX11_commonFace 88 = .ok (.ireturn, 1) := by decide +kernel
theorem dX11_facesSeen_0 : decode cX11_facesSeen 0 = .ok (.aload_n 0, 1) := by decide +kernel
theorem dX11_facesSeen_1 : decode cX11_facesSeen 1 = .ok (.iload_n 1, 1) := by decide +kernel
theorem dX11_facesSeen_2 : decode cX11_facesSeen 2 = .ok (.iload_n 2, 1) := by decide +kernel
theorem dX11_facesSeen_3 : decode cX11_facesSeen 3 = .ok (.invokevirtual 317, 3) := by decide +kernel
theorem dX11_facesSeen_6 : decode cX11_facesSeen 6 = .ok (.ifCond .eq 5, 3) := by decide +kernel
theorem dX11_facesSeen_9 : decode cX11_facesSeen 9 = .ok (.iconst 0, 1) := by decide +kernel
theorem dX11_facesSeen_10 : decode cX11_facesSeen 10 = .ok (.ireturn, 1) := by decide +kernel
theorem dX11_facesSeen_11 : decode cX11_facesSeen 11 = .ok (.aload_n 0, 1) := by decide +kernel
theorem dX11_facesSeen_12 : decode cX11_facesSeen 12 = .ok (.aload_n 0, 1) := by decide +kernel
theorem dX11_facesSeen_13 : decode cX11_facesSeen 13 = .ok (.getfield 7, 3) := by decide +kernel
theorem dX11_facesSeen_16 : decode cX11_facesSeen 16 = .ok (.iload_n 1, 1) := by decide +kernel
theorem dX11_facesSeen_17 : decode cX11_facesSeen 17 = .ok (.iload_n 2, 1) := by decide +kernel
theorem dX11_facesSeen_18 : decode cX11_facesSeen 18 = .ok (.invokevirtual 105, 3) := by decide +kernel
theorem dX11_facesSeen_21 : decode cX11_facesSeen 21 = .ok (.iconst 0, 1) := by decide +kernel
theorem dX11_facesSeen_22 : decode cX11_facesSeen 22 = .ok (.istore_n 3, 1) := by decide +kernel
theorem dX11_facesSeen_23 : decode cX11_facesSeen 23 = .ok (.iconst 1, 1) := by decide +kernel
theorem dX11_facesSeen_24 : decode cX11_facesSeen 24 = .ok (.istore 4, 2) := by decide +kernel
theorem dX11_facesSeen_26 : decode cX11_facesSeen 26 = .ok (.iload 4, 2) := by decide +kernel
theorem dX11_facesSeen_28 : decode cX11_facesSeen 28 = .ok (.bipush 12, 2) := by decide +kernel
theorem dX11_facesSeen_30 : decode cX11_facesSeen 30 = .ok (.if_icmp .gt 27, 3) := by decide +kernel
theorem dX11_facesSeen_33 : decode cX11_facesSeen 33 = .ok (.iload_n 3, 1) := by decide +kernel
theorem dX11_facesSeen_34 : decode cX11_facesSeen 34 = .ok (.aload_n 0, 1) := by decide +kernel
theorem dX11_facesSeen_35 : decode cX11_facesSeen 35 = .ok (.getfield 26, 3) := by decide +kernel
theorem dX11_facesSeen_38 : decode cX11_facesSeen 38 = .ok (.iload 4, 2) := by decide +kernel
theorem dX11_facesSeen_40 : decode cX11_facesSeen 40 = .ok (.iaload, 1) := by decide +kernel
theorem dX11_facesSeen_41 : decode cX11_facesSeen 41 = .ok (.ifCond .le 7, 3) := by decide +kernel
theorem dX11_facesSeen_44 : decode cX11_facesSeen 44 = .ok (.iconst 1, 1) := by decide +kernel
theorem dX11_facesSeen_45 : decode cX11_facesSeen 45 = .ok (.goto 4, 3) := by decide +kernel
theorem dX11_facesSeen_48 : decode cX11_facesSeen 48 = .ok (.iconst 0, 1) := by decide +kernel
theorem dX11_facesSeen_49 : decode cX11_facesSeen 49 = .ok (.iadd, 1) := by decide +kernel
theorem dX11_facesSeen_50 : decode cX11_facesSeen 50 = .ok (.istore_n 3, 1) := by decide +kernel
theorem dX11_facesSeen_51 : decode cX11_facesSeen 51 = .ok (.iinc 4 1, 3) := by decide +kernel
theorem dX11_facesSeen_54 : decode cX11_facesSeen 54 = .ok (.goto (-28), 3) := by decide +kernel
theorem dX11_facesSeen_57 : decode cX11_facesSeen 57 = .ok (.iload_n 3, 1) := by decide +kernel
theorem dX11_facesSeen_58 : decode cX11_facesSeen 58 = .ok (.ireturn, 1) := by decide +kernel
theorem dX11_latestThrow_0 : decode cX11_latestThrow 0 = .ok (.aload_n 0, 1) := by decide +kernel
theorem dX11_latestThrow_1 : decode cX11_latestThrow 1 = .ok (.iload_n 1, 1) := by decide +kernel
theorem dX11_latestThrow_2 : decode cX11_latestThrow 2 = .ok (.iload_n 2, 1) := by decide +kernel
theorem dX11_latestThrow_3 : decode cX11_latestThrow 3 = .ok (.invokevirtual 317, 3) := by decide +kernel
theorem dX11_latestThrow_6 : decode cX11_latestThrow 6 = .ok (.ifCond .eq 5, 3) := by decide +kernel
theorem dX11_latestThrow_9 : decode cX11_latestThrow 9 = .ok (.iconst 0, 1) := by decide +kernel
theorem dX11_latestThrow_10 : decode cX11_latestThrow 10 = .ok (.ireturn, 1) := by decide +kernel
theorem dX11_latestThrow_11 : decode cX11_latestThrow 11 = .ok (.aload_n 0, 1) := by decide +kernel
theorem dX11_latestThrow_12 : decode cX11_latestThrow 12 = .ok (.getfield 7, 3) := by decide +kernel
theorem dX11_latestThrow_15 : decode cX11_latestThrow 15 = .ok (.iconst 5, 1) := by decide +kernel
theorem dX11_latestThrow_16 : decode cX11_latestThrow 16 = .ok (.iaload, 1) := by decide +kernel
theorem dX11_latestThrow_17 : decode cX11_latestThrow 17 = .ok (.iconst 1, 1) := by decide +kernel
theorem dX11_latestThrow_18 : decode cX11_latestThrow 18 = .ok (.isub, 1) := by decide +kernel
theorem dX11_latestThrow_19 : decode cX11_latestThrow 19 = .ok (.istore_n 3, 1) := by decide +kernel
theorem dX11_latestThrow_20 : decode cX11_latestThrow 20 = .ok (.iload_n 3, 1) := by decide +kernel
theorem dX11_latestThrow_21 : decode cX11_latestThrow 21 = .ok (.ifCond .lt 24, 3) := by decide +kernel
theorem dX11_latestThrow_24 : decode cX11_latestThrow 24 = .ok (.aload_n 0, 1) := by decide +kernel
theorem dX11_latestThrow_25 : decode cX11_latestThrow 25 = .ok (.getfield 7, 3) := by decide +kernel
theorem dX11_latestThrow_28 : decode cX11_latestThrow 28 = .ok (.iload_n 3, 1) := by decide +kernel
theorem dX11_latestThrow_29 : decode cX11_latestThrow 29 = .ok (.iload_n 1, 1) := by decide +kernel
theorem dX11_latestThrow_30 : decode cX11_latestThrow 30 = .ok (.iload_n 2, 1) := by decide +kernel
theorem dX11_latestThrow_31 : decode cX11_latestThrow 31 = .ok (.invokestatic 98, 3) := by decide +kernel
theorem dX11_latestThrow_34 : decode cX11_latestThrow 34 = .ok (.ifCond .eq 5, 3) := by decide +kernel
theorem dX11_latestThrow_37 : decode cX11_latestThrow 37 = .ok (.iload_n 3, 1) := by decide +kernel
theorem dX11_latestThrow_38 : decode cX11_latestThrow 38 = .ok (.ireturn, 1) := by decide +kernel
theorem dX11_latestThrow_39 : decode cX11_latestThrow 39 = .ok (.iinc 3 (-1), 3) := by decide +kernel
theorem dX11_latestThrow_42 : decode cX11_latestThrow 42 = .ok (.goto (-22), 3) := by decide +kernel
theorem dX11_latestThrow_45 : decode cX11_latestThrow 45 = .ok (.iconst (-1), 1) := by decide +kernel
theorem dX11_latestThrow_46 : decode cX11_latestThrow 46 = .ok (.ireturn, 1) := by decide +kernel
theorem dX11_score_0 : decode cX11_score 0 = .ok (.aload_n 0, 1) := by decide +kernel
theorem dX11_score_1 : decode cX11_score 1 = .ok (.iload_n 1, 1) := by decide +kernel
theorem dX11_score_2 : decode cX11_score 2 = .ok (.iload_n 2, 1) := by decide +kernel
theorem dX11_score_3 : decode cX11_score 3 = .ok (.invokevirtual 317, 3) := by decide +kernel
theorem dX11_score_6 : decode cX11_score 6 = .ok (.ifCond .eq 7, 3) := by decide +kernel
theorem dX11_score_9 : decode cX11_score 9 = .ok (.iconst 0, 1) := by decide +kernel
theorem dX11_score_10 : decode cX11_score 10 = .ok (.goto 13, 3) := by decide +kernel
theorem dX11_score_13 : decode cX11_score 13 = .ok (.aload_n 0, 1) := by decide +kernel
theorem dX11_score_14 : decode cX11_score 14 = .ok (.aload_n 0, 1) := by decide +kernel
theorem dX11_score_15 : decode cX11_score 15 = .ok (.getfield 7, 3) := by decide +kernel
theorem dX11_score_18 : decode cX11_score 18 = .ok (.iload_n 1, 1) := by decide +kernel
theorem dX11_score_19 : decode cX11_score 19 = .ok (.iload_n 2, 1) := by decide +kernel
theorem dX11_score_20 : decode cX11_score 20 = .ok (.invokevirtual 130, 3) := by decide +kernel
theorem dX11_score_23 : decode cX11_score 23 = .ok (.ireturn, 1) := by decide +kernel
theorem dX11_isSuspicious_0 : decode cX11_isSuspicious 0 = .ok (.aload_n 0, 1) := by decide +kernel
theorem dX11_isSuspicious_1 : decode cX11_isSuspicious 1 = .ok (.iload_n 1, 1) := by decide +kernel
theorem dX11_isSuspicious_2 : decode cX11_isSuspicious 2 = .ok (.iload_n 2, 1) := by decide +kernel
theorem dX11_isSuspicious_3 : decode cX11_isSuspicious 3 = .ok (.invokevirtual 317, 3) := by decide +kernel
theorem dX11_isSuspicious_6 : decode cX11_isSuspicious 6 = .ok (.ifCond .ne 20, 3) := by decide +kernel
theorem dX11_isSuspicious_9 : decode cX11_isSuspicious 9 = .ok (.aload_n 0, 1) := by decide +kernel
theorem dX11_isSuspicious_10 : decode cX11_isSuspicious 10 = .ok (.aload_n 0, 1) := by decide +kernel
theorem dX11_isSuspicious_11 : decode cX11_isSuspicious 11 = .ok (.getfield 7, 3) := by decide +kernel
theorem dX11_isSuspicious_14 : decode cX11_isSuspicious 14 = .ok (.iload_n 1, 1) := by decide +kernel
theorem dX11_isSuspicious_15 : decode cX11_isSuspicious 15 = .ok (.iload_n 2, 1) := by decide +kernel
theorem dX11_isSuspicious_16 : decode cX11_isSuspicious 16 = .ok (.invokevirtual 123, 3) := by decide +kernel
theorem dX11_isSuspicious_19 : decode cX11_isSuspicious 19 = .ok (.ifCond .eq 7, 3) := by decide +kernel
theorem dX11_isSuspicious_22 : decode cX11_isSuspicious 22 = .ok (.iconst 1, 1) := by decide +kernel
theorem dX11_isSuspicious_23 : decode cX11_isSuspicious 23 = .ok (.goto 4, 3) := by decide +kernel
theorem dX11_isSuspicious_26 : decode cX11_isSuspicious 26 = .ok (.iconst 0, 1) := by decide +kernel
theorem dX11_isSuspicious_27 : decode cX11_isSuspicious 27 = .ok (.ireturn, 1) := by decide +kernel
theorem dX11_suspiciousIn_0 : decode cX11_suspiciousIn 0 = .ok (.iconst 0, 1) := by decide +kernel
theorem dX11_suspiciousIn_1 : decode cX11_suspiciousIn 1 = .ok (.istore_n 1, 1) := by decide +kernel
theorem dX11_suspiciousIn_2 : decode cX11_suspiciousIn 2 = .ok (.iconst 0, 1) := by decide +kernel
theorem dX11_suspiciousIn_3 : decode cX11_suspiciousIn 3 = .ok (.istore_n 2, 1) := by decide +kernel
theorem dX11_suspiciousIn_4 : decode cX11_suspiciousIn 4 = .ok (.iload_n 2, 1) := by decide +kernel
theorem dX11_suspiciousIn_5 : decode cX11_suspiciousIn 5 = .ok (.aload_n 0, 1) := by decide +kernel
theorem dX11_suspiciousIn_6 : decode cX11_suspiciousIn 6 = .ok (.getfield 7, 3) := by decide +kernel
theorem dX11_suspiciousIn_9 : decode cX11_suspiciousIn 9 = .ok (.iconst 4, 1) := by decide +kernel
theorem dX11_suspiciousIn_10 : decode cX11_suspiciousIn 10 = .ok (.iaload, 1) := by decide +kernel
theorem dX11_suspiciousIn_11 : decode cX11_suspiciousIn 11 = .ok (.if_icmp .ge 48, 3) := by decide +kernel
theorem dX11_suspiciousIn_14 : decode cX11_suspiciousIn 14 = .ok (.iconst 0, 1) := by decide +kernel
theorem dX11_suspiciousIn_15 : decode cX11_suspiciousIn 15 = .ok (.istore_n 3, 1) := by decide +kernel
theorem dX11_suspiciousIn_16 : decode cX11_suspiciousIn 16 = .ok (.iload_n 3, 1) := by decide +kernel
theorem dX11_suspiciousIn_17 : decode cX11_suspiciousIn 17 = .ok (.aload_n 0, 1) := by decide +kernel
theorem dX11_suspiciousIn_18 : decode cX11_suspiciousIn 18 = .ok (.getfield 7, 3) := by decide +kernel
theorem dX11_suspiciousIn_21 : decode cX11_suspiciousIn 21 = .ok (.iconst 3, 1) := by decide +kernel
theorem dX11_suspiciousIn_22 : decode cX11_suspiciousIn 22 = .ok (.iaload, 1) := by decide +kernel
theorem dX11_suspiciousIn_23 : decode cX11_suspiciousIn 23 = .ok (.if_icmp .ge 30, 3) := by decide +kernel
theorem dX11_suspiciousIn_26 : decode cX11_suspiciousIn 26 = .ok (.iload_n 1, 1) := by decide +kernel
theorem dX11_suspiciousIn_27 : decode cX11_suspiciousIn 27 = .ok (.aload_n 0, 1) := by decide +kernel
theorem dX11_suspiciousIn_28 : decode cX11_suspiciousIn 28 = .ok (.aload_n 0, 1) := by decide +kernel
theorem dX11_suspiciousIn_29 : decode cX11_suspiciousIn 29 = .ok (.getfield 7, 3) := by decide +kernel
theorem dX11_suspiciousIn_32 : decode cX11_suspiciousIn 32 = .ok (.iload_n 2, 1) := by decide +kernel
theorem dX11_suspiciousIn_33 : decode cX11_suspiciousIn 33 = .ok (.iload_n 3, 1) := by decide +kernel
theorem dX11_suspiciousIn_34 : decode cX11_suspiciousIn 34 = .ok (.invokevirtual 123, 3) := by decide +kernel
theorem dX11_suspiciousIn_37 : decode cX11_suspiciousIn 37 = .ok (.ifCond .eq 7, 3) := by decide +kernel
theorem dX11_suspiciousIn_40 : decode cX11_suspiciousIn 40 = .ok (.iconst 1, 1) := by decide +kernel
theorem dX11_suspiciousIn_41 : decode cX11_suspiciousIn 41 = .ok (.goto 4, 3) := by decide +kernel
theorem dX11_suspiciousIn_44 : decode cX11_suspiciousIn 44 = .ok (.iconst 0, 1) := by decide +kernel
theorem dX11_suspiciousIn_45 : decode cX11_suspiciousIn 45 = .ok (.iadd, 1) := by decide +kernel
theorem dX11_suspiciousIn_46 : decode cX11_suspiciousIn 46 = .ok (.istore_n 1, 1) := by decide +kernel
theorem dX11_suspiciousIn_47 : decode cX11_suspiciousIn 47 = .ok (.iinc 3 1, 3) := by decide +kernel
theorem dX11_suspiciousIn_50 : decode cX11_suspiciousIn 50 = .ok (.goto (-34), 3) := by decide +kernel
theorem dX11_suspiciousIn_53 : decode cX11_suspiciousIn 53 = .ok (.iinc 2 1, 3) := by decide +kernel
theorem dX11_suspiciousIn_56 : decode cX11_suspiciousIn 56 = .ok (.goto (-52), 3) := by decide +kernel
theorem dX11_suspiciousIn_59 : decode cX11_suspiciousIn 59 = .ok (.iload_n 1, 1) := by decide +kernel
theorem dX11_suspiciousIn_60 : decode cX11_suspiciousIn 60 = .ok (.ireturn, 1) := by decide +kernel
theorem dX11_suspiciousPairs_0 : decode cX11_suspiciousPairs 0 = .ok (.aload_n 0, 1) := by decide +kernel
theorem dX11_suspiciousPairs_1 : decode cX11_suspiciousPairs 1 = .ok (.iconst 0, 1) := by decide +kernel
theorem dX11_suspiciousPairs_2 : decode cX11_suspiciousPairs 2 = .ok (.putfield 66, 3) := by decide +kernel
theorem dX11_suspiciousPairs_5 : decode cX11_suspiciousPairs 5 = .ok (.aload_n 0, 1) := by decide +kernel
theorem dX11_suspiciousPairs_6 : decode cX11_suspiciousPairs 6 = .ok (.invokevirtual 321, 3) := by decide +kernel
theorem dX11_suspiciousPairs_9 : decode cX11_suspiciousPairs 9 = .ok (.ireturn, 1) := by decide +kernel
theorem dX11_worstPair_0 : decode cX11_worstPair 0 = .ok (.aload_n 0, 1) := by decide +kernel
theorem dX11_worstPair_1 : decode cX11_worstPair 1 = .ok (.iconst 0, 1) := by decide +kernel
theorem dX11_worstPair_2 : decode cX11_worstPair 2 = .ok (.putfield 66, 3) := by decide +kernel
theorem dX11_worstPair_5 : decode cX11_worstPair 5 = .ok (.iconst (-1), 1) := by decide +kernel
theorem dX11_worstPair_6 : decode cX11_worstPair 6 = .ok (.istore_n 1, 1) := by decide +kernel
theorem dX11_worstPair_7 : decode cX11_worstPair 7 = .ok (.iconst (-1), 1) := by decide +kernel
theorem dX11_worstPair_8 : decode cX11_worstPair 8 = .ok (.istore_n 2, 1) := by decide +kernel
theorem dX11_worstPair_9 : decode cX11_worstPair 9 = .ok (.iconst 0, 1) := by decide +kernel
theorem dX11_worstPair_10 : decode cX11_worstPair 10 = .ok (.istore_n 3, 1) := by decide +kernel
theorem dX11_worstPair_11 : decode cX11_worstPair 11 = .ok (.iload_n 3, 1) := by decide +kernel
theorem dX11_worstPair_12 : decode cX11_worstPair 12 = .ok (.aload_n 0, 1) := by decide +kernel
theorem dX11_worstPair_13 : decode cX11_worstPair 13 = .ok (.getfield 7, 3) := by decide +kernel
theorem dX11_worstPair_16 : decode cX11_worstPair 16 = .ok (.iconst 4, 1) := by decide +kernel
theorem dX11_worstPair_17 : decode cX11_worstPair 17 = .ok (.iaload, 1) := by decide +kernel
theorem dX11_worstPair_18 : decode cX11_worstPair 18 = .ok (.if_icmp .ge 82, 3) := by decide +kernel
theorem dX11_worstPair_21 : decode cX11_worstPair 21 = .ok (.aload_n 0, 1) := by decide +kernel
theorem dX11_worstPair_22 : decode cX11_worstPair 22 = .ok (.getfield 7, 3) := by decide +kernel
theorem dX11_worstPair_25 : decode cX11_worstPair 25 = .ok (.iconst 5, 1) := by decide +kernel
theorem dX11_worstPair_26 : decode cX11_worstPair 26 = .ok (.iaload, 1) := by decide +kernel
theorem dX11_worstPair_27 : decode cX11_worstPair 27 = .ok (.ifCond .le 73, 3) := by decide +kernel
theorem dX11_worstPair_30 : decode cX11_worstPair 30 = .ok (.iconst 0, 1) := by decide +kernel
theorem dX11_worstPair_31 : decode cX11_worstPair 31 = .ok (.istore 4, 2) := by decide +kernel
theorem dX11_worstPair_33 : decode cX11_worstPair 33 = .ok (.iload 4, 2) := by decide +kernel
theorem dX11_worstPair_35 : decode cX11_worstPair 35 = .ok (.aload_n 0, 1) := by decide +kernel
theorem dX11_worstPair_36 : decode cX11_worstPair 36 = .ok (.getfield 7, 3) := by decide +kernel
theorem dX11_worstPair_39 : decode cX11_worstPair 39 = .ok (.iconst 3, 1) := by decide +kernel
theorem dX11_worstPair_40 : decode cX11_worstPair 40 = .ok (.iaload, 1) := by decide +kernel
theorem dX11_worstPair_41 : decode cX11_worstPair 41 = .ok (.if_icmp .ge 53, 3) := by decide +kernel
theorem dX11_worstPair_44 : decode cX11_worstPair 44 = .ok (.aload_n 0, 1) := by decide +kernel
theorem dX11_worstPair_45 : decode cX11_worstPair 45 = .ok (.aload_n 0, 1) := by decide +kernel
theorem dX11_worstPair_46 : decode cX11_worstPair 46 = .ok (.getfield 7, 3) := by decide +kernel
theorem dX11_worstPair_49 : decode cX11_worstPair 49 = .ok (.iload_n 3, 1) := by decide +kernel
theorem dX11_worstPair_50 : decode cX11_worstPair 50 = .ok (.iload 4, 2) := by decide +kernel
theorem dX11_worstPair_52 : decode cX11_worstPair 52 = .ok (.invokevirtual 130, 3) := by decide +kernel
theorem dX11_worstPair_55 : decode cX11_worstPair 55 = .ok (.istore 5, 2) := by decide +kernel
theorem dX11_worstPair_57 : decode cX11_worstPair 57 = .ok (.iload 5, 2) := by decide +kernel
theorem dX11_worstPair_59 : decode cX11_worstPair 59 = .ok (.iload_n 2, 1) := by decide +kernel
theorem dX11_worstPair_60 : decode cX11_worstPair 60 = .ok (.if_icmp .le 13, 3) := by decide +kernel
theorem dX11_worstPair_63 : decode cX11_worstPair 63 = .ok (.bipush 10, 2) := by decide +kernel
theorem dX11_worstPair_65 : decode cX11_worstPair 65 = .ok (.iload_n 3, 1) := by decide +kernel
theorem dX11_worstPair_66 : decode cX11_worstPair 66 = .ok (.imul, 1) := by decide +kernel
theorem dX11_worstPair_67 : decode cX11_worstPair 67 = .ok (.iload 4, 2) := by decide +kernel
theorem dX11_worstPair_69 : decode cX11_worstPair 69 = .ok (.iadd, 1) := by decide +kernel
theorem dX11_worstPair_70 : decode cX11_worstPair 70 = .ok (.goto 4, 3) := by decide +kernel
theorem dX11_worstPair_73 : decode cX11_worstPair 73 = .ok (.iload_n 1, 1) := by decide +kernel
theorem dX11_worstPair_74 : decode cX11_worstPair 74 = .ok (.istore_n 1, 1) := by decide +kernel
theorem dX11_worstPair_75 : decode cX11_worstPair 75 = .ok (.iload 5, 2) := by decide +kernel
theorem dX11_worstPair_77 : decode cX11_worstPair 77 = .ok (.iload_n 2, 1) := by decide +kernel
theorem dX11_worstPair_78 : decode cX11_worstPair 78 = .ok (.if_icmp .le 8, 3) := by decide +kernel
theorem dX11_worstPair_81 : decode cX11_worstPair 81 = .ok (.iload 5, 2) := by decide +kernel
theorem dX11_worstPair_83 : decode cX11_worstPair 83 = .ok (.goto 4, 3) := by decide +kernel
theorem dX11_worstPair_86 : decode cX11_worstPair 86 = .ok (.iload_n 2, 1) := by decide +kernel
theorem dX11_worstPair_87 : decode cX11_worstPair 87 = .ok (.istore_n 2, 1) := by decide +kernel
theorem dX11_worstPair_88 : decode cX11_worstPair 88 = .ok (.iinc 4 1, 3) := by decide +kernel
theorem dX11_worstPair_91 : decode cX11_worstPair 91 = .ok (.goto (-58), 3) := by decide +kernel
theorem dX11_worstPair_94 : decode cX11_worstPair 94 = .ok (.iinc 3 1, 3) := by decide +kernel
theorem dX11_worstPair_97 : decode cX11_worstPair 97 = .ok (.goto (-86), 3) := by decide +kernel
theorem dX11_worstPair_100 : decode cX11_worstPair 100 = .ok (.iload_n 1, 1) := by decide +kernel
theorem dX11_worstPair_101 : decode cX11_worstPair 101 = .ok (.ireturn, 1) := by decide +kernel
theorem dX11_offenceCount_0 : decode cX11_offenceCount 0 = .ok (.aload_n 0, 1) := by decide +kernel
theorem dX11_offenceCount_1 : decode cX11_offenceCount 1 = .ok (.iconst 0, 1) := by decide +kernel
theorem dX11_offenceCount_2 : decode cX11_offenceCount 2 = .ok (.putfield 66, 3) := by decide +kernel
theorem dX11_offenceCount_5 : decode cX11_offenceCount 5 = .ok (.aload_n 0, 1) := by decide +kernel
theorem dX11_offenceCount_6 : decode cX11_offenceCount 6 = .ok (.getfield 7, 3) := by decide +kernel
theorem dX11_offenceCount_9 : decode cX11_offenceCount 9 = .ok (.bipush 6, 2) := by decide +kernel
theorem dX11_offenceCount_11 : decode cX11_offenceCount 11 = .ok (.iaload, 1) := by decide +kernel
theorem dX11_offenceCount_12 : decode cX11_offenceCount 12 = .ok (.ireturn, 1) := by decide +kernel
theorem dX11_ofThat_0 : decode cX11_ofThat 0 = .ok (.aload_n 0, 1) := by decide +kernel
theorem dX11_ofThat_1 : decode cX11_ofThat 1 = .ok (.iload_n 1, 1) := by decide +kernel
theorem dX11_ofThat_2 : decode cX11_ofThat 2 = .ok (.invokevirtual 324, 3) := by decide +kernel
theorem dX11_ofThat_5 : decode cX11_ofThat 5 = .ok (.ifCond .eq 7, 3) := by decide +kernel
theorem dX11_ofThat_8 : decode cX11_ofThat 8 = .ok (.iconst 0, 1) := by decide +kernel
theorem dX11_ofThat_9 : decode cX11_ofThat 9 = .ok (.goto 14, 3) := by decide +kernel
theorem dX11_ofThat_12 : decode cX11_ofThat 12 = .ok (.aload_n 0, 1) := by decide +kernel
theorem dX11_ofThat_13 : decode cX11_ofThat 13 = .ok (.getfield 7, 3) := by decide +kernel
theorem dX11_ofThat_16 : decode cX11_ofThat 16 = .ok (.iload_n 1, 1) := by decide +kernel
theorem dX11_ofThat_17 : decode cX11_ofThat 17 = .ok (.invokestatic 116, 3) := by decide +kernel
theorem dX11_ofThat_20 : decode cX11_ofThat 20 = .ok (.iload_n 2, 1) := by decide +kernel
theorem dX11_ofThat_21 : decode cX11_ofThat 21 = .ok (.iadd, 1) := by decide +kernel
theorem dX11_ofThat_22 : decode cX11_ofThat 22 = .ok (.iaload, 1) := by decide +kernel
theorem dX11_ofThat_23 : decode cX11_ofThat 23 = .ok (.ireturn, 1) := by decide +kernel
theorem dX11_offencePlayer_0 : decode cX11_offencePlayer 0 = .ok (.aload_n 0, 1) := by decide +kernel
theorem dX11_offencePlayer_1 : decode cX11_offencePlayer 1 = .ok (.iload_n 1, 1) := by decide +kernel
theorem dX11_offencePlayer_2 : decode cX11_offencePlayer 2 = .ok (.iconst 0, 1) := by decide +kernel
theorem dX11_offencePlayer_3 : decode cX11_offencePlayer 3 = .ok (.invokevirtual 327, 3) := by decide +kernel
theorem dX11_offencePlayer_6 : decode cX11_offencePlayer 6 = .ok (.ireturn, 1) := by decide +kernel
theorem dX11_offenceDie_0 : decode cX11_offenceDie 0 = .ok (.aload_n 0, 1) := by decide +kernel
theorem dX11_offenceDie_1 : decode cX11_offenceDie 1 = .ok (.iload_n 1, 1) := by decide +kernel
theorem dX11_offenceDie_2 : decode cX11_offenceDie 2 = .ok (.iconst 1, 1) := by decide +kernel
theorem dX11_offenceDie_3 : decode cX11_offenceDie 3 = .ok (.invokevirtual 327, 3) := by decide +kernel
theorem dX11_offenceDie_6 : decode cX11_offenceDie 6 = .ok (.ireturn, 1) := by decide +kernel
theorem dX11_offenceScore_0 : decode cX11_offenceScore 0 = .ok (.aload_n 0, 1) := by decide +kernel
theorem dX11_offenceScore_1 : decode cX11_offenceScore 1 = .ok (.iload_n 1, 1) := by decide +kernel
theorem dX11_offenceScore_2 : decode cX11_offenceScore 2 = .ok (.iconst 2, 1) := by decide +kernel
theorem dX11_offenceScore_3 : decode cX11_offenceScore 3 = .ok (.invokevirtual 327, 3) := by decide +kernel
theorem dX11_offenceScore_6 : decode cX11_offenceScore 6 = .ok (.ireturn, 1) := by decide +kernel
theorem dX11_offencesOf_0 : decode cX11_offencesOf 0 = .ok (.aload_n 0, 1) := by decide +kernel
theorem dX11_offencesOf_1 : decode cX11_offencesOf 1 = .ok (.iload_n 1, 1) := by decide +kernel
theorem dX11_offencesOf_2 : decode cX11_offencesOf 2 = .ok (.invokevirtual 290, 3) := by decide +kernel
theorem dX11_offencesOf_5 : decode cX11_offencesOf 5 = .ok (.ifCond .eq 7, 3) := by decide +kernel
theorem dX11_offencesOf_8 : decode cX11_offencesOf 8 = .ok (.iconst 0, 1) := by decide +kernel
theorem dX11_offencesOf_9 : decode cX11_offencesOf 9 = .ok (.goto 11, 3) := by decide +kernel
theorem dX11_offencesOf_12 : decode cX11_offencesOf 12 = .ok (.aload_n 0, 1) := by decide +kernel
theorem dX11_offencesOf_13 : decode cX11_offencesOf 13 = .ok (.getfield 7, 3) := by decide +kernel
theorem dX11_offencesOf_16 : decode cX11_offencesOf 16 = .ok (.iload_n 1, 1) := by decide +kernel
theorem dX11_offencesOf_17 : decode cX11_offencesOf 17 = .ok (.invokestatic 155, 3) := by decide +kernel
theorem dX11_offencesOf_20 : decode cX11_offencesOf 20 = .ok (.ireturn, 1) := by decide +kernel
theorem dX11_nextFace_0 : decode cX11_nextFace 0 = .ok (.aload_n 0, 1) := by decide +kernel
theorem dX11_nextFace_1 : decode cX11_nextFace 1 = .ok (.iload_n 1, 1) := by decide +kernel
theorem dX11_nextFace_2 : decode cX11_nextFace 2 = .ok (.invokevirtual 293, 3) := by decide +kernel
theorem dX11_nextFace_5 : decode cX11_nextFace 5 = .ok (.ifCond .eq 7, 3) := by decide +kernel
theorem dX11_nextFace_8 : decode cX11_nextFace 8 = .ok (.iconst 0, 1) := by decide +kernel
theorem dX11_nextFace_9 : decode cX11_nextFace 9 = .ok (.goto 20, 3) := by decide +kernel
theorem dX11_nextFace_12 : decode cX11_nextFace 12 = .ok (.aload_n 0, 1) := by decide +kernel
theorem dX11_nextFace_13 : decode cX11_nextFace 13 = .ok (.getfield 7, 3) := by decide +kernel
theorem dX11_nextFace_16 : decode cX11_nextFace 16 = .ok (.iload_n 1, 1) := by decide +kernel
theorem dX11_nextFace_17 : decode cX11_nextFace 17 = .ok (.aload_n 0, 1) := by decide +kernel
theorem dX11_nextFace_18 : decode cX11_nextFace 18 = .ok (.getfield 7, 3) := by decide +kernel
theorem dX11_nextFace_21 : decode cX11_nextFace 21 = .ok (.iconst 0, 1) := by decide +kernel
theorem dX11_nextFace_22 : decode cX11_nextFace 22 = .ok (.iaload, 1) := by decide +kernel
theorem dX11_nextFace_23 : decode cX11_nextFace 23 = .ok (.invokestatic 88, 3) := by decide +kernel
theorem dX11_nextFace_26 : decode cX11_nextFace 26 = .ok (.invokestatic 91, 3) := by decide +kernel
theorem dX11_nextFace_29 : decode cX11_nextFace 29 = .ok (.ireturn, 1) := by decide +kernel
theorem dX11_faceAfter_0 : decode cX11_faceAfter 0 = .ok (.aload_n 0, 1) := by decide +kernel
theorem dX11_faceAfter_1 : decode cX11_faceAfter 1 = .ok (.iload_n 1, 1) := by decide +kernel
theorem dX11_faceAfter_2 : decode cX11_faceAfter 2 = .ok (.invokevirtual 293, 3) := by decide +kernel
theorem dX11_faceAfter_5 : decode cX11_faceAfter 5 = .ok (.ifCond .ne 15, 3) := by decide +kernel
theorem dX11_faceAfter_8 : decode cX11_faceAfter 8 = .ok (.aload_n 0, 1) := by decide +kernel
theorem dX11_faceAfter_9 : decode cX11_faceAfter 9 = .ok (.iload_n 2, 1) := by decide +kernel
theorem dX11_faceAfter_10 : decode cX11_faceAfter 10 = .ok (.iconst 1, 1) := by decide +kernel
theorem dX11_faceAfter_11 : decode cX11_faceAfter 11 = .ok (.sipush 200, 3) := by decide +kernel
theorem dX11_faceAfter_14 : decode cX11_faceAfter 14 = .ok (.invokevirtual 296, 3) := by decide +kernel
theorem dX11_faceAfter_17 : decode cX11_faceAfter 17 = .ok (.ifCond .eq 5, 3) := by decide +kernel
theorem dX11_faceAfter_20 : decode cX11_faceAfter 20 = .ok (.iconst 0, 1) := by decide +kernel
theorem dX11_faceAfter_21 : decode cX11_faceAfter 21 = .ok (.ireturn, 1) := by decide +kernel
theorem dX11_faceAfter_22 : decode cX11_faceAfter 22 = .ok (.aload_n 0, 1) := by decide +kernel
theorem dX11_faceAfter_23 : decode cX11_faceAfter 23 = .ok (.getfield 7, 3) := by decide +kernel
theorem dX11_faceAfter_26 : decode cX11_faceAfter 26 = .ok (.iconst 0, 1) := by decide +kernel
theorem dX11_faceAfter_27 : decode cX11_faceAfter 27 = .ok (.iaload, 1) := by decide +kernel
theorem dX11_faceAfter_28 : decode cX11_faceAfter 28 = .ok (.istore_n 3, 1) := by decide +kernel
theorem dX11_faceAfter_29 : decode cX11_faceAfter 29 = .ok (.iconst 0, 1) := by decide +kernel
theorem dX11_faceAfter_30 : decode cX11_faceAfter 30 = .ok (.istore 4, 2) := by decide +kernel
theorem dX11_faceAfter_32 : decode cX11_faceAfter 32 = .ok (.iload 4, 2) := by decide +kernel
theorem dX11_faceAfter_34 : decode cX11_faceAfter 34 = .ok (.iload_n 2, 1) := by decide +kernel
theorem dX11_faceAfter_35 : decode cX11_faceAfter 35 = .ok (.if_icmp .ge 14, 3) := by decide +kernel
theorem dX11_faceAfter_38 : decode cX11_faceAfter 38 = .ok (.iload_n 3, 1) := by decide +kernel
theorem dX11_faceAfter_39 : decode cX11_faceAfter 39 = .ok (.invokestatic 88, 3) := by decide +kernel
theorem dX11_faceAfter_42 : decode cX11_faceAfter 42 = .ok (.istore_n 3, 1) := by decide +kernel
theorem dX11_faceAfter_43 : decode cX11_faceAfter 43 = .ok (.iinc 4 1, 3) := by decide +kernel
theorem dX11_faceAfter_46 : decode cX11_faceAfter 46 = .ok (.goto (-14), 3) := by decide +kernel
theorem dX11_faceAfter_49 : decode cX11_faceAfter 49 = .ok (.aload_n 0, 1) := by decide +kernel
theorem dX11_faceAfter_50 : decode cX11_faceAfter 50 = .ok (.getfield 7, 3) := by decide +kernel
theorem dX11_faceAfter_53 : decode cX11_faceAfter 53 = .ok (.iload_n 1, 1) := by decide +kernel
theorem dX11_faceAfter_54 : decode cX11_faceAfter 54 = .ok (.iload_n 3, 1) := by decide +kernel
theorem dX11_faceAfter_55 : decode cX11_faceAfter 55 = .ok (.invokestatic 91, 3) := by decide +kernel
theorem dX11_faceAfter_58 : decode cX11_faceAfter 58 = .ok (.ireturn, 1) := by decide +kernel
theorem dX11_throwsUntil_0 : decode cX11_throwsUntil 0 = .ok (.aload_n 0, 1) := by decide +kernel
theorem dX11_throwsUntil_1 : decode cX11_throwsUntil 1 = .ok (.iload_n 1, 1) := by decide +kernel
theorem dX11_throwsUntil_2 : decode cX11_throwsUntil 2 = .ok (.invokevirtual 293, 3) := by decide +kernel
theorem dX11_throwsUntil_5 : decode cX11_throwsUntil 5 = .ok (.ifCond .ne 20, 3) := by decide +kernel
theorem dX11_throwsUntil_8 : decode cX11_throwsUntil 8 = .ok (.aload_n 0, 1) := by decide +kernel
theorem dX11_throwsUntil_9 : decode cX11_throwsUntil 9 = .ok (.iload_n 2, 1) := by decide +kernel
theorem dX11_throwsUntil_10 : decode cX11_throwsUntil 10 = .ok (.iconst 1, 1) := by decide +kernel
theorem dX11_throwsUntil_11 : decode cX11_throwsUntil 11 = .ok (.aload_n 0, 1) := by decide +kernel
theorem dX11_throwsUntil_12 : decode cX11_throwsUntil 12 = .ok (.getfield 7, 3) := by decide +kernel
theorem dX11_throwsUntil_15 : decode cX11_throwsUntil 15 = .ok (.iload_n 1, 1) := by decide +kernel
theorem dX11_throwsUntil_16 : decode cX11_throwsUntil 16 = .ok (.invokestatic 73, 3) := by decide +kernel
theorem dX11_throwsUntil_19 : decode cX11_throwsUntil 19 = .ok (.invokevirtual 296, 3) := by decide +kernel
theorem dX11_throwsUntil_22 : decode cX11_throwsUntil 22 = .ok (.ifCond .eq 5, 3) := by decide +kernel
theorem dX11_throwsUntil_25 : decode cX11_throwsUntil 25 = .ok (.iconst 0, 1) := by decide +kernel
theorem dX11_throwsUntil_26 : decode cX11_throwsUntil 26 = .ok (.ireturn, 1) := by decide +kernel
theorem dX11_throwsUntil_27 : decode cX11_throwsUntil 27 = .ok (.aload_n 0, 1) := by decide +kernel
theorem dX11_throwsUntil_28 : decode cX11_throwsUntil 28 = .ok (.getfield 7, 3) := by decide +kernel
theorem dX11_throwsUntil_31 : decode cX11_throwsUntil 31 = .ok (.iconst 0, 1) := by decide +kernel
theorem dX11_throwsUntil_32 : decode cX11_throwsUntil 32 = .ok (.iaload, 1) := by decide +kernel
theorem dX11_throwsUntil_33 : decode cX11_throwsUntil 33 = .ok (.istore_n 3, 1) := by decide +kernel
theorem dX11_throwsUntil_34 : decode cX11_throwsUntil 34 = .ok (.iconst 1, 1) := by decide +kernel
theorem dX11_throwsUntil_35 : decode cX11_throwsUntil 35 = .ok (.istore 4, 2) := by decide +kernel
theorem dX11_throwsUntil_37 : decode cX11_throwsUntil 37 = .ok (.iload 4, 2) := by decide +kernel
theorem dX11_throwsUntil_39 : decode cX11_throwsUntil 39 = .ok (.sipush 200, 3) := by decide +kernel
theorem dX11_throwsUntil_42 : decode cX11_throwsUntil 42 = .ok (.if_icmp .gt 30, 3) := by decide +kernel
theorem dX11_throwsUntil_45 : decode cX11_throwsUntil 45 = .ok (.iload_n 3, 1) := by decide +kernel
theorem dX11_throwsUntil_46 : decode cX11_throwsUntil 46 = .ok (.invokestatic 88, 3) := by decide +kernel
theorem dX11_throwsUntil_49 : decode cX11_throwsUntil 49 = .ok (.istore_n 3, 1) := by decide +kernel
theorem dX11_throwsUntil_50 : decode cX11_throwsUntil 50 = .ok (.aload_n 0, 1) := by decide +kernel
theorem dX11_throwsUntil_51 : decode cX11_throwsUntil 51 = .ok (.getfield 7, 3) := by decide +kernel
theorem dX11_throwsUntil_54 : decode cX11_throwsUntil 54 = .ok (.iload_n 1, 1) := by decide +kernel
theorem dX11_throwsUntil_55 : decode cX11_throwsUntil 55 = .ok (.iload_n 3, 1) := by decide +kernel
theorem dX11_throwsUntil_56 : decode cX11_throwsUntil 56 = .ok (.invokestatic 91, 3) := by decide +kernel
theorem dX11_throwsUntil_59 : decode cX11_throwsUntil 59 = .ok (.iload_n 2, 1) := by decide +kernel
theorem dX11_throwsUntil_60 : decode cX11_throwsUntil 60 = .ok (.if_icmp .ne 6, 3) := by decide +kernel
theorem dX11_throwsUntil_63 : decode cX11_throwsUntil 63 = .ok (.iload 4, 2) := by decide +kernel
theorem dX11_throwsUntil_65 : decode cX11_throwsUntil 65 = .ok (.ireturn, 1) := by decide +kernel
theorem dX11_throwsUntil_66 : decode cX11_throwsUntil 66 = .ok (.iinc 4 1, 3) := by decide +kernel
theorem dX11_throwsUntil_69 : decode cX11_throwsUntil 69 = .ok (.goto (-32), 3) := by decide +kernel
theorem dX11_throwsUntil_72 : decode cX11_throwsUntil 72 = .ok (.iconst (-1), 1) := by decide +kernel
theorem dX11_throwsUntil_73 : decode cX11_throwsUntil 73 = .ok (.ireturn, 1) := by decide +kernel
theorem dX11_countThrow_0 : decode cX11_countThrow 0 = .ok (.iload_n 2, 1) := by decide +kernel
theorem dX11_countThrow_1 : decode cX11_countThrow 1 = .ok (.invokestatic 88, 3) := by decide +kernel
theorem dX11_countThrow_4 : decode cX11_countThrow 4 = .ok (.istore_n 3, 1) := by decide +kernel
theorem dX11_countThrow_5 : decode cX11_countThrow 5 = .ok (.aload_n 0, 1) := by decide +kernel
theorem dX11_countThrow_6 : decode cX11_countThrow 6 = .ok (.getfield 26, 3) := by decide +kernel
theorem dX11_countThrow_9 : decode cX11_countThrow 9 = .ok (.aload_n 0, 1) := by decide +kernel
theorem dX11_countThrow_10 : decode cX11_countThrow 10 = .ok (.getfield 7, 3) := by decide +kernel
theorem dX11_countThrow_13 : decode cX11_countThrow 13 = .ok (.iload_n 1, 1) := by decide +kernel
theorem dX11_countThrow_14 : decode cX11_countThrow 14 = .ok (.iload_n 3, 1) := by decide +kernel
theorem dX11_countThrow_15 : decode cX11_countThrow 15 = .ok (.invokestatic 91, 3) := by decide +kernel
theorem dX11_countThrow_18 : decode cX11_countThrow 18 = .ok (.dup2, 1) := by decide +kernel
theorem dX11_countThrow_19 : decode cX11_countThrow 19 = .ok (.iaload, 1) := by decide +kernel
theorem dX11_countThrow_20 : decode cX11_countThrow 20 = .ok (.iconst 1, 1) := by decide +kernel
theorem dX11_countThrow_21 : decode cX11_countThrow 21 = .ok (.iadd, 1) := by decide +kernel
theorem dX11_countThrow_22 : decode cX11_countThrow 22 = .ok (.iastore, 1) := by decide +kernel
theorem dX11_countThrow_23 : decode cX11_countThrow 23 = .ok (.aload_n 0, 1) := by decide +kernel
theorem dX11_countThrow_24 : decode cX11_countThrow 24 = .ok (.dup, 1) := by decide +kernel
theorem dX11_countThrow_25 : decode cX11_countThrow 25 = .ok (.getfield 102, 3) := by decide +kernel
theorem dX11_countThrow_28 : decode cX11_countThrow 28 = .ok (.iconst 1, 1) := by decide +kernel
theorem dX11_countThrow_29 : decode cX11_countThrow 29 = .ok (.iadd, 1) := by decide +kernel
theorem dX11_countThrow_30 : decode cX11_countThrow 30 = .ok (.putfield 102, 3) := by decide +kernel
theorem dX11_countThrow_33 : decode cX11_countThrow 33 = .ok (.iload_n 3, 1) := by decide +kernel
theorem dX11_countThrow_34 : decode cX11_countThrow 34 = .ok (.ireturn, 1) := by decide +kernel
theorem dX11_scoreAfter_0 : decode cX11_scoreAfter 0 = .ok (.aload_n 0, 1) := by decide +kernel
theorem dX11_scoreAfter_1 : decode cX11_scoreAfter 1 = .ok (.iload_n 1, 1) := by decide +kernel
theorem dX11_scoreAfter_2 : decode cX11_scoreAfter 2 = .ok (.iload_n 2, 1) := by decide +kernel
theorem dX11_scoreAfter_3 : decode cX11_scoreAfter 3 = .ok (.invokevirtual 317, 3) := by decide +kernel
theorem dX11_scoreAfter_6 : decode cX11_scoreAfter 6 = .ok (.ifCond .ne 14, 3) := by decide +kernel
theorem dX11_scoreAfter_9 : decode cX11_scoreAfter 9 = .ok (.aload_n 0, 1) := by decide +kernel
theorem dX11_scoreAfter_10 : decode cX11_scoreAfter 10 = .ok (.iload_n 3, 1) := by decide +kernel
theorem dX11_scoreAfter_11 : decode cX11_scoreAfter 11 = .ok (.iconst 0, 1) := by decide +kernel
theorem dX11_scoreAfter_12 : decode cX11_scoreAfter 12 = .ok (.bipush 50, 2) := by decide +kernel
theorem dX11_scoreAfter_14 : decode cX11_scoreAfter 14 = .ok (.invokevirtual 296, 3) := by decide +kernel
theorem dX11_scoreAfter_17 : decode cX11_scoreAfter 17 = .ok (.ifCond .eq 5, 3) := by decide +kernel
theorem dX11_scoreAfter_20 : decode cX11_scoreAfter 20 = .ok (.iconst 0, 1) := by decide +kernel
theorem dX11_scoreAfter_21 : decode cX11_scoreAfter 21 = .ok (.ireturn, 1) := by decide +kernel
theorem dX11_scoreAfter_22 : decode cX11_scoreAfter 22 = .ok (.aload_n 0, 1) := by decide +kernel
theorem dX11_scoreAfter_23 : decode cX11_scoreAfter 23 = .ok (.aload_n 0, 1) := by decide +kernel
theorem dX11_scoreAfter_24 : decode cX11_scoreAfter 24 = .ok (.getfield 7, 3) := by decide +kernel
theorem dX11_scoreAfter_27 : decode cX11_scoreAfter 27 = .ok (.iload_n 1, 1) := by decide +kernel
theorem dX11_scoreAfter_28 : decode cX11_scoreAfter 28 = .ok (.iload_n 2, 1) := by decide +kernel
theorem dX11_scoreAfter_29 : decode cX11_scoreAfter 29 = .ok (.invokevirtual 105, 3) := by decide +kernel
theorem dX11_scoreAfter_32 : decode cX11_scoreAfter 32 = .ok (.aload_n 0, 1) := by decide +kernel
theorem dX11_scoreAfter_33 : decode cX11_scoreAfter 33 = .ok (.getfield 7, 3) := by decide +kernel
theorem dX11_scoreAfter_36 : decode cX11_scoreAfter 36 = .ok (.iconst 0, 1) := by decide +kernel
theorem dX11_scoreAfter_37 : decode cX11_scoreAfter 37 = .ok (.iaload, 1) := by decide +kernel
theorem dX11_scoreAfter_38 : decode cX11_scoreAfter 38 = .ok (.istore 4, 2) := by decide +kernel
theorem dX11_scoreAfter_40 : decode cX11_scoreAfter 40 = .ok (.iconst 0, 1) := by decide +kernel
theorem dX11_scoreAfter_41 : decode cX11_scoreAfter 41 = .ok (.istore 5, 2) := by decide +kernel
theorem dX11_scoreAfter_43 : decode cX11_scoreAfter 43 = .ok (.iload 5, 2) := by decide +kernel
theorem dX11_scoreAfter_45 : decode cX11_scoreAfter 45 = .ok (.iload_n 3, 1) := by decide +kernel
theorem dX11_scoreAfter_46 : decode cX11_scoreAfter 46 = .ok (.if_icmp .ge 18, 3) := by decide +kernel
theorem dX11_scoreAfter_49 : decode cX11_scoreAfter 49 = .ok (.aload_n 0, 1) := by decide +kernel
theorem dX11_scoreAfter_50 : decode cX11_scoreAfter 50 = .ok (.iload_n 2, 1) := by decide +kernel
theorem dX11_scoreAfter_51 : decode cX11_scoreAfter 51 = .ok (.iload 4, 2) := by decide +kernel
theorem dX11_scoreAfter_53 : decode cX11_scoreAfter 53 = .ok (.invokevirtual 330, 3) := by decide +kernel
theorem dX11_scoreAfter_56 : decode cX11_scoreAfter 56 = .ok (.istore 4, 2) := by decide +kernel
theorem dX11_scoreAfter_58 : decode cX11_scoreAfter 58 = .ok (.iinc 5 1, 3) := by decide +kernel
theorem dX11_scoreAfter_61 : decode cX11_scoreAfter 61 = .ok (.goto (-18), 3) := by decide +kernel
theorem dX11_scoreAfter_64 : decode cX11_scoreAfter 64 = .ok (.aload_n 0, 1) := by decide +kernel
theorem dX11_scoreAfter_65 : decode cX11_scoreAfter 65 = .ok (.aload_n 0, 1) := by decide +kernel
theorem dX11_scoreAfter_66 : decode cX11_scoreAfter 66 = .ok (.getfield 7, 3) := by decide +kernel
theorem dX11_scoreAfter_69 : decode cX11_scoreAfter 69 = .ok (.iload_n 2, 1) := by decide +kernel
theorem dX11_scoreAfter_70 : decode cX11_scoreAfter 70 = .ok (.invokestatic 73, 3) := by decide +kernel
theorem dX11_scoreAfter_73 : decode cX11_scoreAfter 73 = .ok (.invokevirtual 109, 3) := by decide +kernel
theorem dX11_scoreAfter_76 : decode cX11_scoreAfter 76 = .ok (.ireturn, 1) := by decide +kernel
theorem dX11_throwsUntilSuspicious_0 : decode cX11_throwsUntilSuspicious 0 = .ok (.aload_n 0, 1) := by decide +kernel
theorem dX11_throwsUntilSuspicious_1 : decode cX11_throwsUntilSuspicious 1 = .ok (.iload_n 1, 1) := by decide +kernel
theorem dX11_throwsUntilSuspicious_2 : decode cX11_throwsUntilSuspicious 2 = .ok (.iload_n 2, 1) := by decide +kernel
theorem dX11_throwsUntilSuspicious_3 : decode cX11_throwsUntilSuspicious 3 = .ok (.invokevirtual 317, 3) := by decide +kernel
theorem dX11_throwsUntilSuspicious_6 : decode cX11_throwsUntilSuspicious 6 = .ok (.ifCond .eq 5, 3) := by decide +kernel
theorem dX11_throwsUntilSuspicious_9 : decode cX11_throwsUntilSuspicious 9 = .ok (.iconst 0, 1) := by decide +kernel
theorem dX11_throwsUntilSuspicious_10 : decode cX11_throwsUntilSuspicious 10 = .ok (.ireturn, 1) := by decide +kernel
theorem dX11_throwsUntilSuspicious_11 : decode cX11_throwsUntilSuspicious 11 = .ok (.aload_n 0, 1) := by decide +kernel
theorem dX11_throwsUntilSuspicious_12 : decode cX11_throwsUntilSuspicious 12 = .ok (.aload_n 0, 1) := by decide +kernel
theorem dX11_throwsUntilSuspicious_13 : decode cX11_throwsUntilSuspicious 13 = .ok (.getfield 7, 3) := by decide +kernel
theorem dX11_throwsUntilSuspicious_16 : decode cX11_throwsUntilSuspicious 16 = .ok (.iload_n 1, 1) := by decide +kernel
theorem dX11_throwsUntilSuspicious_17 : decode cX11_throwsUntilSuspicious 17 = .ok (.iload_n 2, 1) := by decide +kernel
theorem dX11_throwsUntilSuspicious_18 : decode cX11_throwsUntilSuspicious 18 = .ok (.invokevirtual 105, 3) := by decide +kernel
theorem dX11_throwsUntilSuspicious_21 : decode cX11_throwsUntilSuspicious 21 = .ok (.aload_n 0, 1) := by decide +kernel
theorem dX11_throwsUntilSuspicious_22 : decode cX11_throwsUntilSuspicious 22 = .ok (.getfield 7, 3) := by decide +kernel
theorem dX11_throwsUntilSuspicious_25 : decode cX11_throwsUntilSuspicious 25 = .ok (.iconst 0, 1) := by decide +kernel
theorem dX11_throwsUntilSuspicious_26 : decode cX11_throwsUntilSuspicious 26 = .ok (.iaload, 1) := by decide +kernel
theorem dX11_throwsUntilSuspicious_27 : decode cX11_throwsUntilSuspicious 27 = .ok (.istore_n 3, 1) := by decide +kernel
theorem dX11_throwsUntilSuspicious_28 : decode cX11_throwsUntilSuspicious 28 = .ok (.iconst 0, 1) := by decide +kernel
theorem dX11_throwsUntilSuspicious_29 : decode cX11_throwsUntilSuspicious 29 = .ok (.istore 4, 2) := by decide +kernel
theorem dX11_throwsUntilSuspicious_31 : decode cX11_throwsUntilSuspicious 31 = .ok (.iload 4, 2) := by decide +kernel
theorem dX11_throwsUntilSuspicious_33 : decode cX11_throwsUntilSuspicious 33 = .ok (.bipush 50, 2) := by decide +kernel
theorem dX11_throwsUntilSuspicious_35 : decode cX11_throwsUntilSuspicious 35 = .ok (.if_icmp .gt 38, 3) := by decide +kernel
theorem dX11_throwsUntilSuspicious_38 : decode cX11_throwsUntilSuspicious 38 = .ok (.aload_n 0, 1) := by decide +kernel
theorem dX11_throwsUntilSuspicious_39 : decode cX11_throwsUntilSuspicious 39 = .ok (.aload_n 0, 1) := by decide +kernel
theorem dX11_throwsUntilSuspicious_40 : decode cX11_throwsUntilSuspicious 40 = .ok (.getfield 7, 3) := by decide +kernel
theorem dX11_throwsUntilSuspicious_43 : decode cX11_throwsUntilSuspicious 43 = .ok (.aload_n 0, 1) := by decide +kernel
theorem dX11_throwsUntilSuspicious_44 : decode cX11_throwsUntilSuspicious 44 = .ok (.getfield 7, 3) := by decide +kernel
theorem dX11_throwsUntilSuspicious_47 : decode cX11_throwsUntilSuspicious 47 = .ok (.iload_n 2, 1) := by decide +kernel
theorem dX11_throwsUntilSuspicious_48 : decode cX11_throwsUntilSuspicious 48 = .ok (.invokestatic 73, 3) := by decide +kernel
theorem dX11_throwsUntilSuspicious_51 : decode cX11_throwsUntilSuspicious 51 = .ok (.invokevirtual 112, 3) := by decide +kernel
theorem dX11_throwsUntilSuspicious_54 : decode cX11_throwsUntilSuspicious 54 = .ok (.ifCond .eq 6, 3) := by decide +kernel
theorem dX11_throwsUntilSuspicious_57 : decode cX11_throwsUntilSuspicious 57 = .ok (.iload 4, 2) := by decide +kernel
theorem dX11_throwsUntilSuspicious_59 : decode cX11_throwsUntilSuspicious 59 = .ok (.ireturn, 1) := by decide +kernel
theorem dX11_throwsUntilSuspicious_60 : decode cX11_throwsUntilSuspicious 60 = .ok (.aload_n 0, 1) := by decide +kernel
theorem dX11_throwsUntilSuspicious_61 : decode cX11_throwsUntilSuspicious 61 = .ok (.iload_n 2, 1) := by decide +kernel
theorem dX11_throwsUntilSuspicious_62 : decode cX11_throwsUntilSuspicious 62 = .ok (.iload_n 3, 1) := by decide +kernel
theorem dX11_throwsUntilSuspicious_63 : decode cX11_throwsUntilSuspicious 63 = .ok (.invokevirtual 330, 3) := by decide +kernel
theorem dX11_throwsUntilSuspicious_66 : decode cX11_throwsUntilSuspicious 66 = .ok (.istore_n 3, 1) := by decide +kernel
theorem dX11_throwsUntilSuspicious_67 : decode cX11_throwsUntilSuspicious 67 = .ok (.iinc 4 1, 3) := by decide +kernel
theorem dX11_throwsUntilSuspicious_70 : decode cX11_throwsUntilSuspicious 70 = .ok (.goto (-39), 3) := by decide +kernel
theorem dX11_throwsUntilSuspicious_73 : decode cX11_throwsUntilSuspicious 73 = .ok (.iconst (-1), 1) := by decide +kernel
theorem dX11_throwsUntilSuspicious_74 : decode cX11_throwsUntilSuspicious 74 = .ok (.ireturn, 1) := by decide +kernel
theorem dX11_penanceNow_0 : decode cX11_penanceNow 0 = .ok (.aload_n 0, 1) := by decide +kernel
theorem dX11_penanceNow_1 : decode cX11_penanceNow 1 = .ok (.iconst 0, 1) := by decide +kernel
theorem dX11_penanceNow_2 : decode cX11_penanceNow 2 = .ok (.putfield 66, 3) := by decide +kernel
theorem dX11_penanceNow_5 : decode cX11_penanceNow 5 = .ok (.aload_n 0, 1) := by decide +kernel
theorem dX11_penanceNow_6 : decode cX11_penanceNow 6 = .ok (.getfield 7, 3) := by decide +kernel
theorem dX11_penanceNow_9 : decode cX11_penanceNow 9 = .ok (.invokestatic 140, 3) := by decide +kernel
theorem dX11_penanceNow_12 : decode cX11_penanceNow 12 = .ok (.ireturn, 1) := by decide +kernel
theorem dX11_frequencyDifference_0 : decode cX11_frequencyDifference 0 = .ok (.aload_n 0, 1) := by decide +kernel
theorem dX11_frequencyDifference_1 : decode cX11_frequencyDifference 1 = .ok (.iconst 0, 1) := by decide +kernel
theorem dX11_frequencyDifference_2 : decode cX11_frequencyDifference 2 = .ok (.putfield 66, 3) := by decide +kernel
theorem dX11_frequencyDifference_5 : decode cX11_frequencyDifference 5 = .ok (.aload_n 0, 1) := by decide +kernel
theorem dX11_frequencyDifference_6 : decode cX11_frequencyDifference 6 = .ok (.getfield 7, 3) := by decide +kernel
theorem dX11_frequencyDifference_9 : decode cX11_frequencyDifference 9 = .ok (.iconst 5, 1) := by decide +kernel
theorem dX11_frequencyDifference_10 : decode cX11_frequencyDifference 10 = .ok (.iaload, 1) := by decide +kernel
theorem dX11_frequencyDifference_11 : decode cX11_frequencyDifference 11 = .ok (.ineg, 1) := by decide +kernel
theorem dX11_frequencyDifference_12 : decode cX11_frequencyDifference 12 = .ok (.istore_n 1, 1) := by decide +kernel
theorem dX11_frequencyDifference_13 : decode cX11_frequencyDifference 13 = .ok (.iconst 0, 1) := by decide +kernel
theorem dX11_frequencyDifference_14 : decode cX11_frequencyDifference 14 = .ok (.istore_n 2, 1) := by decide +kernel
theorem dX11_frequencyDifference_15 : decode cX11_frequencyDifference 15 = .ok (.iload_n 2, 1) := by decide +kernel
theorem dX11_frequencyDifference_16 : decode cX11_frequencyDifference 16 = .ok (.aload_n 0, 1) := by decide +kernel
theorem dX11_frequencyDifference_17 : decode cX11_frequencyDifference 17 = .ok (.getfield 7, 3) := by decide +kernel
theorem dX11_frequencyDifference_20 : decode cX11_frequencyDifference 20 = .ok (.iconst 4, 1) := by decide +kernel
theorem dX11_frequencyDifference_21 : decode cX11_frequencyDifference 21 = .ok (.iaload, 1) := by decide +kernel
theorem dX11_frequencyDifference_22 : decode cX11_frequencyDifference 22 = .ok (.if_icmp .ge 63, 3) := by decide +kernel
theorem dX11_frequencyDifference_25 : decode cX11_frequencyDifference 25 = .ok (.iconst 0, 1) := by decide +kernel
theorem dX11_frequencyDifference_26 : decode cX11_frequencyDifference 26 = .ok (.istore_n 3, 1) := by decide +kernel
theorem dX11_frequencyDifference_27 : decode cX11_frequencyDifference 27 = .ok (.iload_n 3, 1) := by decide +kernel
theorem dX11_frequencyDifference_28 : decode cX11_frequencyDifference 28 = .ok (.aload_n 0, 1) := by decide +kernel
theorem dX11_frequencyDifference_29 : decode cX11_frequencyDifference 29 = .ok (.getfield 7, 3) := by decide +kernel
theorem dX11_frequencyDifference_32 : decode cX11_frequencyDifference 32 = .ok (.iconst 3, 1) := by decide +kernel
theorem dX11_frequencyDifference_33 : decode cX11_frequencyDifference 33 = .ok (.iaload, 1) := by decide +kernel
theorem dX11_frequencyDifference_34 : decode cX11_frequencyDifference 34 = .ok (.if_icmp .ge 45, 3) := by decide +kernel
theorem dX11_frequencyDifference_37 : decode cX11_frequencyDifference 37 = .ok (.aload_n 0, 1) := by decide +kernel
theorem dX11_frequencyDifference_38 : decode cX11_frequencyDifference 38 = .ok (.aload_n 0, 1) := by decide +kernel
theorem dX11_frequencyDifference_39 : decode cX11_frequencyDifference 39 = .ok (.getfield 7, 3) := by decide +kernel
theorem dX11_frequencyDifference_42 : decode cX11_frequencyDifference 42 = .ok (.iload_n 2, 1) := by decide +kernel
theorem dX11_frequencyDifference_43 : decode cX11_frequencyDifference 43 = .ok (.iload_n 3, 1) := by decide +kernel
theorem dX11_frequencyDifference_44 : decode cX11_frequencyDifference 44 = .ok (.invokevirtual 105, 3) := by decide +kernel
theorem dX11_frequencyDifference_47 : decode cX11_frequencyDifference 47 = .ok (.iconst 1, 1) := by decide +kernel
theorem dX11_frequencyDifference_48 : decode cX11_frequencyDifference 48 = .ok (.istore 4, 2) := by decide +kernel
theorem dX11_frequencyDifference_50 : decode cX11_frequencyDifference 50 = .ok (.iload 4, 2) := by decide +kernel
theorem dX11_frequencyDifference_52 : decode cX11_frequencyDifference 52 = .ok (.bipush 12, 2) := by decide +kernel
theorem dX11_frequencyDifference_54 : decode cX11_frequencyDifference 54 = .ok (.if_icmp .gt 19, 3) := by decide +kernel
theorem dX11_frequencyDifference_57 : decode cX11_frequencyDifference 57 = .ok (.iload_n 1, 1) := by decide +kernel
theorem dX11_frequencyDifference_58 : decode cX11_frequencyDifference 58 = .ok (.aload_n 0, 1) := by decide +kernel
theorem dX11_frequencyDifference_59 : decode cX11_frequencyDifference 59 = .ok (.getfield 26, 3) := by decide +kernel
theorem dX11_frequencyDifference_62 : decode cX11_frequencyDifference 62 = .ok (.iload 4, 2) := by decide +kernel
theorem dX11_frequencyDifference_64 : decode cX11_frequencyDifference 64 = .ok (.iaload, 1) := by decide +kernel
theorem dX11_frequencyDifference_65 : decode cX11_frequencyDifference 65 = .ok (.iadd, 1) := by decide +kernel
theorem dX11_frequencyDifference_66 : decode cX11_frequencyDifference 66 = .ok (.istore_n 1, 1) := by decide +kernel
theorem dX11_frequencyDifference_67 : decode cX11_frequencyDifference 67 = .ok (.iinc 4 1, 3) := by decide +kernel
theorem dX11_frequencyDifference_70 : decode cX11_frequencyDifference 70 = .ok (.goto (-20), 3) := by decide +kernel
theorem dX11_frequencyDifference_73 : decode cX11_frequencyDifference 73 = .ok (.iinc 3 1, 3) := by decide +kernel
theorem dX11_frequencyDifference_76 : decode cX11_frequencyDifference 76 = .ok (.goto (-49), 3) := by decide +kernel
theorem dX11_frequencyDifference_79 : decode cX11_frequencyDifference 79 = .ok (.iinc 2 1, 3) := by decide +kernel
theorem dX11_frequencyDifference_82 : decode cX11_frequencyDifference 82 = .ok (.goto (-67), 3) := by decide +kernel
theorem dX11_frequencyDifference_85 : decode cX11_frequencyDifference 85 = .ok (.iload_n 1, 1) := by decide +kernel
theorem dX11_frequencyDifference_86 : decode cX11_frequencyDifference 86 = .ok (.ireturn, 1) := by decide +kernel
theorem dX11_totalDifference_0 : decode cX11_totalDifference 0 = .ok (.aload_n 0, 1) := by decide +kernel
theorem dX11_totalDifference_1 : decode cX11_totalDifference 1 = .ok (.iconst 0, 1) := by decide +kernel
theorem dX11_totalDifference_2 : decode cX11_totalDifference 2 = .ok (.putfield 66, 3) := by decide +kernel
theorem dX11_totalDifference_5 : decode cX11_totalDifference 5 = .ok (.iconst 0, 1) := by decide +kernel
theorem dX11_totalDifference_6 : decode cX11_totalDifference 6 = .ok (.istore_n 1, 1) := by decide +kernel
theorem dX11_totalDifference_7 : decode cX11_totalDifference 7 = .ok (.iconst 0, 1) := by decide +kernel
theorem dX11_totalDifference_8 : decode cX11_totalDifference 8 = .ok (.istore_n 2, 1) := by decide +kernel
theorem dX11_totalDifference_9 : decode cX11_totalDifference 9 = .ok (.iload_n 2, 1) := by decide +kernel
theorem dX11_totalDifference_10 : decode cX11_totalDifference 10 = .ok (.aload_n 0, 1) := by decide +kernel
theorem dX11_totalDifference_11 : decode cX11_totalDifference 11 = .ok (.getfield 7, 3) := by decide +kernel
theorem dX11_totalDifference_14 : decode cX11_totalDifference 14 = .ok (.iconst 4, 1) := by decide +kernel
theorem dX11_totalDifference_15 : decode cX11_totalDifference 15 = .ok (.iaload, 1) := by decide +kernel
theorem dX11_totalDifference_16 : decode cX11_totalDifference 16 = .ok (.if_icmp .ge 20, 3) := by decide +kernel
theorem dX11_totalDifference_19 : decode cX11_totalDifference 19 = .ok (.iload_n 1, 1) := by decide +kernel
theorem dX11_totalDifference_20 : decode cX11_totalDifference 20 = .ok (.aload_n 0, 1) := by decide +kernel
theorem dX11_totalDifference_21 : decode cX11_totalDifference 21 = .ok (.getfield 7, 3) := by decide +kernel
theorem dX11_totalDifference_24 : decode cX11_totalDifference 24 = .ok (.iload_n 2, 1) := by decide +kernel
theorem dX11_totalDifference_25 : decode cX11_totalDifference 25 = .ok (.invokestatic 158, 3) := by decide +kernel
theorem dX11_totalDifference_28 : decode cX11_totalDifference 28 = .ok (.iadd, 1) := by decide +kernel
theorem dX11_totalDifference_29 : decode cX11_totalDifference 29 = .ok (.istore_n 1, 1) := by decide +kernel
theorem dX11_totalDifference_30 : decode cX11_totalDifference 30 = .ok (.iinc 2 1, 3) := by decide +kernel
theorem dX11_totalDifference_33 : decode cX11_totalDifference 33 = .ok (.goto (-24), 3) := by decide +kernel
theorem dX11_totalDifference_36 : decode cX11_totalDifference 36 = .ok (.iconst 0, 1) := by decide +kernel
theorem dX11_totalDifference_37 : decode cX11_totalDifference 37 = .ok (.istore_n 2, 1) := by decide +kernel
theorem dX11_totalDifference_38 : decode cX11_totalDifference 38 = .ok (.iload_n 2, 1) := by decide +kernel
theorem dX11_totalDifference_39 : decode cX11_totalDifference 39 = .ok (.aload_n 0, 1) := by decide +kernel
theorem dX11_totalDifference_40 : decode cX11_totalDifference 40 = .ok (.getfield 7, 3) := by decide +kernel
theorem dX11_totalDifference_43 : decode cX11_totalDifference 43 = .ok (.iconst 5, 1) := by decide +kernel
theorem dX11_totalDifference_44 : decode cX11_totalDifference 44 = .ok (.iaload, 1) := by decide +kernel
theorem dX11_totalDifference_45 : decode cX11_totalDifference 45 = .ok (.if_icmp .ge 23, 3) := by decide +kernel
theorem dX11_totalDifference_48 : decode cX11_totalDifference 48 = .ok (.iload_n 1, 1) := by decide +kernel
theorem dX11_totalDifference_49 : decode cX11_totalDifference 49 = .ok (.aload_n 0, 1) := by decide +kernel
theorem dX11_totalDifference_50 : decode cX11_totalDifference 50 = .ok (.getfield 7, 3) := by decide +kernel
theorem dX11_totalDifference_53 : decode cX11_totalDifference 53 = .ok (.iload_n 2, 1) := by decide +kernel
theorem dX11_totalDifference_54 : decode cX11_totalDifference 54 = .ok (.invokestatic 85, 3) := by decide +kernel
theorem dX11_totalDifference_57 : decode cX11_totalDifference 57 = .ok (.iconst 2, 1) := by decide +kernel
theorem dX11_totalDifference_58 : decode cX11_totalDifference 58 = .ok (.iadd, 1) := by decide +kernel
theorem dX11_totalDifference_59 : decode cX11_totalDifference 59 = .ok (.iaload, 1) := by decide +kernel
theorem dX11_totalDifference_60 : decode cX11_totalDifference 60 = .ok (.isub, 1) := by decide +kernel
theorem dX11_totalDifference_61 : decode cX11_totalDifference 61 = .ok (.istore_n 1, 1) := by decide +kernel
theorem dX11_totalDifference_62 : decode cX11_totalDifference 62 = .ok (.iinc 2 1, 3) := by decide +kernel
theorem dX11_totalDifference_65 : decode cX11_totalDifference 65 = .ok (.goto (-27), 3) := by decide +kernel
theorem dX11_totalDifference_68 : decode cX11_totalDifference 68 = .ok (.iload_n 1, 1) := by decide +kernel
theorem dX11_totalDifference_69 : decode cX11_totalDifference 69 = .ok (.ireturn, 1) := by decide +kernel
theorem dX11_fairShare_0 : decode cX11_fairShare 0 = .ok (.aload_n 0, 1) := by decide +kernel
theorem dX11_fairShare_1 : decode cX11_fairShare 1 = .ok (.iconst 0, 1) := by decide +kernel
theorem dX11_fairShare_2 : decode cX11_fairShare 2 = .ok (.putfield 66, 3) := by decide +kernel
theorem dX11_fairShare_5 : decode cX11_fairShare 5 = .ok (.iconst 0, 1) := by decide +kernel
theorem dX11_fairShare_6 : decode cX11_fairShare 6 = .ok (.istore_n 1, 1) := by decide +kernel
theorem dX11_fairShare_7 : decode cX11_fairShare 7 = .ok (.iconst 0, 1) := by decide +kernel
theorem dX11_fairShare_8 : decode cX11_fairShare 8 = .ok (.istore_n 2, 1) := by decide +kernel
theorem dX11_fairShare_9 : decode cX11_fairShare 9 = .ok (.iload_n 2, 1) := by decide +kernel
theorem dX11_fairShare_10 : decode cX11_fairShare 10 = .ok (.aload_n 0, 1) := by decide +kernel
theorem dX11_fairShare_11 : decode cX11_fairShare 11 = .ok (.getfield 7, 3) := by decide +kernel
theorem dX11_fairShare_14 : decode cX11_fairShare 14 = .ok (.iconst 5, 1) := by decide +kernel
theorem dX11_fairShare_15 : decode cX11_fairShare 15 = .ok (.iaload, 1) := by decide +kernel
theorem dX11_fairShare_16 : decode cX11_fairShare 16 = .ok (.if_icmp .ge 23, 3) := by decide +kernel
theorem dX11_fairShare_19 : decode cX11_fairShare 19 = .ok (.iload_n 1, 1) := by decide +kernel
theorem dX11_fairShare_20 : decode cX11_fairShare 20 = .ok (.aload_n 0, 1) := by decide +kernel
theorem dX11_fairShare_21 : decode cX11_fairShare 21 = .ok (.getfield 7, 3) := by decide +kernel
theorem dX11_fairShare_24 : decode cX11_fairShare 24 = .ok (.iload_n 2, 1) := by decide +kernel
theorem dX11_fairShare_25 : decode cX11_fairShare 25 = .ok (.invokestatic 85, 3) := by decide +kernel
theorem dX11_fairShare_28 : decode cX11_fairShare 28 = .ok (.iconst 3, 1) := by decide +kernel
theorem dX11_fairShare_29 : decode cX11_fairShare 29 = .ok (.iadd, 1) := by decide +kernel
theorem dX11_fairShare_30 : decode cX11_fairShare 30 = .ok (.iaload, 1) := by decide +kernel
theorem dX11_fairShare_31 : decode cX11_fairShare 31 = .ok (.iadd, 1) := by decide +kernel
theorem dX11_fairShare_32 : decode cX11_fairShare 32 = .ok (.istore_n 1, 1) := by decide +kernel
theorem dX11_fairShare_33 : decode cX11_fairShare 33 = .ok (.iinc 2 1, 3) := by decide +kernel
theorem dX11_fairShare_36 : decode cX11_fairShare 36 = .ok (.goto (-27), 3) := by decide +kernel
theorem dX11_fairShare_39 : decode cX11_fairShare 39 = .ok (.aload_n 0, 1) := by decide +kernel
theorem dX11_fairShare_40 : decode cX11_fairShare 40 = .ok (.getfield 7, 3) := by decide +kernel
theorem dX11_fairShare_43 : decode cX11_fairShare 43 = .ok (.iconst 5, 1) := by decide +kernel
theorem dX11_fairShare_44 : decode cX11_fairShare 44 = .ok (.iaload, 1) := by decide +kernel
theorem dX11_fairShare_45 : decode cX11_fairShare 45 = .ok (.ifCond .ne 7, 3) := by decide +kernel
theorem dX11_fairShare_48 : decode cX11_fairShare 48 = .ok (.fconst 0, 1) := by decide +kernel
theorem dX11_fairShare_49 : decode cX11_fairShare 49 = .ok (.goto 13, 3) := by decide +kernel
theorem dX11_fairShare_52 : decode cX11_fairShare 52 = .ok (.iload_n 1, 1) := by decide +kernel
theorem dX11_fairShare_53 : decode cX11_fairShare 53 = .ok (.i2f, 1) := by decide +kernel
theorem dX11_fairShare_54 : decode cX11_fairShare 54 = .ok (.aload_n 0, 1) := by decide +kernel
theorem dX11_fairShare_55 : decode cX11_fairShare 55 = .ok (.getfield 7, 3) := by decide +kernel
theorem dX11_fairShare_58 : decode cX11_fairShare 58 = .ok (.iconst 5, 1) := by decide +kernel
theorem dX11_fairShare_59 : decode cX11_fairShare 59 = .ok (.iaload, 1) := by decide +kernel
theorem dX11_fairShare_60 : decode cX11_fairShare 60 = .ok (.i2f, 1) := by decide +kernel
theorem dX11_fairShare_61 : decode cX11_fairShare 61 = .ok (.fdiv, 1) := by decide +kernel
theorem dX11_fairShare_62 : decode cX11_fairShare 62 = .ok (.freturn, 1) := by decide +kernel
theorem dX11_throwDie_0 : decode cX11_throwDie 0 = .ok (.aload_n 0, 1) := by decide +kernel
theorem dX11_throwDie_1 : decode cX11_throwDie 1 = .ok (.iload_n 1, 1) := by decide +kernel
theorem dX11_throwDie_2 : decode cX11_throwDie 2 = .ok (.iload_n 2, 1) := by decide +kernel
theorem dX11_throwDie_3 : decode cX11_throwDie 3 = .ok (.invokevirtual 317, 3) := by decide +kernel
theorem dX11_throwDie_6 : decode cX11_throwDie 6 = .ok (.ifCond .ne 41, 3) := by decide +kernel
theorem dX11_throwDie_9 : decode cX11_throwDie 9 = .ok (.aload_n 0, 1) := by decide +kernel
theorem dX11_throwDie_10 : decode cX11_throwDie 10 = .ok (.iload_n 3, 1) := by decide +kernel
theorem dX11_throwDie_11 : decode cX11_throwDie 11 = .ok (.iconst 1, 1) := by decide +kernel
theorem dX11_throwDie_12 : decode cX11_throwDie 12 = .ok (.bipush 50, 2) := by decide +kernel
theorem dX11_throwDie_14 : decode cX11_throwDie 14 = .ok (.invokevirtual 296, 3) := by decide +kernel
theorem dX11_throwDie_17 : decode cX11_throwDie 17 = .ok (.ifCond .ne 30, 3) := by decide +kernel
theorem dX11_throwDie_20 : decode cX11_throwDie 20 = .ok (.aload_n 0, 1) := by decide +kernel
theorem dX11_throwDie_21 : decode cX11_throwDie 21 = .ok (.aload_n 0, 1) := by decide +kernel
theorem dX11_throwDie_22 : decode cX11_throwDie 22 = .ok (.getfield 7, 3) := by decide +kernel
theorem dX11_throwDie_25 : decode cX11_throwDie 25 = .ok (.iconst 5, 1) := by decide +kernel
theorem dX11_throwDie_26 : decode cX11_throwDie 26 = .ok (.iaload, 1) := by decide +kernel
theorem dX11_throwDie_27 : decode cX11_throwDie 27 = .ok (.iload_n 3, 1) := by decide +kernel
theorem dX11_throwDie_28 : decode cX11_throwDie 28 = .ok (.iadd, 1) := by decide +kernel
theorem dX11_throwDie_29 : decode cX11_throwDie 29 = .ok (.sipush 300, 3) := by decide +kernel
theorem dX11_throwDie_32 : decode cX11_throwDie 32 = .ok (.if_icmp .le 7, 3) := by decide +kernel
theorem dX11_throwDie_35 : decode cX11_throwDie 35 = .ok (.iconst 1, 1) := by decide +kernel
theorem dX11_throwDie_36 : decode cX11_throwDie 36 = .ok (.goto 4, 3) := by decide +kernel
theorem dX11_throwDie_39 : decode cX11_throwDie 39 = .ok (.iconst 0, 1) := by decide +kernel
theorem dX11_throwDie_40 : decode cX11_throwDie 40 = .ok (.iconst 3, 1) := by decide +kernel
theorem dX11_throwDie_41 : decode cX11_throwDie 41 = .ok (.invokevirtual 161, 3) := by decide +kernel
theorem dX11_throwDie_44 : decode cX11_throwDie 44 = .ok (.ifCond .eq 5, 3) := by decide +kernel
theorem dX11_throwDie_47 : decode cX11_throwDie 47 = .ok (.iconst 0, 1) := by decide +kernel
theorem dX11_throwDie_48 : decode cX11_throwDie 48 = .ok (.ireturn, 1) := by decide +kernel
theorem dX11_throwDie_49 : decode cX11_throwDie 49 = .ok (.aload_n 0, 1) := by decide +kernel
theorem dX11_throwDie_50 : decode cX11_throwDie 50 = .ok (.invokevirtual 281, 3) := by decide +kernel
theorem dX11_throwDie_53 : decode cX11_throwDie 53 = .ok (.aload_n 0, 1) := by decide +kernel
theorem dX11_throwDie_54 : decode cX11_throwDie 54 = .ok (.getfield 7, 3) := by decide +kernel
theorem dX11_throwDie_57 : decode cX11_throwDie 57 = .ok (.iload_n 1, 1) := by decide +kernel
theorem dX11_throwDie_58 : decode cX11_throwDie 58 = .ok (.iload_n 2, 1) := by decide +kernel
theorem dX11_throwDie_59 : decode cX11_throwDie 59 = .ok (.iload_n 3, 1) := by decide +kernel
theorem dX11_throwDie_60 : decode cX11_throwDie 60 = .ok (.iconst 0, 1) := by decide +kernel
theorem dX11_throwDie_61 : decode cX11_throwDie 61 = .ok (.invokestatic 151, 3) := by decide +kernel
theorem dX11_throwDie_64 : decode cX11_throwDie 64 = .ok (.ireturn, 1) := by decide +kernel
theorem dX11_audit_0 : decode cX11_audit 0 = .ok (.aload_n 0, 1) := by decide +kernel
theorem dX11_audit_1 : decode cX11_audit 1 = .ok (.iconst 0, 1) := by decide +kernel
theorem dX11_audit_2 : decode cX11_audit 2 = .ok (.putfield 66, 3) := by decide +kernel
theorem dX11_audit_5 : decode cX11_audit 5 = .ok (.aload_n 0, 1) := by decide +kernel
theorem dX11_audit_6 : decode cX11_audit 6 = .ok (.invokevirtual 281, 3) := by decide +kernel
theorem dX11_audit_9 : decode cX11_audit 9 = .ok (.aload_n 0, 1) := by decide +kernel
theorem dX11_audit_10 : decode cX11_audit 10 = .ok (.aload_n 0, 1) := by decide +kernel
theorem dX11_audit_11 : decode cX11_audit 11 = .ok (.getfield 7, 3) := by decide +kernel
theorem dX11_audit_14 : decode cX11_audit 14 = .ok (.invokevirtual 233, 3) := by decide +kernel
theorem dX11_audit_17 : decode cX11_audit 17 = .ok (.ireturn, 1) := by decide +kernel
theorem dX11_absolve_0 : decode cX11_absolve 0 = .ok (.aload_n 0, 1) := by decide +kernel
theorem dX11_absolve_1 : decode cX11_absolve 1 = .ok (.iconst 0, 1) := by decide +kernel
theorem dX11_absolve_2 : decode cX11_absolve 2 = .ok (.putfield 66, 3) := by decide +kernel
theorem dX11_absolve_5 : decode cX11_absolve 5 = .ok (.aload_n 0, 1) := by decide +kernel
theorem dX11_absolve_6 : decode cX11_absolve 6 = .ok (.aload_n 0, 1) := by decide +kernel
theorem dX11_absolve_7 : decode cX11_absolve 7 = .ok (.getfield 7, 3) := by decide +kernel
theorem dX11_absolve_10 : decode cX11_absolve 10 = .ok (.bipush 6, 2) := by decide +kernel
theorem dX11_absolve_12 : decode cX11_absolve 12 = .ok (.iaload, 1) := by decide +kernel
theorem dX11_absolve_13 : decode cX11_absolve 13 = .ok (.ifCond .ne 7, 3) := by decide +kernel
theorem dX11_absolve_16 : decode cX11_absolve 16 = .ok (.iconst 1, 1) := by decide +kernel
theorem dX11_absolve_17 : decode cX11_absolve 17 = .ok (.goto 4, 3) := by decide +kernel
theorem dX11_absolve_20 : decode cX11_absolve 20 = .ok (.iconst 0, 1) := by decide +kernel
theorem dX11_absolve_21 : decode cX11_absolve 21 = .ok (.iconst 1, 1) := by decide +kernel
theorem dX11_absolve_22 : decode cX11_absolve 22 = .ok (.invokevirtual 161, 3) := by decide +kernel
theorem dX11_absolve_25 : decode cX11_absolve 25 = .ok (.ifCond .eq 5, 3) := by decide +kernel
theorem dX11_absolve_28 : decode cX11_absolve 28 = .ok (.iconst 0, 1) := by decide +kernel
theorem dX11_absolve_29 : decode cX11_absolve 29 = .ok (.ireturn, 1) := by decide +kernel
theorem dX11_absolve_30 : decode cX11_absolve 30 = .ok (.aload_n 0, 1) := by decide +kernel
theorem dX11_absolve_31 : decode cX11_absolve 31 = .ok (.invokevirtual 281, 3) := by decide +kernel
theorem dX11_absolve_34 : decode cX11_absolve 34 = .ok (.aload_n 0, 1) := by decide +kernel
theorem dX11_absolve_35 : decode cX11_absolve 35 = .ok (.getfield 7, 3) := by decide +kernel
theorem dX11_absolve_38 : decode cX11_absolve 38 = .ok (.invokestatic 236, 3) := by decide +kernel
theorem dX11_absolve_41 : decode cX11_absolve 41 = .ok (.ireturn, 1) := by decide +kernel
theorem dX11_forgive_0 : decode cX11_forgive 0 = .ok (.aload_n 0, 1) := by decide +kernel
theorem dX11_forgive_1 : decode cX11_forgive 1 = .ok (.iload_n 1, 1) := by decide +kernel
theorem dX11_forgive_2 : decode cX11_forgive 2 = .ok (.invokevirtual 290, 3) := by decide +kernel
theorem dX11_forgive_5 : decode cX11_forgive 5 = .ok (.ifCond .eq 5, 3) := by decide +kernel
theorem dX11_forgive_8 : decode cX11_forgive 8 = .ok (.iconst 0, 1) := by decide +kernel
theorem dX11_forgive_9 : decode cX11_forgive 9 = .ok (.ireturn, 1) := by decide +kernel
theorem dX11_forgive_10 : decode cX11_forgive 10 = .ok (.aload_n 0, 1) := by decide +kernel
theorem dX11_forgive_11 : decode cX11_forgive 11 = .ok (.invokevirtual 281, 3) := by decide +kernel
theorem dX11_forgive_14 : decode cX11_forgive 14 = .ok (.aload_n 0, 1) := by decide +kernel
theorem dX11_forgive_15 : decode cX11_forgive 15 = .ok (.getfield 7, 3) := by decide +kernel
theorem dX11_forgive_18 : decode cX11_forgive 18 = .ok (.iload_n 1, 1) := by decide +kernel
theorem dX11_forgive_19 : decode cX11_forgive 19 = .ok (.invokestatic 239, 3) := by decide +kernel
theorem dX11_forgive_22 : decode cX11_forgive 22 = .ok (.ireturn, 1) := by decide +kernel
theorem dX11_setWeight_0 : decode cX11_setWeight 0 = .ok (.aload_n 0, 1) := by decide +kernel
theorem dX11_setWeight_1 : decode cX11_setWeight 1 = .ok (.iload_n 1, 1) := by decide +kernel
theorem dX11_setWeight_2 : decode cX11_setWeight 2 = .ok (.invokevirtual 293, 3) := by decide +kernel
theorem dX11_setWeight_5 : decode cX11_setWeight 5 = .ok (.ifCond .ne 31, 3) := by decide +kernel
theorem dX11_setWeight_8 : decode cX11_setWeight 8 = .ok (.aload_n 0, 1) := by decide +kernel
theorem dX11_setWeight_9 : decode cX11_setWeight 9 = .ok (.iload_n 2, 1) := by decide +kernel
theorem dX11_setWeight_10 : decode cX11_setWeight 10 = .ok (.iconst 1, 1) := by decide +kernel
theorem dX11_setWeight_11 : decode cX11_setWeight 11 = .ok (.aload_n 0, 1) := by decide +kernel
theorem dX11_setWeight_12 : decode cX11_setWeight 12 = .ok (.getfield 7, 3) := by decide +kernel
theorem dX11_setWeight_15 : decode cX11_setWeight 15 = .ok (.iload_n 1, 1) := by decide +kernel
theorem dX11_setWeight_16 : decode cX11_setWeight 16 = .ok (.invokestatic 73, 3) := by decide +kernel
theorem dX11_setWeight_19 : decode cX11_setWeight 19 = .ok (.invokevirtual 296, 3) := by decide +kernel
theorem dX11_setWeight_22 : decode cX11_setWeight 22 = .ok (.ifCond .ne 14, 3) := by decide +kernel
theorem dX11_setWeight_25 : decode cX11_setWeight 25 = .ok (.aload_n 0, 1) := by decide +kernel
theorem dX11_setWeight_26 : decode cX11_setWeight 26 = .ok (.iload_n 3, 1) := by decide +kernel
theorem dX11_setWeight_27 : decode cX11_setWeight 27 = .ok (.iconst 0, 1) := by decide +kernel
theorem dX11_setWeight_28 : decode cX11_setWeight 28 = .ok (.bipush 9, 2) := by decide +kernel
theorem dX11_setWeight_30 : decode cX11_setWeight 30 = .ok (.invokevirtual 296, 3) := by decide +kernel
theorem dX11_setWeight_33 : decode cX11_setWeight 33 = .ok (.ifCond .eq 5, 3) := by decide +kernel
theorem dX11_setWeight_36 : decode cX11_setWeight 36 = .ok (.iconst 0, 1) := by decide +kernel
theorem dX11_setWeight_37 : decode cX11_setWeight 37 = .ok (.ireturn, 1) := by decide +kernel
theorem dX11_setWeight_38 : decode cX11_setWeight 38 = .ok (.aload_n 0, 1) := by decide +kernel
theorem dX11_setWeight_39 : decode cX11_setWeight 39 = .ok (.getfield 7, 3) := by decide +kernel
theorem dX11_setWeight_42 : decode cX11_setWeight 42 = .ok (.iload_n 1, 1) := by decide +kernel
theorem dX11_setWeight_43 : decode cX11_setWeight 43 = .ok (.iload_n 2, 1) := by decide +kernel
theorem dX11_setWeight_44 : decode cX11_setWeight 44 = .ok (.invokestatic 77, 3) := by decide +kernel
theorem dX11_setWeight_47 : decode cX11_setWeight 47 = .ok (.istore 4, 2) := by decide +kernel
theorem dX11_setWeight_49 : decode cX11_setWeight 49 = .ok (.aload_n 0, 1) := by decide +kernel
theorem dX11_setWeight_50 : decode cX11_setWeight 50 = .ok (.aload_n 0, 1) := by decide +kernel
theorem dX11_setWeight_51 : decode cX11_setWeight 51 = .ok (.getfield 7, 3) := by decide +kernel
theorem dX11_setWeight_54 : decode cX11_setWeight 54 = .ok (.iload_n 1, 1) := by decide +kernel
theorem dX11_setWeight_55 : decode cX11_setWeight 55 = .ok (.invokestatic 82, 3) := by decide +kernel
theorem dX11_setWeight_58 : decode cX11_setWeight 58 = .ok (.iload 4, 2) := by decide +kernel
theorem dX11_setWeight_60 : decode cX11_setWeight 60 = .ok (.isub, 1) := by decide +kernel
theorem dX11_setWeight_61 : decode cX11_setWeight 61 = .ok (.iload_n 3, 1) := by decide +kernel
theorem dX11_setWeight_62 : decode cX11_setWeight 62 = .ok (.iadd, 1) := by decide +kernel
theorem dX11_setWeight_63 : decode cX11_setWeight 63 = .ok (.ifCond .ne 7, 3) := by decide +kernel
theorem dX11_setWeight_66 : decode cX11_setWeight 66 = .ok (.iconst 1, 1) := by decide +kernel
theorem dX11_setWeight_67 : decode cX11_setWeight 67 = .ok (.goto 4, 3) := by decide +kernel
theorem dX11_setWeight_70 : decode cX11_setWeight 70 = .ok (.iconst 0, 1) := by decide +kernel
theorem dX11_setWeight_71 : decode cX11_setWeight 71 = .ok (.iconst 3, 1) := by decide +kernel
theorem dX11_setWeight_72 : decode cX11_setWeight 72 = .ok (.invokevirtual 161, 3) := by decide +kernel
theorem dX11_setWeight_75 : decode cX11_setWeight 75 = .ok (.ifCond .eq 5, 3) := by decide +kernel
theorem dX11_setWeight_78 : decode cX11_setWeight 78 = .ok (.iconst 0, 1) := by decide +kernel
theorem dX11_setWeight_79 : decode cX11_setWeight 79 = .ok (.ireturn, 1) := by decide +kernel
theorem dX11_setWeight_80 : decode cX11_setWeight 80 = .ok (.aload_n 0, 1) := by decide +kernel
theorem dX11_setWeight_81 : decode cX11_setWeight 81 = .ok (.invokevirtual 281, 3) := by decide +kernel
theorem dX11_setWeight_84 : decode cX11_setWeight 84 = .ok (.aload_n 0, 1) := by decide +kernel
theorem dX11_setWeight_85 : decode cX11_setWeight 85 = .ok (.getfield 7, 3) := by decide +kernel
theorem dX11_setWeight_88 : decode cX11_setWeight 88 = .ok (.iload_n 1, 1) := by decide +kernel
theorem dX11_setWeight_89 : decode cX11_setWeight 89 = .ok (.invokestatic 69, 3) := by decide +kernel
theorem dX11_setWeight_92 : decode cX11_setWeight 92 = .ok (.iconst 1, 1) := by decide +kernel
theorem dX11_setWeight_93 : decode cX11_setWeight 93 = .ok (.iadd, 1) := by decide +kernel
theorem dX11_setWeight_94 : decode cX11_setWeight 94 = .ok (.iload_n 2, 1) := by decide +kernel
theorem dX11_setWeight_95 : decode cX11_setWeight 95 = .ok (.iadd, 1) := by decide +kernel
theorem dX11_setWeight_96 : decode cX11_setWeight 96 = .ok (.iconst 1, 1) := by decide +kernel
theorem dX11_setWeight_97 : decode cX11_setWeight 97 = .ok (.isub, 1) := by decide +kernel
theorem dX11_setWeight_98 : decode cX11_setWeight 98 = .ok (.iload_n 3, 1) := by decide +kernel
theorem dX11_setWeight_99 : decode cX11_setWeight 99 = .ok (.iastore, 1) := by decide +kernel
theorem dX11_setWeight_100 : decode cX11_setWeight 100 = .ok (.iload 4, 2) := by decide +kernel
theorem dX11_setWeight_102 : decode cX11_setWeight 102 = .ok (.ireturn, 1) := by decide +kernel
theorem dX11_setSeed_0 : decode cX11_setSeed 0 = .ok (.aload_n 0, 1) := by decide +kernel
theorem dX11_setSeed_1 : decode cX11_setSeed 1 = .ok (.iload_n 1, 1) := by decide +kernel
theorem dX11_setSeed_2 : decode cX11_setSeed 2 = .ok (.iconst 0, 1) := by decide +kernel
theorem dX11_setSeed_3 : decode cX11_setSeed 3 = .ok (.ldc_w 277, 3) := by decide +kernel
theorem dX11_setSeed_6 : decode cX11_setSeed 6 = .ok (.invokevirtual 169, 3) := by decide +kernel
theorem dX11_setSeed_9 : decode cX11_setSeed 9 = .ok (.ifCond .eq 5, 3) := by decide +kernel
theorem dX11_setSeed_12 : decode cX11_setSeed 12 = .ok (.iconst 0, 1) := by decide +kernel
theorem dX11_setSeed_13 : decode cX11_setSeed 13 = .ok (.ireturn, 1) := by decide +kernel
theorem dX11_setSeed_14 : decode cX11_setSeed 14 = .ok (.aload_n 0, 1) := by decide +kernel
theorem dX11_setSeed_15 : decode cX11_setSeed 15 = .ok (.invokevirtual 281, 3) := by decide +kernel
theorem dX11_setSeed_18 : decode cX11_setSeed 18 = .ok (.aload_n 0, 1) := by decide +kernel
theorem dX11_setSeed_19 : decode cX11_setSeed 19 = .ok (.getfield 7, 3) := by decide +kernel
theorem dX11_setSeed_22 : decode cX11_setSeed 22 = .ok (.iconst 0, 1) := by decide +kernel
theorem dX11_setSeed_23 : decode cX11_setSeed 23 = .ok (.iaload, 1) := by decide +kernel
theorem dX11_setSeed_24 : decode cX11_setSeed 24 = .ok (.istore_n 2, 1) := by decide +kernel
theorem dX11_setSeed_25 : decode cX11_setSeed 25 = .ok (.aload_n 0, 1) := by decide +kernel
theorem dX11_setSeed_26 : decode cX11_setSeed 26 = .ok (.getfield 7, 3) := by decide +kernel
theorem dX11_setSeed_29 : decode cX11_setSeed 29 = .ok (.iconst 0, 1) := by decide +kernel
theorem dX11_setSeed_30 : decode cX11_setSeed 30 = .ok (.iload_n 1, 1) := by decide +kernel
theorem dX11_setSeed_31 : decode cX11_setSeed 31 = .ok (.iastore, 1) := by decide +kernel
theorem dX11_setSeed_32 : decode cX11_setSeed 32 = .ok (.iload_n 2, 1) := by decide +kernel
theorem dX11_setSeed_33 : decode cX11_setSeed 33 = .ok (.ireturn, 1) := by decide +kernel
theorem dX11_setLimits_0 : decode cX11_setLimits 0 = .ok (.aload_n 0, 1) := by decide +kernel
theorem dX11_setLimits_1 : decode cX11_setLimits 1 = .ok (.iload_n 1, 1) := by decide +kernel
theorem dX11_setLimits_2 : decode cX11_setLimits 2 = .ok (.iconst 1, 1) := by decide +kernel
theorem dX11_setLimits_3 : decode cX11_setLimits 3 = .ok (.bipush 99, 2) := by decide +kernel
theorem dX11_setLimits_5 : decode cX11_setLimits 5 = .ok (.invokevirtual 169, 3) := by decide +kernel
theorem dX11_setLimits_8 : decode cX11_setLimits 8 = .ok (.ifCond .ne 27, 3) := by decide +kernel
theorem dX11_setLimits_11 : decode cX11_setLimits 11 = .ok (.aload_n 0, 1) := by decide +kernel
theorem dX11_setLimits_12 : decode cX11_setLimits 12 = .ok (.iload_n 2, 1) := by decide +kernel
theorem dX11_setLimits_13 : decode cX11_setLimits 13 = .ok (.iconst 0, 1) := by decide +kernel
theorem dX11_setLimits_14 : decode cX11_setLimits 14 = .ok (.sipush 999, 3) := by decide +kernel
theorem dX11_setLimits_17 : decode cX11_setLimits 17 = .ok (.invokestatic 176, 3) := by decide +kernel
theorem dX11_setLimits_20 : decode cX11_setLimits 20 = .ok (.ifCond .ne 7, 3) := by decide +kernel
theorem dX11_setLimits_23 : decode cX11_setLimits 23 = .ok (.iconst 1, 1) := by decide +kernel
theorem dX11_setLimits_24 : decode cX11_setLimits 24 = .ok (.goto 4, 3) := by decide +kernel
theorem dX11_setLimits_27 : decode cX11_setLimits 27 = .ok (.iconst 0, 1) := by decide +kernel
theorem dX11_setLimits_28 : decode cX11_setLimits 28 = .ok (.iconst 1, 1) := by decide +kernel
theorem dX11_setLimits_29 : decode cX11_setLimits 29 = .ok (.invokevirtual 161, 3) := by decide +kernel
theorem dX11_setLimits_32 : decode cX11_setLimits 32 = .ok (.ifCond .eq 5, 3) := by decide +kernel
theorem dX11_setLimits_35 : decode cX11_setLimits 35 = .ok (.iconst 0, 1) := by decide +kernel
theorem dX11_setLimits_36 : decode cX11_setLimits 36 = .ok (.ireturn, 1) := by decide +kernel
theorem dX11_setLimits_37 : decode cX11_setLimits 37 = .ok (.aload_n 0, 1) := by decide +kernel
theorem dX11_setLimits_38 : decode cX11_setLimits 38 = .ok (.invokevirtual 281, 3) := by decide +kernel
theorem dX11_setLimits_41 : decode cX11_setLimits 41 = .ok (.aload_n 0, 1) := by decide +kernel
theorem dX11_setLimits_42 : decode cX11_setLimits 42 = .ok (.getfield 7, 3) := by decide +kernel
theorem dX11_setLimits_45 : decode cX11_setLimits 45 = .ok (.iconst 1, 1) := by decide +kernel
theorem dX11_setLimits_46 : decode cX11_setLimits 46 = .ok (.iload_n 1, 1) := by decide +kernel
theorem dX11_setLimits_47 : decode cX11_setLimits 47 = .ok (.iastore, 1) := by decide +kernel
theorem dX11_setLimits_48 : decode cX11_setLimits 48 = .ok (.aload_n 0, 1) := by decide +kernel
theorem dX11_setLimits_49 : decode cX11_setLimits 49 = .ok (.getfield 7, 3) := by decide +kernel
theorem dX11_setLimits_52 : decode cX11_setLimits 52 = .ok (.iconst 2, 1) := by decide +kernel
theorem dX11_setLimits_53 : decode cX11_setLimits 53 = .ok (.iload_n 2, 1) := by decide +kernel
theorem dX11_setLimits_54 : decode cX11_setLimits 54 = .ok (.iastore, 1) := by decide +kernel
theorem dX11_setLimits_55 : decode cX11_setLimits 55 = .ok (.aload_n 0, 1) := by decide +kernel
theorem dX11_setLimits_56 : decode cX11_setLimits 56 = .ok (.invokevirtual 321, 3) := by decide +kernel
theorem dX11_setLimits_59 : decode cX11_setLimits 59 = .ok (.ireturn, 1) := by decide +kernel
theorem dX11_print_0 : decode cX11_print 0 = .ok (.aload_n 0, 1) := by decide +kernel
theorem dX11_print_1 : decode cX11_print 1 = .ok (.getfield 36, 3) := by decide +kernel
theorem dX11_print_4 : decode cX11_print 4 = .ok (.aload_n 0, 1) := by decide +kernel
theorem dX11_print_5 : decode cX11_print 5 = .ok (.getfield 333, 3) := by decide +kernel
theorem dX11_print_8 : decode cX11_print 8 = .ok (.iload_n 1, 1) := by decide +kernel
theorem dX11_print_9 : decode cX11_print 9 = .ok (.i2b, 1) := by decide +kernel
theorem dX11_print_10 : decode cX11_print 10 = .ok (.bastore, 1) := by decide +kernel
theorem dX11_print_11 : decode cX11_print 11 = .ok (.aload_n 0, 1) := by decide +kernel
theorem dX11_print_12 : decode cX11_print 12 = .ok (.dup, 1) := by decide +kernel
theorem dX11_print_13 : decode cX11_print 13 = .ok (.getfield 333, 3) := by decide +kernel
theorem dX11_print_16 : decode cX11_print 16 = .ok (.iconst 1, 1) := by decide +kernel
theorem dX11_print_17 : decode cX11_print 17 = .ok (.iadd, 1) := by decide +kernel
theorem dX11_print_18 : decode cX11_print 18 = .ok (.putfield 333, 3) := by decide +kernel
theorem dX11_print_21 : decode cX11_print 21 = .ok (.return_, 1) := by decide +kernel
theorem dX11_printNumber_0 : decode cX11_printNumber 0 = .ok (.iconst 1, 1) := by decide +kernel
theorem dX11_printNumber_1 : decode cX11_printNumber 1 = .ok (.istore_n 2, 1) := by decide +kernel
theorem dX11_printNumber_2 : decode cX11_printNumber 2 = .ok (.iload_n 1, 1) := by decide +kernel
theorem dX11_printNumber_3 : decode cX11_printNumber 3 = .ok (.iload_n 2, 1) := by decide +kernel
theorem dX11_printNumber_4 : decode cX11_printNumber 4 = .ok (.idiv, 1) := by decide +kernel
theorem dX11_printNumber_5 : decode cX11_printNumber 5 = .ok (.bipush 9, 2) := by decide +kernel
theorem dX11_printNumber_7 : decode cX11_printNumber 7 = .ok (.if_icmp .le 11, 3) := by decide +kernel
theorem dX11_printNumber_10 : decode cX11_printNumber 10 = .ok (.iload_n 2, 1) := by decide +kernel
theorem dX11_printNumber_11 : decode cX11_printNumber 11 = .ok (.bipush 10, 2) := by decide +kernel
theorem dX11_printNumber_13 : decode cX11_printNumber 13 = .ok (.imul, 1) := by decide +kernel
theorem dX11_printNumber_14 : decode cX11_printNumber 14 = .ok (.istore_n 2, 1) := by decide +kernel
theorem dX11_printNumber_15 : decode cX11_printNumber 15 = .ok (.goto (-13), 3) := by decide +kernel
theorem dX11_printNumber_18 : decode cX11_printNumber 18 = .ok (.iload_n 2, 1) := by decide +kernel
theorem dX11_printNumber_19 : decode cX11_printNumber 19 = .ok (.istore_n 3, 1) := by decide +kernel
theorem dX11_printNumber_20 : decode cX11_printNumber 20 = .ok (.iload_n 3, 1) := by decide +kernel
theorem dX11_printNumber_21 : decode cX11_printNumber 21 = .ok (.ifCond .le 24, 3) := by decide +kernel
theorem dX11_printNumber_24 : decode cX11_printNumber 24 = .ok (.aload_n 0, 1) := by decide +kernel
theorem dX11_printNumber_25 : decode cX11_printNumber 25 = .ok (.bipush 48, 2) := by decide +kernel
theorem dX11_printNumber_27 : decode cX11_printNumber 27 = .ok (.iload_n 1, 1) := by decide +kernel
theorem dX11_printNumber_28 : decode cX11_printNumber 28 = .ok (.iload_n 3, 1) := by decide +kernel
theorem dX11_printNumber_29 : decode cX11_printNumber 29 = .ok (.idiv, 1) := by decide +kernel
theorem dX11_printNumber_30 : decode cX11_printNumber 30 = .ok (.bipush 10, 2) := by decide +kernel
theorem dX11_printNumber_32 : decode cX11_printNumber 32 = .ok (.irem, 1) := by decide +kernel
theorem dX11_printNumber_33 : decode cX11_printNumber 33 = .ok (.iadd, 1) := by decide +kernel
theorem dX11_printNumber_34 : decode cX11_printNumber 34 = .ok (.invokevirtual 336, 3) := by decide +kernel
theorem dX11_printNumber_37 : decode cX11_printNumber 37 = .ok (.iload_n 3, 1) := by decide +kernel
theorem dX11_printNumber_38 : decode cX11_printNumber 38 = .ok (.bipush 10, 2) := by decide +kernel
theorem dX11_printNumber_40 : decode cX11_printNumber 40 = .ok (.idiv, 1) := by decide +kernel
theorem dX11_printNumber_41 : decode cX11_printNumber 41 = .ok (.istore_n 3, 1) := by decide +kernel
theorem dX11_printNumber_42 : decode cX11_printNumber 42 = .ok (.goto (-22), 3) := by decide +kernel
theorem dX11_printNumber_45 : decode cX11_printNumber 45 = .ok (.return_, 1) := by decide +kernel
theorem dX11_printPlayer_0 : decode cX11_printPlayer 0 = .ok (.aload_n 0, 1) := by decide +kernel
theorem dX11_printPlayer_1 : decode cX11_printPlayer 1 = .ok (.getfield 333, 3) := by decide +kernel
theorem dX11_printPlayer_4 : decode cX11_printPlayer 4 = .ok (.ifCond .le 9, 3) := by decide +kernel
theorem dX11_printPlayer_7 : decode cX11_printPlayer 7 = .ok (.aload_n 0, 1) := by decide +kernel
theorem dX11_printPlayer_8 : decode cX11_printPlayer 8 = .ok (.bipush 32, 2) := by decide +kernel
theorem dX11_printPlayer_10 : decode cX11_printPlayer 10 = .ok (.invokevirtual 336, 3) := by decide +kernel
theorem dX11_printPlayer_13 : decode cX11_printPlayer 13 = .ok (.iconst 0, 1) := by decide +kernel
theorem dX11_printPlayer_14 : decode cX11_printPlayer 14 = .ok (.istore_n 2, 1) := by decide +kernel
theorem dX11_printPlayer_15 : decode cX11_printPlayer 15 = .ok (.iload_n 2, 1) := by decide +kernel
theorem dX11_printPlayer_16 : decode cX11_printPlayer 16 = .ok (.aload_n 0, 1) := by decide +kernel
theorem dX11_printPlayer_17 : decode cX11_printPlayer 17 = .ok (.getfield 7, 3) := by decide +kernel
theorem dX11_printPlayer_20 : decode cX11_printPlayer 20 = .ok (.bipush 85, 2) := by decide +kernel
theorem dX11_printPlayer_22 : decode cX11_printPlayer 22 = .ok (.iload_n 1, 1) := by decide +kernel
theorem dX11_printPlayer_23 : decode cX11_printPlayer 23 = .ok (.iadd, 1) := by decide +kernel
theorem dX11_printPlayer_24 : decode cX11_printPlayer 24 = .ok (.iaload, 1) := by decide +kernel
theorem dX11_printPlayer_25 : decode cX11_printPlayer 25 = .ok (.invokestatic 302, 3) := by decide +kernel
theorem dX11_printPlayer_28 : decode cX11_printPlayer 28 = .ok (.if_icmp .ge 29, 3) := by decide +kernel
theorem dX11_printPlayer_31 : decode cX11_printPlayer 31 = .ok (.aload_n 0, 1) := by decide +kernel
theorem dX11_printPlayer_32 : decode cX11_printPlayer 32 = .ok (.bipush 96, 2) := by decide +kernel
theorem dX11_printPlayer_34 : decode cX11_printPlayer 34 = .ok (.aload_n 0, 1) := by decide +kernel
theorem dX11_printPlayer_35 : decode cX11_printPlayer 35 = .ok (.getfield 7, 3) := by decide +kernel
theorem dX11_printPlayer_38 : decode cX11_printPlayer 38 = .ok (.bipush 85, 2) := by decide +kernel
theorem dX11_printPlayer_40 : decode cX11_printPlayer 40 = .ok (.iload_n 1, 1) := by decide +kernel
theorem dX11_printPlayer_41 : decode cX11_printPlayer 41 = .ok (.iadd, 1) := by decide +kernel
theorem dX11_printPlayer_42 : decode cX11_printPlayer 42 = .ok (.iaload, 1) := by decide +kernel
theorem dX11_printPlayer_43 : decode cX11_printPlayer 43 = .ok (.iload_n 2, 1) := by decide +kernel
theorem dX11_printPlayer_44 : decode cX11_printPlayer 44 = .ok (.invokestatic 299, 3) := by decide +kernel
theorem dX11_printPlayer_47 : decode cX11_printPlayer 47 = .ok (.iadd, 1) := by decide +kernel
theorem dX11_printPlayer_48 : decode cX11_printPlayer 48 = .ok (.invokevirtual 336, 3) := by decide +kernel
theorem dX11_printPlayer_51 : decode cX11_printPlayer 51 = .ok (.iinc 2 1, 3) := by decide +kernel
theorem dX11_printPlayer_54 : decode cX11_printPlayer 54 = .ok (.goto (-39), 3) := by decide +kernel
theorem dX11_printPlayer_57 : decode cX11_printPlayer 57 = .ok (.aload_n 0, 1) := by decide +kernel
theorem dX11_printPlayer_58 : decode cX11_printPlayer 58 = .ok (.bipush 58, 2) := by decide +kernel
theorem dX11_printPlayer_60 : decode cX11_printPlayer 60 = .ok (.invokevirtual 336, 3) := by decide +kernel
theorem dX11_printPlayer_63 : decode cX11_printPlayer 63 = .ok (.aload_n 0, 1) := by decide +kernel
theorem dX11_printPlayer_64 : decode cX11_printPlayer 64 = .ok (.aload_n 0, 1) := by decide +kernel
theorem dX11_printPlayer_65 : decode cX11_printPlayer 65 = .ok (.getfield 7, 3) := by decide +kernel
theorem dX11_printPlayer_68 : decode cX11_printPlayer 68 = .ok (.iload_n 1, 1) := by decide +kernel
theorem dX11_printPlayer_69 : decode cX11_printPlayer 69 = .ok (.invokestatic 158, 3) := by decide +kernel
theorem dX11_printPlayer_72 : decode cX11_printPlayer 72 = .ok (.invokevirtual 339, 3) := by decide +kernel
theorem dX11_printPlayer_75 : decode cX11_printPlayer 75 = .ok (.aload_n 0, 1) := by decide +kernel
theorem dX11_printPlayer_76 : decode cX11_printPlayer 76 = .ok (.getfield 7, 3) := by decide +kernel
theorem dX11_printPlayer_79 : decode cX11_printPlayer 79 = .ok (.iload_n 1, 1) := by decide +kernel
theorem dX11_printPlayer_80 : decode cX11_printPlayer 80 = .ok (.invokestatic 155, 3) := by decide +kernel
theorem dX11_printPlayer_83 : decode cX11_printPlayer 83 = .ok (.ifCond .le 9, 3) := by decide +kernel
theorem dX11_printPlayer_86 : decode cX11_printPlayer 86 = .ok (.aload_n 0, 1) := by decide +kernel
theorem dX11_printPlayer_87 : decode cX11_printPlayer 87 = .ok (.bipush 33, 2) := by decide +kernel
theorem dX11_printPlayer_89 : decode cX11_printPlayer 89 = .ok (.invokevirtual 336, 3) := by decide +kernel
theorem dX11_printPlayer_92 : decode cX11_printPlayer 92 = .ok (.return_, 1) := by decide +kernel
theorem dX11_byName_0 : decode cX11_byName 0 = .ok (.iconst 0, 1) := by decide +kernel
theorem dX11_byName_1 : decode cX11_byName 1 = .ok (.istore_n 2, 1) := by decide +kernel
theorem dX11_byName_2 : decode cX11_byName 2 = .ok (.iload_n 2, 1) := by decide +kernel
theorem dX11_byName_3 : decode cX11_byName 3 = .ok (.aload_n 0, 1) := by decide +kernel
theorem dX11_byName_4 : decode cX11_byName 4 = .ok (.getfield 7, 3) := by decide +kernel
theorem dX11_byName_7 : decode cX11_byName 7 = .ok (.iconst 4, 1) := by decide +kernel
theorem dX11_byName_8 : decode cX11_byName 8 = .ok (.iaload, 1) := by decide +kernel
theorem dX11_byName_9 : decode cX11_byName 9 = .ok (.if_icmp .ge 68, 3) := by decide +kernel
theorem dX11_byName_12 : decode cX11_byName 12 = .ok (.iconst 0, 1) := by decide +kernel
theorem dX11_byName_13 : decode cX11_byName 13 = .ok (.istore_n 3, 1) := by decide +kernel
theorem dX11_byName_14 : decode cX11_byName 14 = .ok (.iconst 0, 1) := by decide +kernel
theorem dX11_byName_15 : decode cX11_byName 15 = .ok (.istore 4, 2) := by decide +kernel
theorem dX11_byName_17 : decode cX11_byName 17 = .ok (.iload 4, 2) := by decide +kernel
theorem dX11_byName_19 : decode cX11_byName 19 = .ok (.aload_n 0, 1) := by decide +kernel
theorem dX11_byName_20 : decode cX11_byName 20 = .ok (.getfield 7, 3) := by decide +kernel
theorem dX11_byName_23 : decode cX11_byName 23 = .ok (.iconst 4, 1) := by decide +kernel
theorem dX11_byName_24 : decode cX11_byName 24 = .ok (.iaload, 1) := by decide +kernel
theorem dX11_byName_25 : decode cX11_byName 25 = .ok (.if_icmp .ge 39, 3) := by decide +kernel
theorem dX11_byName_28 : decode cX11_byName 28 = .ok (.iload_n 3, 1) := by decide +kernel
theorem dX11_byName_29 : decode cX11_byName 29 = .ok (.aload_n 0, 1) := by decide +kernel
theorem dX11_byName_30 : decode cX11_byName 30 = .ok (.getfield 7, 3) := by decide +kernel
theorem dX11_byName_33 : decode cX11_byName 33 = .ok (.bipush 85, 2) := by decide +kernel
theorem dX11_byName_35 : decode cX11_byName 35 = .ok (.iload 4, 2) := by decide +kernel
theorem dX11_byName_37 : decode cX11_byName 37 = .ok (.iadd, 1) := by decide +kernel
theorem dX11_byName_38 : decode cX11_byName 38 = .ok (.iaload, 1) := by decide +kernel
theorem dX11_byName_39 : decode cX11_byName 39 = .ok (.aload_n 0, 1) := by decide +kernel
theorem dX11_byName_40 : decode cX11_byName 40 = .ok (.getfield 7, 3) := by decide +kernel
theorem dX11_byName_43 : decode cX11_byName 43 = .ok (.bipush 85, 2) := by decide +kernel
theorem dX11_byName_45 : decode cX11_byName 45 = .ok (.iload_n 2, 1) := by decide +kernel
theorem dX11_byName_46 : decode cX11_byName 46 = .ok (.iadd, 1) := by decide +kernel
theorem dX11_byName_47 : decode cX11_byName 47 = .ok (.iaload, 1) := by decide +kernel
theorem dX11_byName_48 : decode cX11_byName 48 = .ok (.if_icmp .ge 7, 3) := by decide +kernel
theorem dX11_byName_51 : decode cX11_byName 51 = .ok (.iconst 1, 1) := by decide +kernel
theorem dX11_byName_52 : decode cX11_byName 52 = .ok (.goto 4, 3) := by decide +kernel
theorem dX11_byName_55 : decode cX11_byName 55 = .ok (.iconst 0, 1) := by decide +kernel
theorem dX11_byName_56 : decode cX11_byName 56 = .ok (.iadd, 1) := by decide +kernel
theorem dX11_byName_57 : decode cX11_byName 57 = .ok (.istore_n 3, 1) := by decide +kernel
theorem dX11_byName_58 : decode cX11_byName 58 = .ok (.iinc 4 1, 3) := by decide +kernel
theorem dX11_byName_61 : decode cX11_byName 61 = .ok (.goto (-44), 3) := by decide +kernel
theorem dX11_byName_64 : decode cX11_byName 64 = .ok (.iload_n 3, 1) := by decide +kernel
theorem dX11_byName_65 : decode cX11_byName 65 = .ok (.iload_n 1, 1) := by decide +kernel
theorem dX11_byName_66 : decode cX11_byName 66 = .ok (.if_icmp .ne 5, 3) := by decide +kernel
theorem dX11_byName_69 : decode cX11_byName 69 = .ok (.iload_n 2, 1) := by decide +kernel
theorem dX11_byName_70 : decode cX11_byName 70 = .ok (.ireturn, 1) := by decide +kernel
theorem dX11_byName_71 : decode cX11_byName 71 = .ok (.iinc 2 1, 3) := by decide +kernel
theorem dX11_byName_74 : decode cX11_byName 74 = .ok (.goto (-72), 3) := by decide +kernel
theorem dX11_byName_77 : decode cX11_byName 77 = .ok (.iconst (-1), 1) := by decide +kernel
theorem dX11_byName_78 : decode cX11_byName 78 = .ok (.ireturn, 1) := by decide +kernel
theorem dX11_writeRecords_0 : decode cX11_writeRecords 0 = .ok (.aload_n 0, 1) := by decide +kernel
theorem dX11_writeRecords_1 : decode cX11_writeRecords 1 = .ok (.iconst 0, 1) := by decide +kernel
theorem dX11_writeRecords_2 : decode cX11_writeRecords 2 = .ok (.putfield 66, 3) := by decide +kernel
theorem dX11_writeRecords_5 : decode cX11_writeRecords 5 = .ok (.aload_n 0, 1) := by decide +kernel
theorem dX11_writeRecords_6 : decode cX11_writeRecords 6 = .ok (.iconst 0, 1) := by decide +kernel
theorem dX11_writeRecords_7 : decode cX11_writeRecords 7 = .ok (.putfield 333, 3) := by decide +kernel
theorem dX11_writeRecords_10 : decode cX11_writeRecords 10 = .ok (.iconst 0, 1) := by decide +kernel
theorem dX11_writeRecords_11 : decode cX11_writeRecords 11 = .ok (.istore_n 1, 1) := by decide +kernel
theorem dX11_writeRecords_12 : decode cX11_writeRecords 12 = .ok (.iload_n 1, 1) := by decide +kernel
theorem dX11_writeRecords_13 : decode cX11_writeRecords 13 = .ok (.aload_n 0, 1) := by decide +kernel
theorem dX11_writeRecords_14 : decode cX11_writeRecords 14 = .ok (.getfield 7, 3) := by decide +kernel
theorem dX11_writeRecords_17 : decode cX11_writeRecords 17 = .ok (.iconst 4, 1) := by decide +kernel
theorem dX11_writeRecords_18 : decode cX11_writeRecords 18 = .ok (.iaload, 1) := by decide +kernel
theorem dX11_writeRecords_19 : decode cX11_writeRecords 19 = .ok (.if_icmp .ge 33, 3) := by decide +kernel
theorem dX11_writeRecords_22 : decode cX11_writeRecords 22 = .ok (.aload_n 0, 1) := by decide +kernel
theorem dX11_writeRecords_23 : decode cX11_writeRecords 23 = .ok (.getfield 7, 3) := by decide +kernel
theorem dX11_writeRecords_26 : decode cX11_writeRecords 26 = .ok (.aload_n 0, 1) := by decide +kernel
theorem dX11_writeRecords_27 : decode cX11_writeRecords 27 = .ok (.iload_n 1, 1) := by decide +kernel
theorem dX11_writeRecords_28 : decode cX11_writeRecords 28 = .ok (.invokevirtual 342, 3) := by decide +kernel
theorem dX11_writeRecords_31 : decode cX11_writeRecords 31 = .ok (.invokestatic 311, 3) := by decide +kernel
theorem dX11_writeRecords_34 : decode cX11_writeRecords 34 = .ok (.ifCond .le 12, 3) := by decide +kernel
theorem dX11_writeRecords_37 : decode cX11_writeRecords 37 = .ok (.aload_n 0, 1) := by decide +kernel
theorem dX11_writeRecords_38 : decode cX11_writeRecords 38 = .ok (.aload_n 0, 1) := by decide +kernel
theorem dX11_writeRecords_39 : decode cX11_writeRecords 39 = .ok (.iload_n 1, 1) := by decide +kernel
theorem dX11_writeRecords_40 : decode cX11_writeRecords 40 = .ok (.invokevirtual 342, 3) := by decide +kernel
theorem dX11_writeRecords_43 : decode cX11_writeRecords 43 = .ok (.invokevirtual 345, 3) := by decide +kernel
theorem dX11_writeRecords_46 : decode cX11_writeRecords 46 = .ok (.iinc 1 1, 3) := by decide +kernel
theorem dX11_writeRecords_49 : decode cX11_writeRecords 49 = .ok (.goto (-37), 3) := by decide +kernel
theorem dX11_writeRecords_52 : decode cX11_writeRecords 52 = .ok (.aload_n 0, 1) := by decide +kernel
theorem dX11_writeRecords_53 : decode cX11_writeRecords 53 = .ok (.getfield 333, 3) := by decide +kernel
theorem dX11_writeRecords_56 : decode cX11_writeRecords 56 = .ok (.ireturn, 1) := by decide +kernel
theorem dX11_writeFaces_0 : decode cX11_writeFaces 0 = .ok (.aload_n 0, 1) := by decide +kernel
theorem dX11_writeFaces_1 : decode cX11_writeFaces 1 = .ok (.iload_n 1, 1) := by decide +kernel
theorem dX11_writeFaces_2 : decode cX11_writeFaces 2 = .ok (.invokevirtual 290, 3) := by decide +kernel
theorem dX11_writeFaces_5 : decode cX11_writeFaces 5 = .ok (.ifCond .eq 5, 3) := by decide +kernel
theorem dX11_writeFaces_8 : decode cX11_writeFaces 8 = .ok (.iconst 0, 1) := by decide +kernel
theorem dX11_writeFaces_9 : decode cX11_writeFaces 9 = .ok (.ireturn, 1) := by decide +kernel
theorem dX11_writeFaces_10 : decode cX11_writeFaces 10 = .ok (.aload_n 0, 1) := by decide +kernel
theorem dX11_writeFaces_11 : decode cX11_writeFaces 11 = .ok (.iconst 0, 1) := by decide +kernel
theorem dX11_writeFaces_12 : decode cX11_writeFaces 12 = .ok (.putfield 333, 3) := by decide +kernel
theorem dX11_writeFaces_15 : decode cX11_writeFaces 15 = .ok (.iconst 0, 1) := by decide +kernel
theorem dX11_writeFaces_16 : decode cX11_writeFaces 16 = .ok (.istore_n 2, 1) := by decide +kernel
theorem dX11_writeFaces_17 : decode cX11_writeFaces 17 = .ok (.iload_n 2, 1) := by decide +kernel
theorem dX11_writeFaces_18 : decode cX11_writeFaces 18 = .ok (.aload_n 0, 1) := by decide +kernel
theorem dX11_writeFaces_19 : decode cX11_writeFaces 19 = .ok (.getfield 7, 3) := by decide +kernel
theorem dX11_writeFaces_22 : decode cX11_writeFaces 22 = .ok (.iconst 5, 1) := by decide +kernel
theorem dX11_writeFaces_23 : decode cX11_writeFaces 23 = .ok (.iaload, 1) := by decide +kernel
theorem dX11_writeFaces_24 : decode cX11_writeFaces 24 = .ok (.if_icmp .ge 52, 3) := by decide +kernel
theorem dX11_writeFaces_27 : decode cX11_writeFaces 27 = .ok (.aload_n 0, 1) := by decide +kernel
theorem dX11_writeFaces_28 : decode cX11_writeFaces 28 = .ok (.getfield 7, 3) := by decide +kernel
theorem dX11_writeFaces_31 : decode cX11_writeFaces 31 = .ok (.iload_n 2, 1) := by decide +kernel
theorem dX11_writeFaces_32 : decode cX11_writeFaces 32 = .ok (.invokestatic 85, 3) := by decide +kernel
theorem dX11_writeFaces_35 : decode cX11_writeFaces 35 = .ok (.iconst 0, 1) := by decide +kernel
theorem dX11_writeFaces_36 : decode cX11_writeFaces 36 = .ok (.iadd, 1) := by decide +kernel
theorem dX11_writeFaces_37 : decode cX11_writeFaces 37 = .ok (.iaload, 1) := by decide +kernel
theorem dX11_writeFaces_38 : decode cX11_writeFaces 38 = .ok (.iload_n 1, 1) := by decide +kernel
theorem dX11_writeFaces_39 : decode cX11_writeFaces 39 = .ok (.if_icmp .ne 31, 3) := by decide +kernel
theorem dX11_writeFaces_42 : decode cX11_writeFaces 42 = .ok (.aload_n 0, 1) := by decide +kernel
theorem dX11_writeFaces_43 : decode cX11_writeFaces 43 = .ok (.getfield 333, 3) := by decide +kernel
theorem dX11_writeFaces_46 : decode cX11_writeFaces 46 = .ok (.ifCond .le 9, 3) := by decide +kernel
theorem dX11_writeFaces_49 : decode cX11_writeFaces 49 = .ok (.aload_n 0, 1) := by decide +kernel
theorem dX11_writeFaces_50 : decode cX11_writeFaces 50 = .ok (.bipush 44, 2) := by decide +kernel
theorem dX11_writeFaces_52 : decode cX11_writeFaces 52 = .ok (.invokevirtual 336, 3) := by decide +kernel
theorem dX11_writeFaces_55 : decode cX11_writeFaces 55 = .ok (.aload_n 0, 1) := by decide +kernel
theorem dX11_writeFaces_56 : decode cX11_writeFaces 56 = .ok (.aload_n 0, 1) := by decide +kernel
theorem dX11_writeFaces_57 : decode cX11_writeFaces 57 = .ok (.getfield 7, 3) := by decide +kernel
theorem dX11_writeFaces_60 : decode cX11_writeFaces 60 = .ok (.iload_n 2, 1) := by decide +kernel
theorem dX11_writeFaces_61 : decode cX11_writeFaces 61 = .ok (.invokestatic 85, 3) := by decide +kernel
theorem dX11_writeFaces_64 : decode cX11_writeFaces 64 = .ok (.iconst 2, 1) := by decide +kernel
theorem dX11_writeFaces_65 : decode cX11_writeFaces 65 = .ok (.iadd, 1) := by decide +kernel
theorem dX11_writeFaces_66 : decode cX11_writeFaces 66 = .ok (.iaload, 1) := by decide +kernel
theorem dX11_writeFaces_67 : decode cX11_writeFaces 67 = .ok (.invokevirtual 339, 3) := by decide +kernel
theorem dX11_writeFaces_70 : decode cX11_writeFaces 70 = .ok (.iinc 2 1, 3) := by decide +kernel
theorem dX11_writeFaces_73 : decode cX11_writeFaces 73 = .ok (.goto (-56), 3) := by decide +kernel
theorem dX11_writeFaces_76 : decode cX11_writeFaces 76 = .ok (.aload_n 0, 1) := by decide +kernel
theorem dX11_writeFaces_77 : decode cX11_writeFaces 77 = .ok (.getfield 333, 3) := by decide +kernel
theorem dX11_writeFaces_80 : decode cX11_writeFaces 80 = .ok (.ireturn, 1) := by decide +kernel
theorem dX11_outputByte_0 : decode cX11_outputByte 0 = .ok (.aload_n 0, 1) := by decide +kernel
theorem dX11_outputByte_1 : decode cX11_outputByte 1 = .ok (.iload_n 1, 1) := by decide +kernel
theorem dX11_outputByte_2 : decode cX11_outputByte 2 = .ok (.iconst 0, 1) := by decide +kernel
theorem dX11_outputByte_3 : decode cX11_outputByte 3 = .ok (.aload_n 0, 1) := by decide +kernel
theorem dX11_outputByte_4 : decode cX11_outputByte 4 = .ok (.getfield 333, 3) := by decide +kernel
theorem dX11_outputByte_7 : decode cX11_outputByte 7 = .ok (.iconst 1, 1) := by decide +kernel
theorem dX11_outputByte_8 : decode cX11_outputByte 8 = .ok (.isub, 1) := by decide +kernel
theorem dX11_outputByte_9 : decode cX11_outputByte 9 = .ok (.invokevirtual 169, 3) := by decide +kernel
theorem dX11_outputByte_12 : decode cX11_outputByte 12 = .ok (.ifCond .eq 7, 3) := by decide +kernel
theorem dX11_outputByte_15 : decode cX11_outputByte 15 = .ok (.iconst 0, 1) := by decide +kernel
theorem dX11_outputByte_16 : decode cX11_outputByte 16 = .ok (.goto 9, 3) := by decide +kernel
theorem dX11_outputByte_19 : decode cX11_outputByte 19 = .ok (.aload_n 0, 1) := by decide +kernel
theorem dX11_outputByte_20 : decode cX11_outputByte 20 = .ok (.getfield 36, 3) := by decide +kernel
theorem dX11_outputByte_23 : decode cX11_outputByte 23 = .ok (.iload_n 1, 1) := by decide +kernel
theorem dX11_outputByte_24 : decode cX11_outputByte 24 = .ok (.baload, 1) := by decide +kernel
theorem dX11_outputByte_25 : decode cX11_outputByte 25 = .ok (.ireturn, 1) := by decide +kernel
theorem dX11_save_0 : decode cX11_save 0 = .ok (.aload_n 0, 1) := by decide +kernel
theorem dX11_save_1 : decode cX11_save 1 = .ok (.iload_n 1, 1) := by decide +kernel
theorem dX11_save_2 : decode cX11_save 2 = .ok (.iconst 0, 1) := by decide +kernel
theorem dX11_save_3 : decode cX11_save 3 = .ok (.iconst 1, 1) := by decide +kernel
theorem dX11_save_4 : decode cX11_save 4 = .ok (.invokevirtual 169, 3) := by decide +kernel
theorem dX11_save_7 : decode cX11_save 7 = .ok (.ifCond .eq 5, 3) := by decide +kernel
theorem dX11_save_10 : decode cX11_save 10 = .ok (.iconst 0, 1) := by decide +kernel
theorem dX11_save_11 : decode cX11_save 11 = .ok (.ireturn, 1) := by decide +kernel
theorem dX11_save_12 : decode cX11_save 12 = .ok (.aload_n 0, 1) := by decide +kernel
theorem dX11_save_13 : decode cX11_save 13 = .ok (.getfield 7, 3) := by decide +kernel
theorem dX11_save_16 : decode cX11_save 16 = .ok (.iconst 0, 1) := by decide +kernel
theorem dX11_save_17 : decode cX11_save 17 = .ok (.aload_n 0, 1) := by decide +kernel
theorem dX11_save_18 : decode cX11_save 18 = .ok (.getfield 19, 3) := by decide +kernel
theorem dX11_save_21 : decode cX11_save 21 = .ok (.sipush 1399, 3) := by decide +kernel
theorem dX11_save_24 : decode cX11_save 24 = .ok (.iload_n 1, 1) := by decide +kernel
theorem dX11_save_25 : decode cX11_save 25 = .ok (.imul, 1) := by decide +kernel
theorem dX11_save_26 : decode cX11_save 26 = .ok (.invokestatic 52, 3) := by decide +kernel
theorem dX11_save_29 : decode cX11_save 29 = .ok (.aload_n 0, 1) := by decide +kernel
theorem dX11_save_30 : decode cX11_save 30 = .ok (.getfield 22, 3) := by decide +kernel
theorem dX11_save_33 : decode cX11_save 33 = .ok (.iload_n 1, 1) := by decide +kernel
theorem dX11_save_34 : decode cX11_save 34 = .ok (.iconst 1, 1) := by decide +kernel
theorem dX11_save_35 : decode cX11_save 35 = .ok (.bastore, 1) := by decide +kernel
theorem dX11_save_36 : decode cX11_save 36 = .ok (.aload_n 0, 1) := by decide +kernel
theorem dX11_save_37 : decode cX11_save 37 = .ok (.getfield 7, 3) := by decide +kernel
theorem dX11_save_40 : decode cX11_save 40 = .ok (.iconst 5, 1) := by decide +kernel
theorem dX11_save_41 : decode cX11_save 41 = .ok (.iaload, 1) := by decide +kernel
theorem dX11_save_42 : decode cX11_save 42 = .ok (.ireturn, 1) := by decide +kernel
theorem dX11_restore_0 : decode cX11_restore 0 = .ok (.aload_n 0, 1) := by decide +kernel
theorem dX11_restore_1 : decode cX11_restore 1 = .ok (.iload_n 1, 1) := by decide +kernel
theorem dX11_restore_2 : decode cX11_restore 2 = .ok (.iconst 0, 1) := by decide +kernel
theorem dX11_restore_3 : decode cX11_restore 3 = .ok (.iconst 1, 1) := by decide +kernel
theorem dX11_restore_4 : decode cX11_restore 4 = .ok (.invokevirtual 169, 3) := by decide +kernel
theorem dX11_restore_7 : decode cX11_restore 7 = .ok (.ifCond .ne 25, 3) := by decide +kernel
theorem dX11_restore_10 : decode cX11_restore 10 = .ok (.aload_n 0, 1) := by decide +kernel
theorem dX11_restore_11 : decode cX11_restore 11 = .ok (.aload_n 0, 1) := by decide +kernel
theorem dX11_restore_12 : decode cX11_restore 12 = .ok (.getfield 22, 3) := by decide +kernel
theorem dX11_restore_15 : decode cX11_restore 15 = .ok (.iload_n 1, 1) := by decide +kernel
theorem dX11_restore_16 : decode cX11_restore 16 = .ok (.baload, 1) := by decide +kernel
theorem dX11_restore_17 : decode cX11_restore 17 = .ok (.ifCond .ne 7, 3) := by decide +kernel
theorem dX11_restore_20 : decode cX11_restore 20 = .ok (.iconst 1, 1) := by decide +kernel
theorem dX11_restore_21 : decode cX11_restore 21 = .ok (.goto 4, 3) := by decide +kernel
theorem dX11_restore_24 : decode cX11_restore 24 = .ok (.iconst 0, 1) := by decide +kernel
theorem dX11_restore_25 : decode cX11_restore 25 = .ok (.iconst 2, 1) := by decide +kernel
theorem dX11_restore_26 : decode cX11_restore 26 = .ok (.invokevirtual 161, 3) := by decide +kernel
theorem dX11_restore_29 : decode cX11_restore 29 = .ok (.ifCond .eq 5, 3) := by decide +kernel
theorem dX11_restore_32 : decode cX11_restore 32 = .ok (.iconst 0, 1) := by decide +kernel
theorem dX11_restore_33 : decode cX11_restore 33 = .ok (.ireturn, 1) := by decide +kernel
theorem dX11_restore_34 : decode cX11_restore 34 = .ok (.aload_n 0, 1) := by decide +kernel
theorem dX11_restore_35 : decode cX11_restore 35 = .ok (.invokevirtual 281, 3) := by decide +kernel
theorem dX11_restore_38 : decode cX11_restore 38 = .ok (.aload_n 0, 1) := by decide +kernel
theorem dX11_restore_39 : decode cX11_restore 39 = .ok (.getfield 19, 3) := by decide +kernel
theorem dX11_restore_42 : decode cX11_restore 42 = .ok (.sipush 1399, 3) := by decide +kernel
theorem dX11_restore_45 : decode cX11_restore 45 = .ok (.iload_n 1, 1) := by decide +kernel
theorem dX11_restore_46 : decode cX11_restore 46 = .ok (.imul, 1) := by decide +kernel
theorem dX11_restore_47 : decode cX11_restore 47 = .ok (.aload_n 0, 1) := by decide +kernel
theorem dX11_restore_48 : decode cX11_restore 48 = .ok (.getfield 7, 3) := by decide +kernel
theorem dX11_restore_51 : decode cX11_restore 51 = .ok (.iconst 0, 1) := by decide +kernel
theorem dX11_restore_52 : decode cX11_restore 52 = .ok (.invokestatic 52, 3) := by decide +kernel
theorem dX11_restore_55 : decode cX11_restore 55 = .ok (.aload_n 0, 1) := by decide +kernel
theorem dX11_restore_56 : decode cX11_restore 56 = .ok (.getfield 7, 3) := by decide +kernel
theorem dX11_restore_59 : decode cX11_restore 59 = .ok (.iconst 5, 1) := by decide +kernel
theorem dX11_restore_60 : decode cX11_restore 60 = .ok (.iaload, 1) := by decide +kernel
theorem dX11_restore_61 : decode cX11_restore 61 = .ok (.ireturn, 1) := by decide +kernel
theorem dJ9_max_7cf53_0 : decode cJ9_max_7cf53 0 = .ok (.iload_n 0, 1) := by decide +kernel
theorem dJ9_max_7cf53_1 : decode cJ9_max_7cf53 1 = .ok (.iload_n 1, 1) := by decide +kernel
theorem dJ9_max_7cf53_2 : decode cJ9_max_7cf53 2 = .ok (.if_icmp .lt 7, 3) := by decide +kernel
theorem dJ9_max_7cf53_5 : decode cJ9_max_7cf53 5 = .ok (.iload_n 0, 1) := by decide +kernel
theorem dJ9_max_7cf53_6 : decode cJ9_max_7cf53 6 = .ok (.goto 4, 3) := by decide +kernel
theorem dJ9_max_7cf53_9 : decode cJ9_max_7cf53 9 = .ok (.iload_n 1, 1) := by decide +kernel
theorem dJ9_max_7cf53_10 : decode cJ9_max_7cf53 10 = .ok (.ireturn, 1) := by decide +kernel
theorem dJ9_min_7cf53_0 : decode cJ9_min_7cf53 0 = .ok (.iload_n 0, 1) := by decide +kernel
theorem dJ9_min_7cf53_1 : decode cJ9_min_7cf53 1 = .ok (.iload_n 1, 1) := by decide +kernel
theorem dJ9_min_7cf53_2 : decode cJ9_min_7cf53 2 = .ok (.if_icmp .gt 7, 3) := by decide +kernel
theorem dJ9_min_7cf53_5 : decode cJ9_min_7cf53 5 = .ok (.iload_n 0, 1) := by decide +kernel
theorem dJ9_min_7cf53_6 : decode cJ9_min_7cf53 6 = .ok (.goto 4, 3) := by decide +kernel
theorem dJ9_min_7cf53_9 : decode cJ9_min_7cf53 9 = .ok (.iload_n 1, 1) := by decide +kernel
theorem dJ9_min_7cf53_10 : decode cJ9_min_7cf53 10 = .ok (.ireturn, 1) := by decide +kernel
theorem dJ0_length_8abf5_0 : decode cJ0_length_8abf5 0 = .ok (.aload_n 0, 1) := by decide +kernel
theorem dJ0_length_8abf5_1 : decode cJ0_length_8abf5 1 = .ok (.getfield 9, 3) := by decide +kernel
theorem dJ0_length_8abf5_4 : decode cJ0_length_8abf5 4 = .ok (.arraylength, 1) := by decide +kernel
theorem dJ0_length_8abf5_5 : decode cJ0_length_8abf5 5 = .ok (.aload_n 0, 1) := by decide +kernel
theorem dJ0_length_8abf5_6 : decode cJ0_length_8abf5 6 = .ok (.invokevirtual 335, 3) := by decide +kernel
theorem dJ0_length_8abf5_9 : decode cJ0_length_8abf5 9 = .ok (.ishr, 1) := by decide +kernel
theorem dJ0_length_8abf5_10 : decode cJ0_length_8abf5 10 = .ok (.ireturn, 1) := by decide +kernel
theorem dJ0_charAt_5068e_0 : decode cJ0_charAt_5068e 0 = .ok (.aload_n 0, 1) := by decide +kernel
theorem dJ0_charAt_5068e_1 : decode cJ0_charAt_5068e 1 = .ok (.invokevirtual 492, 3) := by decide +kernel
theorem dJ0_charAt_5068e_4 : decode cJ0_charAt_5068e 4 = .ok (.ifCond .eq 12, 3) := by decide +kernel
theorem dJ0_charAt_5068e_7 : decode cJ0_charAt_5068e 7 = .ok (.aload_n 0, 1) := by decide +kernel
theorem dJ0_charAt_5068e_8 : decode cJ0_charAt_5068e 8 = .ok (.getfield 9, 3) := by decide +kernel
theorem dJ0_charAt_5068e_11 : decode cJ0_charAt_5068e 11 = .ok (.iload_n 1, 1) := by decide +kernel
theorem dJ0_charAt_5068e_12 : decode cJ0_charAt_5068e 12 = .ok (.invokestatic 495, 3) := by decide +kernel
theorem dJ0_charAt_5068e_15 : decode cJ0_charAt_5068e 15 = .ok (.ireturn, 1) := by decide +kernel
theorem dJ0_charAt_5068e_16 : decode cJ0_charAt_5068e 16 = .ok (.aload_n 0, 1) := by decide +kernel
theorem dJ0_charAt_5068e_17 : decode cJ0_charAt_5068e 17 = .ok (.getfield 9, 3) := by decide +kernel
theorem dJ0_charAt_5068e_20 : decode cJ0_charAt_5068e 20 = .ok (.iload_n 1, 1) := by decide +kernel
theorem dJ0_charAt_5068e_21 : decode cJ0_charAt_5068e 21 = .ok (.invokestatic 498, 3) := by decide +kernel
theorem dJ0_charAt_5068e_24 : decode cJ0_charAt_5068e 24 = .ok (.ireturn, 1) := by decide +kernel
theorem dJ0_coder_7d493_0 : decode cJ0_coder_7d493 0 = .ok (.getstatic 38, 3) := by decide +kernel
theorem dJ0_coder_7d493_3 : decode cJ0_coder_7d493 3 = .ok (.ifCond .eq 10, 3) := by decide +kernel
theorem dJ0_coder_7d493_6 : decode cJ0_coder_7d493 6 = .ok (.aload_n 0, 1) := by decide +kernel
theorem dJ0_coder_7d493_7 : decode cJ0_coder_7d493 7 = .ok (.getfield 15, 3) := by decide +kernel
theorem dJ0_coder_7d493_10 : decode cJ0_coder_7d493 10 = .ok (.goto 4, 3) := by decide +kernel
theorem dJ0_coder_7d493_13 : decode cJ0_coder_7d493 13 = .ok (.iconst 1, 1) := by decide +kernel
theorem dJ0_coder_7d493_14 : decode cJ0_coder_7d493 14 = .ok (.ireturn, 1) := by decide +kernel
theorem dJ0_isLatin1_aae02_0 : decode cJ0_isLatin1_aae02 0 = .ok (.getstatic 38, 3) := by decide +kernel
theorem dJ0_isLatin1_aae02_3 : decode cJ0_isLatin1_aae02 3 = .ok (.ifCond .eq 14, 3) := by decide +kernel
theorem dJ0_isLatin1_aae02_6 : decode cJ0_isLatin1_aae02 6 = .ok (.aload_n 0, 1) := by decide +kernel
theorem dJ0_isLatin1_aae02_7 : decode cJ0_isLatin1_aae02 7 = .ok (.getfield 15, 3) := by decide +kernel
theorem dJ0_isLatin1_aae02_10 : decode cJ0_isLatin1_aae02 10 = .ok (.ifCond .ne 7, 3) := by decide +kernel
theorem dJ0_isLatin1_aae02_13 : decode cJ0_isLatin1_aae02 13 = .ok (.iconst 1, 1) := by decide +kernel
theorem dJ0_isLatin1_aae02_14 : decode cJ0_isLatin1_aae02 14 = .ok (.goto 4, 3) := by decide +kernel
theorem dJ0_isLatin1_aae02_17 : decode cJ0_isLatin1_aae02 17 = .ok (.iconst 0, 1) := by decide +kernel
theorem dJ0_isLatin1_aae02_18 : decode cJ0_isLatin1_aae02 18 = .ok (.ireturn, 1) := by decide +kernel
theorem dJ0_checkIndex_df160_0 : decode cJ0_checkIndex_df160 0 = .ok (.iload_n 0, 1) := by decide +kernel
theorem dJ0_checkIndex_df160_1 : decode cJ0_checkIndex_df160 1 = .ok (.iload_n 1, 1) := by decide +kernel
theorem dJ0_checkIndex_df160_2 : decode cJ0_checkIndex_df160 2 = .ok (.getstatic 1053, 3) := by decide +kernel
theorem dJ0_checkIndex_df160_5 : decode cJ0_checkIndex_df160 5 = .ok (.invokestatic 1059, 3) := by decide +kernel
theorem dJ0_checkIndex_df160_8 : decode cJ0_checkIndex_df160 8 = .ok (.pop, 1) := by decide +kernel
theorem dJ0_checkIndex_df160_9 : decode cJ0_checkIndex_df160 9 = .ok (.return_, 1) := by decide +kernel
theorem dJ1_charAt_3b067_0 : decode cJ1_charAt_3b067 0 = .ok (.iload_n 1, 1) := by decide +kernel
theorem dJ1_charAt_3b067_1 : decode cJ1_charAt_3b067 1 = .ok (.aload_n 0, 1) := by decide +kernel
theorem dJ1_charAt_3b067_2 : decode cJ1_charAt_3b067 2 = .ok (.arraylength, 1) := by decide +kernel
theorem dJ1_charAt_3b067_3 : decode cJ1_charAt_3b067 3 = .ok (.invokestatic 9, 3) := by decide +kernel
theorem dJ1_charAt_3b067_6 : decode cJ1_charAt_3b067 6 = .ok (.aload_n 0, 1) := by decide +kernel
theorem dJ1_charAt_3b067_7 : decode cJ1_charAt_3b067 7 = .ok (.iload_n 1, 1) := by decide +kernel
theorem dJ1_charAt_3b067_8 : decode cJ1_charAt_3b067 8 = .ok (.baload, 1) := by decide +kernel
theorem dJ1_charAt_3b067_9 : decode cJ1_charAt_3b067 9 = .ok (.sipush 255, 3) := by decide +kernel
theorem dJ1_charAt_3b067_12 : decode cJ1_charAt_3b067 12 = .ok (.iand, 1) := by decide +kernel
theorem dJ1_charAt_3b067_13 : decode cJ1_charAt_3b067 13 = .ok (.i2c, 1) := by decide +kernel
theorem dJ1_charAt_3b067_14 : decode cJ1_charAt_3b067 14 = .ok (.ireturn, 1) := by decide +kernel
theorem dJ2_getChar_3b067_0 : decode cJ2_getChar_3b067 0 = .ok (.getstatic 44, 3) := by decide +kernel
theorem dJ2_getChar_3b067_3 : decode cJ2_getChar_3b067 3 = .ok (.ifCond .ne 25, 3) := by decide +kernel
theorem dJ2_getChar_3b067_6 : decode cJ2_getChar_3b067 6 = .ok (.iload_n 1, 1) := by decide +kernel
theorem dJ2_getChar_3b067_7 : decode cJ2_getChar_3b067 7 = .ok (.ifCond .lt 11, 3) := by decide +kernel
theorem dJ2_getChar_3b067_10 : decode cJ2_getChar_3b067 10 = .ok (.iload_n 1, 1) := by decide +kernel
theorem dJ2_getChar_3b067_11 : decode cJ2_getChar_3b067 11 = .ok (.aload_n 0, 1) := by decide +kernel
theorem dJ2_getChar_3b067_12 : decode cJ2_getChar_3b067 12 = .ok (.invokestatic 48, 3) := by decide +kernel
theorem dJ2_getChar_3b067_15 : decode cJ2_getChar_3b067 15 = .ok (.if_icmp .lt 13, 3) := by decide +kernel
theorem dJ2_getChar_3b067_18 : decode cJ2_getChar_3b067 18 = .ok (.new 52, 3) := by decide +kernel
theorem dJ2_getChar_3b067_21 : decode cJ2_getChar_3b067 21 = .ok (.dup, 1) := by decide +kernel
theorem dJ2_getChar_3b067_22 : decode cJ2_getChar_3b067 22 = .ok (.ldc 54, 2) := by decide +kernel
theorem dJ2_getChar_3b067_24 : decode cJ2_getChar_3b067 24 = .ok (.invokespecial 56, 3) := by decide +kernel
theorem dJ2_getChar_3b067_27 : decode cJ2_getChar_3b067 27 = .ok (.athrow, 1) := by decide +kernel
theorem dJ2_getChar_3b067_28 : decode cJ2_getChar_3b067 28 = .ok (.iload_n 1, 1) := by decide +kernel
theorem dJ2_getChar_3b067_29 : decode cJ2_getChar_3b067 29 = .ok (.iconst 1, 1) := by decide +kernel
theorem dJ2_getChar_3b067_30 : decode cJ2_getChar_3b067 30 = .ok (.ishl, 1) := by decide +kernel
theorem dJ2_getChar_3b067_31 : decode cJ2_getChar_3b067 31 = .ok (.istore_n 1, 1) := by decide +kernel
theorem dJ2_getChar_3b067_32 : decode cJ2_getChar_3b067 32 = .ok (.aload_n 0, 1) := by decide +kernel
theorem dJ2_getChar_3b067_33 : decode cJ2_getChar_3b067 33 = .ok (.iload_n 1, 1) := by decide +kernel
theorem dJ2_getChar_3b067_34 : decode cJ2_getChar_3b067 34 = .ok (.iinc 1 1, 3) := by decide +kernel
theorem dJ2_getChar_3b067_37 : decode cJ2_getChar_3b067 37 = .ok (.baload, 1) := by decide +kernel
theorem dJ2_getChar_3b067_38 : decode cJ2_getChar_3b067 38 = .ok (.sipush 255, 3) := by decide +kernel
theorem dJ2_getChar_3b067_41 : decode cJ2_getChar_3b067 41 = .ok (.iand, 1) := by decide +kernel
theorem dJ2_getChar_3b067_42 : decode cJ2_getChar_3b067 42 = .ok (.getstatic 59, 3) := by decide +kernel
theorem dJ2_getChar_3b067_45 : decode cJ2_getChar_3b067 45 = .ok (.ishl, 1) := by decide +kernel
theorem dJ2_getChar_3b067_46 : decode cJ2_getChar_3b067 46 = .ok (.aload_n 0, 1) := by decide +kernel
theorem dJ2_getChar_3b067_47 : decode cJ2_getChar_3b067 47 = .ok (.iload_n 1, 1) := by decide +kernel
theorem dJ2_getChar_3b067_48 : decode cJ2_getChar_3b067 48 = .ok (.baload, 1) := by decide +kernel
theorem dJ2_getChar_3b067_49 : decode cJ2_getChar_3b067 49 = .ok (.sipush 255, 3) := by decide +kernel
theorem dJ2_getChar_3b067_52 : decode cJ2_getChar_3b067 52 = .ok (.iand, 1) := by decide +kernel
theorem dJ2_getChar_3b067_53 : decode cJ2_getChar_3b067 53 = .ok (.getstatic 63, 3) := by decide +kernel
theorem dJ2_getChar_3b067_56 : decode cJ2_getChar_3b067 56 = .ok (.ishl, 1) := by decide +kernel
theorem dJ2_getChar_3b067_57 : decode cJ2_getChar_3b067 57 = .ok (.ior, 1) := by decide +kernel
theorem dJ2_getChar_3b067_58 : decode cJ2_getChar_3b067 58 = .ok (.i2c, 1) := by decide +kernel
theorem dJ2_getChar_3b067_59 : decode cJ2_getChar_3b067 59 = .ok (.ireturn, 1) := by decide +kernel
theorem dJ2_length_9d52b_0 : decode cJ2_length_9d52b 0 = .ok (.aload_n 0, 1) := by decide +kernel
theorem dJ2_length_9d52b_1 : decode cJ2_length_9d52b 1 = .ok (.arraylength, 1) := by decide +kernel
theorem dJ2_length_9d52b_2 : decode cJ2_length_9d52b 2 = .ok (.iconst 1, 1) := by decide +kernel
theorem dJ2_length_9d52b_3 : decode cJ2_length_9d52b 3 = .ok (.ishr, 1) := by decide +kernel
theorem dJ2_length_9d52b_4 : decode cJ2_length_9d52b 4 = .ok (.ireturn, 1) := by decide +kernel
theorem dJ2_charAt_3b067_0 : decode cJ2_charAt_3b067 0 = .ok (.iload_n 1, 1) := by decide +kernel
theorem dJ2_charAt_3b067_1 : decode cJ2_charAt_3b067 1 = .ok (.aload_n 0, 1) := by decide +kernel
theorem dJ2_charAt_3b067_2 : decode cJ2_charAt_3b067 2 = .ok (.invokestatic 67, 3) := by decide +kernel
theorem dJ2_charAt_3b067_5 : decode cJ2_charAt_3b067 5 = .ok (.aload_n 0, 1) := by decide +kernel
theorem dJ2_charAt_3b067_6 : decode cJ2_charAt_3b067 6 = .ok (.iload_n 1, 1) := by decide +kernel
theorem dJ2_charAt_3b067_7 : decode cJ2_charAt_3b067 7 = .ok (.invokestatic 71, 3) := by decide +kernel
theorem dJ2_charAt_3b067_10 : decode cJ2_charAt_3b067 10 = .ok (.ireturn, 1) := by decide +kernel
theorem dJ2_checkIndex_2214a_0 : decode cJ2_checkIndex_2214a 0 = .ok (.iload_n 0, 1) := by decide +kernel
theorem dJ2_checkIndex_2214a_1 : decode cJ2_checkIndex_2214a 1 = .ok (.aload_n 1, 1) := by decide +kernel
theorem dJ2_checkIndex_2214a_2 : decode cJ2_checkIndex_2214a 2 = .ok (.invokestatic 48, 3) := by decide +kernel
theorem dJ2_checkIndex_2214a_5 : decode cJ2_checkIndex_2214a 5 = .ok (.invokestatic 414, 3) := by decide +kernel
theorem dJ2_checkIndex_2214a_8 : decode cJ2_checkIndex_2214a 8 = .ok (.return_, 1) := by decide +kernel
theorem dJ7_fill_53178_0 : decode cJ7_fill_53178 0 = .ok (.iconst 0, 1) := by decide +kernel
theorem dJ7_fill_53178_1 : decode cJ7_fill_53178 1 = .ok (.istore_n 2, 1) := by decide +kernel
theorem dJ7_fill_53178_2 : decode cJ7_fill_53178 2 = .ok (.aload_n 0, 1) := by decide +kernel
theorem dJ7_fill_53178_3 : decode cJ7_fill_53178 3 = .ok (.arraylength, 1) := by decide +kernel
theorem dJ7_fill_53178_4 : decode cJ7_fill_53178 4 = .ok (.istore_n 3, 1) := by decide +kernel
theorem dJ7_fill_53178_5 : decode cJ7_fill_53178 5 = .ok (.iload_n 2, 1) := by decide +kernel
theorem dJ7_fill_53178_6 : decode cJ7_fill_53178 6 = .ok (.iload_n 3, 1) := by decide +kernel
theorem dJ7_fill_53178_7 : decode cJ7_fill_53178 7 = .ok (.if_icmp .ge 13, 3) := by decide +kernel
theorem dJ7_fill_53178_10 : decode cJ7_fill_53178 10 = .ok (.aload_n 0, 1) := by decide +kernel
theorem dJ7_fill_53178_11 : decode cJ7_fill_53178 11 = .ok (.iload_n 2, 1) := by decide +kernel
theorem dJ7_fill_53178_12 : decode cJ7_fill_53178 12 = .ok (.iload_n 1, 1) := by decide +kernel
theorem dJ7_fill_53178_13 : decode cJ7_fill_53178 13 = .ok (.iastore, 1) := by decide +kernel
theorem dJ7_fill_53178_14 : decode cJ7_fill_53178 14 = .ok (.iinc 2 1, 3) := by decide +kernel
theorem dJ7_fill_53178_17 : decode cJ7_fill_53178 17 = .ok (.goto (-12), 3) := by decide +kernel
theorem dJ7_fill_53178_20 : decode cJ7_fill_53178 20 = .ok (.return_, 1) := by decide +kernel
theorem dJ3_checkIndex_8e157_0 : decode cJ3_checkIndex_8e157 0 = .ok (.iload_n 0, 1) := by decide +kernel
theorem dJ3_checkIndex_8e157_1 : decode cJ3_checkIndex_8e157 1 = .ok (.ifCond .lt 8, 3) := by decide +kernel
theorem dJ3_checkIndex_8e157_4 : decode cJ3_checkIndex_8e157 4 = .ok (.iload_n 0, 1) := by decide +kernel
theorem dJ3_checkIndex_8e157_5 : decode cJ3_checkIndex_8e157 5 = .ok (.iload_n 1, 1) := by decide +kernel
theorem dJ3_checkIndex_8e157_6 : decode cJ3_checkIndex_8e157 6 = .ok (.if_icmp .lt 10, 3) := by decide +kernel
theorem dJ3_checkIndex_8e157_9 : decode cJ3_checkIndex_8e157 9 = .ok (.aload_n 2, 1) := by decide +kernel
theorem dJ3_checkIndex_8e157_10 : decode cJ3_checkIndex_8e157 10 = .ok (.iload_n 0, 1) := by decide +kernel
theorem dJ3_checkIndex_8e157_11 : decode cJ3_checkIndex_8e157 11 = .ok (.iload_n 1, 1) := by decide +kernel
theorem dJ3_checkIndex_8e157_12 : decode cJ3_checkIndex_8e157 12 = .ok (.invokestatic 95, 3) := by decide +kernel
theorem dJ3_checkIndex_8e157_15 : decode cJ3_checkIndex_8e157 15 = .ok (.athrow, 1) := by decide +kernel
theorem dJ3_checkIndex_8e157_16 : decode cJ3_checkIndex_8e157 16 = .ok (.iload_n 0, 1) := by decide +kernel
theorem dJ3_checkIndex_8e157_17 : decode cJ3_checkIndex_8e157 17 = .ok (.ireturn, 1) := by decide +kernel
theorem dL_appendInput_0 : decode cL_appendInput 0 = .ok (.aload 6, 2) := by decide +kernel
theorem dL_appendInput_2 : decode cL_appendInput 2 = .ok (.iconst 0, 1) := by decide +kernel
theorem dL_appendInput_3 : decode cL_appendInput 3 = .ok (.aload_n 0, 1) := by decide +kernel
theorem dL_appendInput_4 : decode cL_appendInput 4 = .ok (.iload_n 1, 1) := by decide +kernel
theorem dL_appendInput_5 : decode cL_appendInput 5 = .ok (.iload_n 2, 1) := by decide +kernel
theorem dL_appendInput_6 : decode cL_appendInput 6 = .ok (.iload_n 3, 1) := by decide +kernel
theorem dL_appendInput_7 : decode cL_appendInput 7 = .ok (.iload 4, 2) := by decide +kernel
theorem dL_appendInput_9 : decode cL_appendInput 9 = .ok (.iload 5, 2) := by decide +kernel
theorem dL_appendInput_11 : decode cL_appendInput 11 = .ok (.invokevirtual 7, 3) := by decide +kernel
theorem dL_appendInput_14 : decode cL_appendInput 14 = .ok (.i2l, 1) := by decide +kernel
theorem dL_appendInput_15 : decode cL_appendInput 15 = .ok (.lastore, 1) := by decide +kernel
theorem dL_appendInput_16 : decode cL_appendInput 16 = .ok (.goto 7, 3) := by decide +kernel
theorem dL_appendInput_19 : decode cL_appendInput 19 = .ok (.astore 7, 2) := by decide +kernel
theorem dL_appendInput_21 : decode cL_appendInput 21 = .ok (.iconst 1, 1) := by decide +kernel
theorem dL_appendInput_22 : decode cL_appendInput 22 = .ok (.ireturn, 1) := by decide +kernel
theorem dL_appendInput_23 : decode cL_appendInput 23 = .ok (.iconst 0, 1) := by decide +kernel
theorem dL_appendInput_24 : decode cL_appendInput 24 = .ok (.ireturn, 1) := by decide +kernel
theorem dL_truncateInput_0 : decode cL_truncateInput 0 = .ok (.aload_n 2, 1) := by decide +kernel
theorem dL_truncateInput_1 : decode cL_truncateInput 1 = .ok (.iconst 0, 1) := by decide +kernel
theorem dL_truncateInput_2 : decode cL_truncateInput 2 = .ok (.aload_n 0, 1) := by decide +kernel
theorem dL_truncateInput_3 : decode cL_truncateInput 3 = .ok (.iload_n 1, 1) := by decide +kernel
theorem dL_truncateInput_4 : decode cL_truncateInput 4 = .ok (.invokevirtual 15, 3) := by decide +kernel
theorem dL_truncateInput_7 : decode cL_truncateInput 7 = .ok (.i2l, 1) := by decide +kernel
theorem dL_truncateInput_8 : decode cL_truncateInput 8 = .ok (.lastore, 1) := by decide +kernel
theorem dL_truncateInput_9 : decode cL_truncateInput 9 = .ok (.goto 6, 3) := by decide +kernel
theorem dL_truncateInput_12 : decode cL_truncateInput 12 = .ok (.astore_n 3, 1) := by decide +kernel
theorem dL_truncateInput_13 : decode cL_truncateInput 13 = .ok (.iconst 1, 1) := by decide +kernel
theorem dL_truncateInput_14 : decode cL_truncateInput 14 = .ok (.ireturn, 1) := by decide +kernel
theorem dL_truncateInput_15 : decode cL_truncateInput 15 = .ok (.iconst 0, 1) := by decide +kernel
theorem dL_truncateInput_16 : decode cL_truncateInput 16 = .ok (.ireturn, 1) := by decide +kernel
theorem dL_load_0 : decode cL_load 0 = .ok (.aload_n 1, 1) := by decide +kernel
theorem dL_load_1 : decode cL_load 1 = .ok (.iconst 0, 1) := by decide +kernel
theorem dL_load_2 : decode cL_load 2 = .ok (.aload_n 0, 1) := by decide +kernel
theorem dL_load_3 : decode cL_load 3 = .ok (.invokevirtual 21, 3) := by decide +kernel
theorem dL_load_6 : decode cL_load 6 = .ok (.i2l, 1) := by decide +kernel
theorem dL_load_7 : decode cL_load 7 = .ok (.lastore, 1) := by decide +kernel
theorem dL_load_8 : decode cL_load 8 = .ok (.goto 6, 3) := by decide +kernel
theorem dL_load_11 : decode cL_load 11 = .ok (.astore_n 2, 1) := by decide +kernel
theorem dL_load_12 : decode cL_load 12 = .ok (.iconst 1, 1) := by decide +kernel
theorem dL_load_13 : decode cL_load 13 = .ok (.ireturn, 1) := by decide +kernel
theorem dL_load_14 : decode cL_load 14 = .ok (.iconst 0, 1) := by decide +kernel
theorem dL_load_15 : decode cL_load 15 = .ok (.ireturn, 1) := by decide +kernel
theorem dL_faces_0 : decode cL_faces 0 = .ok (.aload_n 2, 1) := by decide +kernel
theorem dL_faces_1 : decode cL_faces 1 = .ok (.iconst 0, 1) := by decide +kernel
theorem dL_faces_2 : decode cL_faces 2 = .ok (.aload_n 0, 1) := by decide +kernel
theorem dL_faces_3 : decode cL_faces 3 = .ok (.iload_n 1, 1) := by decide +kernel
theorem dL_faces_4 : decode cL_faces 4 = .ok (.invokevirtual 25, 3) := by decide +kernel
theorem dL_faces_7 : decode cL_faces 7 = .ok (.i2l, 1) := by decide +kernel
theorem dL_faces_8 : decode cL_faces 8 = .ok (.lastore, 1) := by decide +kernel
theorem dL_faces_9 : decode cL_faces 9 = .ok (.goto 6, 3) := by decide +kernel
theorem dL_faces_12 : decode cL_faces 12 = .ok (.astore_n 3, 1) := by decide +kernel
theorem dL_faces_13 : decode cL_faces 13 = .ok (.iconst 1, 1) := by decide +kernel
theorem dL_faces_14 : decode cL_faces 14 = .ok (.ireturn, 1) := by decide +kernel
theorem dL_faces_15 : decode cL_faces 15 = .ok (.iconst 0, 1) := by decide +kernel
theorem dL_faces_16 : decode cL_faces 16 = .ok (.ireturn, 1) := by decide +kernel
theorem dL_weightOf_0 : decode cL_weightOf 0 = .ok (.aload_n 3, 1) := by decide +kernel
theorem dL_weightOf_1 : decode cL_weightOf 1 = .ok (.iconst 0, 1) := by decide +kernel
theorem dL_weightOf_2 : decode cL_weightOf 2 = .ok (.aload_n 0, 1) := by decide +kernel
theorem dL_weightOf_3 : decode cL_weightOf 3 = .ok (.iload_n 1, 1) := by decide +kernel
theorem dL_weightOf_4 : decode cL_weightOf 4 = .ok (.iload_n 2, 1) := by decide +kernel
theorem dL_weightOf_5 : decode cL_weightOf 5 = .ok (.invokevirtual 30, 3) := by decide +kernel
theorem dL_weightOf_8 : decode cL_weightOf 8 = .ok (.i2l, 1) := by decide +kernel
theorem dL_weightOf_9 : decode cL_weightOf 9 = .ok (.lastore, 1) := by decide +kernel
theorem dL_weightOf_10 : decode cL_weightOf 10 = .ok (.goto 11, 3) := by decide +kernel
theorem dL_weightOf_13 : decode cL_weightOf 13 = .ok (.astore 4, 2) := by decide +kernel
theorem dL_weightOf_15 : decode cL_weightOf 15 = .ok (.iconst 1, 1) := by decide +kernel
theorem dL_weightOf_16 : decode cL_weightOf 16 = .ok (.ireturn, 1) := by decide +kernel
theorem dL_weightOf_17 : decode cL_weightOf 17 = .ok (.astore 4, 2) := by decide +kernel
theorem dL_weightOf_19 : decode cL_weightOf 19 = .ok (.iconst 2, 1) := by decide +kernel
theorem dL_weightOf_20 : decode cL_weightOf 20 = .ok (.ireturn, 1) := by decide +kernel
theorem dL_weightOf_21 : decode cL_weightOf 21 = .ok (.iconst 0, 1) := by decide +kernel
theorem dL_weightOf_22 : decode cL_weightOf 22 = .ok (.ireturn, 1) := by decide +kernel
theorem dL_isBalanced_0 : decode cL_isBalanced 0 = .ok (.aload_n 2, 1) := by decide +kernel
theorem dL_isBalanced_1 : decode cL_isBalanced 1 = .ok (.iconst 0, 1) := by decide +kernel
theorem dL_isBalanced_2 : decode cL_isBalanced 2 = .ok (.aload_n 0, 1) := by decide +kernel
theorem dL_isBalanced_3 : decode cL_isBalanced 3 = .ok (.iload_n 1, 1) := by decide +kernel
theorem dL_isBalanced_4 : decode cL_isBalanced 4 = .ok (.invokevirtual 34, 3) := by decide +kernel
theorem dL_isBalanced_7 : decode cL_isBalanced 7 = .ok (.ifCond .eq 7, 3) := by decide +kernel
theorem dL_isBalanced_10 : decode cL_isBalanced 10 = .ok (.lconst 1, 1) := by decide +kernel
theorem dL_isBalanced_11 : decode cL_isBalanced 11 = .ok (.goto 4, 3) := by decide +kernel
theorem dL_isBalanced_14 : decode cL_isBalanced 14 = .ok (.lconst 0, 1) := by decide +kernel
theorem dL_isBalanced_15 : decode cL_isBalanced 15 = .ok (.lastore, 1) := by decide +kernel
theorem dL_isBalanced_16 : decode cL_isBalanced 16 = .ok (.goto 6, 3) := by decide +kernel
theorem dL_isBalanced_19 : decode cL_isBalanced 19 = .ok (.astore_n 3, 1) := by decide +kernel
theorem dL_isBalanced_20 : decode cL_isBalanced 20 = .ok (.iconst 1, 1) := by decide +kernel
theorem dL_isBalanced_21 : decode cL_isBalanced 21 = .ok (.ireturn, 1) := by decide +kernel
theorem dL_isBalanced_22 : decode cL_isBalanced 22 = .ok (.iconst 0, 1) := by decide +kernel
theorem dL_isBalanced_23 : decode cL_isBalanced 23 = .ok (.ireturn, 1) := by decide +kernel
theorem dL_heaviestFace_0 : decode cL_heaviestFace 0 = .ok (.aload_n 2, 1) := by decide +kernel
theorem dL_heaviestFace_1 : decode cL_heaviestFace 1 = .ok (.iconst 0, 1) := by decide +kernel
theorem dL_heaviestFace_2 : decode cL_heaviestFace 2 = .ok (.aload_n 0, 1) := by decide +kernel
theorem dL_heaviestFace_3 : decode cL_heaviestFace 3 = .ok (.iload_n 1, 1) := by decide +kernel
theorem dL_heaviestFace_4 : decode cL_heaviestFace 4 = .ok (.invokevirtual 38, 3) := by decide +kernel
theorem dL_heaviestFace_7 : decode cL_heaviestFace 7 = .ok (.i2l, 1) := by decide +kernel
theorem dL_heaviestFace_8 : decode cL_heaviestFace 8 = .ok (.lastore, 1) := by decide +kernel
theorem dL_heaviestFace_9 : decode cL_heaviestFace 9 = .ok (.goto 6, 3) := by decide +kernel
theorem dL_heaviestFace_12 : decode cL_heaviestFace 12 = .ok (.astore_n 3, 1) := by decide +kernel
theorem dL_heaviestFace_13 : decode cL_heaviestFace 13 = .ok (.iconst 1, 1) := by decide +kernel
theorem dL_heaviestFace_14 : decode cL_heaviestFace 14 = .ok (.ireturn, 1) := by decide +kernel
theorem dL_heaviestFace_15 : decode cL_heaviestFace 15 = .ok (.iconst 0, 1) := by decide +kernel
theorem dL_heaviestFace_16 : decode cL_heaviestFace 16 = .ok (.ireturn, 1) := by decide +kernel
theorem dL_nameByte_0 : decode cL_nameByte 0 = .ok (.aload_n 3, 1) := by decide +kernel
theorem dL_nameByte_1 : decode cL_nameByte 1 = .ok (.iconst 0, 1) := by decide +kernel
theorem dL_nameByte_2 : decode cL_nameByte 2 = .ok (.aload_n 0, 1) := by decide +kernel
theorem dL_nameByte_3 : decode cL_nameByte 3 = .ok (.iload_n 1, 1) := by decide +kernel
theorem dL_nameByte_4 : decode cL_nameByte 4 = .ok (.iload_n 2, 1) := by decide +kernel
theorem dL_nameByte_5 : decode cL_nameByte 5 = .ok (.invokevirtual 41, 3) := by decide +kernel
theorem dL_nameByte_8 : decode cL_nameByte 8 = .ok (.i2l, 1) := by decide +kernel
theorem dL_nameByte_9 : decode cL_nameByte 9 = .ok (.lastore, 1) := by decide +kernel
theorem dL_nameByte_10 : decode cL_nameByte 10 = .ok (.goto 11, 3) := by decide +kernel
theorem dL_nameByte_13 : decode cL_nameByte 13 = .ok (.astore 4, 2) := by decide +kernel
theorem dL_nameByte_15 : decode cL_nameByte 15 = .ok (.iconst 1, 1) := by decide +kernel
theorem dL_nameByte_16 : decode cL_nameByte 16 = .ok (.ireturn, 1) := by decide +kernel
theorem dL_nameByte_17 : decode cL_nameByte 17 = .ok (.astore 4, 2) := by decide +kernel
theorem dL_nameByte_19 : decode cL_nameByte 19 = .ok (.iconst 2, 1) := by decide +kernel
theorem dL_nameByte_20 : decode cL_nameByte 20 = .ok (.ireturn, 1) := by decide +kernel
theorem dL_nameByte_21 : decode cL_nameByte 21 = .ok (.iconst 0, 1) := by decide +kernel
theorem dL_nameByte_22 : decode cL_nameByte 22 = .ok (.ireturn, 1) := by decide +kernel
theorem dL_playerAt_0 : decode cL_playerAt 0 = .ok (.aload_n 2, 1) := by decide +kernel
theorem dL_playerAt_1 : decode cL_playerAt 1 = .ok (.iconst 0, 1) := by decide +kernel
theorem dL_playerAt_2 : decode cL_playerAt 2 = .ok (.aload_n 0, 1) := by decide +kernel
theorem dL_playerAt_3 : decode cL_playerAt 3 = .ok (.iload_n 1, 1) := by decide +kernel
theorem dL_playerAt_4 : decode cL_playerAt 4 = .ok (.invokevirtual 46, 3) := by decide +kernel
theorem dL_playerAt_7 : decode cL_playerAt 7 = .ok (.i2l, 1) := by decide +kernel
theorem dL_playerAt_8 : decode cL_playerAt 8 = .ok (.lastore, 1) := by decide +kernel
theorem dL_playerAt_9 : decode cL_playerAt 9 = .ok (.goto 6, 3) := by decide +kernel
theorem dL_playerAt_12 : decode cL_playerAt 12 = .ok (.astore_n 3, 1) := by decide +kernel
theorem dL_playerAt_13 : decode cL_playerAt 13 = .ok (.iconst 1, 1) := by decide +kernel
theorem dL_playerAt_14 : decode cL_playerAt 14 = .ok (.ireturn, 1) := by decide +kernel
theorem dL_playerAt_15 : decode cL_playerAt 15 = .ok (.iconst 0, 1) := by decide +kernel
theorem dL_playerAt_16 : decode cL_playerAt 16 = .ok (.ireturn, 1) := by decide +kernel
theorem dL_dieAt_0 : decode cL_dieAt 0 = .ok (.aload_n 2, 1) := by decide +kernel
theorem dL_dieAt_1 : decode cL_dieAt 1 = .ok (.iconst 0, 1) := by decide +kernel
theorem dL_dieAt_2 : decode cL_dieAt 2 = .ok (.aload_n 0, 1) := by decide +kernel
theorem dL_dieAt_3 : decode cL_dieAt 3 = .ok (.iload_n 1, 1) := by decide +kernel
theorem dL_dieAt_4 : decode cL_dieAt 4 = .ok (.invokevirtual 49, 3) := by decide +kernel
theorem dL_dieAt_7 : decode cL_dieAt 7 = .ok (.i2l, 1) := by decide +kernel
theorem dL_dieAt_8 : decode cL_dieAt 8 = .ok (.lastore, 1) := by decide +kernel
theorem dL_dieAt_9 : decode cL_dieAt 9 = .ok (.goto 6, 3) := by decide +kernel
theorem dL_dieAt_12 : decode cL_dieAt 12 = .ok (.astore_n 3, 1) := by decide +kernel
theorem dL_dieAt_13 : decode cL_dieAt 13 = .ok (.iconst 1, 1) := by decide +kernel
theorem dL_dieAt_14 : decode cL_dieAt 14 = .ok (.ireturn, 1) := by decide +kernel
theorem dL_dieAt_15 : decode cL_dieAt 15 = .ok (.iconst 0, 1) := by decide +kernel
theorem dL_dieAt_16 : decode cL_dieAt 16 = .ok (.ireturn, 1) := by decide +kernel
theorem dL_faceAt_0 : decode cL_faceAt 0 = .ok (.aload_n 2, 1) := by decide +kernel
theorem dL_faceAt_1 : decode cL_faceAt 1 = .ok (.iconst 0, 1) := by decide +kernel
theorem dL_faceAt_2 : decode cL_faceAt 2 = .ok (.aload_n 0, 1) := by decide +kernel
theorem dL_faceAt_3 : decode cL_faceAt 3 = .ok (.iload_n 1, 1) := by decide +kernel
theorem dL_faceAt_4 : decode cL_faceAt 4 = .ok (.invokevirtual 52, 3) := by decide +kernel
theorem dL_faceAt_7 : decode cL_faceAt 7 = .ok (.i2l, 1) := by decide +kernel
theorem dL_faceAt_8 : decode cL_faceAt 8 = .ok (.lastore, 1) := by decide +kernel
theorem dL_faceAt_9 : decode cL_faceAt 9 = .ok (.goto 6, 3) := by decide +kernel
theorem dL_faceAt_12 : decode cL_faceAt 12 = .ok (.astore_n 3, 1) := by decide +kernel
theorem dL_faceAt_13 : decode cL_faceAt 13 = .ok (.iconst 1, 1) := by decide +kernel
theorem dL_faceAt_14 : decode cL_faceAt 14 = .ok (.ireturn, 1) := by decide +kernel
theorem dL_faceAt_15 : decode cL_faceAt 15 = .ok (.iconst 0, 1) := by decide +kernel
theorem dL_faceAt_16 : decode cL_faceAt 16 = .ok (.ireturn, 1) := by decide +kernel
theorem dL_isFairAt_0 : decode cL_isFairAt 0 = .ok (.aload_n 2, 1) := by decide +kernel
theorem dL_isFairAt_1 : decode cL_isFairAt 1 = .ok (.iconst 0, 1) := by decide +kernel
theorem dL_isFairAt_2 : decode cL_isFairAt 2 = .ok (.aload_n 0, 1) := by decide +kernel
theorem dL_isFairAt_3 : decode cL_isFairAt 3 = .ok (.iload_n 1, 1) := by decide +kernel
theorem dL_isFairAt_4 : decode cL_isFairAt 4 = .ok (.invokevirtual 55, 3) := by decide +kernel
theorem dL_isFairAt_7 : decode cL_isFairAt 7 = .ok (.ifCond .eq 7, 3) := by decide +kernel
theorem dL_isFairAt_10 : decode cL_isFairAt 10 = .ok (.lconst 1, 1) := by decide +kernel
theorem dL_isFairAt_11 : decode cL_isFairAt 11 = .ok (.goto 4, 3) := by decide +kernel
theorem dL_isFairAt_14 : decode cL_isFairAt 14 = .ok (.lconst 0, 1) := by decide +kernel
theorem dL_isFairAt_15 : decode cL_isFairAt 15 = .ok (.lastore, 1) := by decide +kernel
theorem dL_isFairAt_16 : decode cL_isFairAt 16 = .ok (.goto 6, 3) := by decide +kernel
theorem dL_isFairAt_19 : decode cL_isFairAt 19 = .ok (.astore_n 3, 1) := by decide +kernel
theorem dL_isFairAt_20 : decode cL_isFairAt 20 = .ok (.iconst 1, 1) := by decide +kernel
theorem dL_isFairAt_21 : decode cL_isFairAt 21 = .ok (.ireturn, 1) := by decide +kernel
theorem dL_isFairAt_22 : decode cL_isFairAt 22 = .ok (.iconst 0, 1) := by decide +kernel
theorem dL_isFairAt_23 : decode cL_isFairAt 23 = .ok (.ireturn, 1) := by decide +kernel
theorem dL_throwsOf_0 : decode cL_throwsOf 0 = .ok (.aload_n 2, 1) := by decide +kernel
theorem dL_throwsOf_1 : decode cL_throwsOf 1 = .ok (.iconst 0, 1) := by decide +kernel
theorem dL_throwsOf_2 : decode cL_throwsOf 2 = .ok (.aload_n 0, 1) := by decide +kernel
theorem dL_throwsOf_3 : decode cL_throwsOf 3 = .ok (.iload_n 1, 1) := by decide +kernel
theorem dL_throwsOf_4 : decode cL_throwsOf 4 = .ok (.invokevirtual 58, 3) := by decide +kernel
theorem dL_throwsOf_7 : decode cL_throwsOf 7 = .ok (.i2l, 1) := by decide +kernel
theorem dL_throwsOf_8 : decode cL_throwsOf 8 = .ok (.lastore, 1) := by decide +kernel
theorem dL_throwsOf_9 : decode cL_throwsOf 9 = .ok (.goto 6, 3) := by decide +kernel
theorem dL_throwsOf_12 : decode cL_throwsOf 12 = .ok (.astore_n 3, 1) := by decide +kernel
theorem dL_throwsOf_13 : decode cL_throwsOf 13 = .ok (.iconst 1, 1) := by decide +kernel
theorem dL_throwsOf_14 : decode cL_throwsOf 14 = .ok (.ireturn, 1) := by decide +kernel
theorem dL_throwsOf_15 : decode cL_throwsOf 15 = .ok (.iconst 0, 1) := by decide +kernel
theorem dL_throwsOf_16 : decode cL_throwsOf 16 = .ok (.ireturn, 1) := by decide +kernel
theorem dL_total_0 : decode cL_total 0 = .ok (.aload_n 2, 1) := by decide +kernel
theorem dL_total_1 : decode cL_total 1 = .ok (.iconst 0, 1) := by decide +kernel
theorem dL_total_2 : decode cL_total 2 = .ok (.aload_n 0, 1) := by decide +kernel
theorem dL_total_3 : decode cL_total 3 = .ok (.iload_n 1, 1) := by decide +kernel
theorem dL_total_4 : decode cL_total 4 = .ok (.invokevirtual 61, 3) := by decide +kernel
theorem dL_total_7 : decode cL_total 7 = .ok (.i2l, 1) := by decide +kernel
theorem dL_total_8 : decode cL_total 8 = .ok (.lastore, 1) := by decide +kernel
theorem dL_total_9 : decode cL_total 9 = .ok (.goto 6, 3) := by decide +kernel
theorem dL_total_12 : decode cL_total 12 = .ok (.astore_n 3, 1) := by decide +kernel
theorem dL_total_13 : decode cL_total 13 = .ok (.iconst 1, 1) := by decide +kernel
theorem dL_total_14 : decode cL_total 14 = .ok (.ireturn, 1) := by decide +kernel
theorem dL_total_15 : decode cL_total 15 = .ok (.iconst 0, 1) := by decide +kernel
theorem dL_total_16 : decode cL_total 16 = .ok (.ireturn, 1) := by decide +kernel
theorem dL_meanFace_0 : decode cL_meanFace 0 = .ok (.aload_n 2, 1) := by decide +kernel
theorem dL_meanFace_1 : decode cL_meanFace 1 = .ok (.iconst 0, 1) := by decide +kernel
theorem dL_meanFace_2 : decode cL_meanFace 2 = .ok (.aload_n 0, 1) := by decide +kernel
theorem dL_meanFace_3 : decode cL_meanFace 3 = .ok (.iload_n 1, 1) := by decide +kernel
theorem dL_meanFace_4 : decode cL_meanFace 4 = .ok (.invokevirtual 64, 3) := by decide +kernel
theorem dL_meanFace_7 : decode cL_meanFace 7 = .ok (.dastore, 1) := by decide +kernel
theorem dL_meanFace_8 : decode cL_meanFace 8 = .ok (.goto 6, 3) := by decide +kernel
theorem dL_meanFace_11 : decode cL_meanFace 11 = .ok (.astore_n 3, 1) := by decide +kernel
theorem dL_meanFace_12 : decode cL_meanFace 12 = .ok (.iconst 1, 1) := by decide +kernel
theorem dL_meanFace_13 : decode cL_meanFace 13 = .ok (.ireturn, 1) := by decide +kernel
theorem dL_meanFace_14 : decode cL_meanFace 14 = .ok (.iconst 0, 1) := by decide +kernel
theorem dL_meanFace_15 : decode cL_meanFace 15 = .ok (.ireturn, 1) := by decide +kernel
theorem dL_rankOf_0 : decode cL_rankOf 0 = .ok (.aload_n 2, 1) := by decide +kernel
theorem dL_rankOf_1 : decode cL_rankOf 1 = .ok (.iconst 0, 1) := by decide +kernel
theorem dL_rankOf_2 : decode cL_rankOf 2 = .ok (.aload_n 0, 1) := by decide +kernel
theorem dL_rankOf_3 : decode cL_rankOf 3 = .ok (.iload_n 1, 1) := by decide +kernel
theorem dL_rankOf_4 : decode cL_rankOf 4 = .ok (.invokevirtual 68, 3) := by decide +kernel
theorem dL_rankOf_7 : decode cL_rankOf 7 = .ok (.i2l, 1) := by decide +kernel
theorem dL_rankOf_8 : decode cL_rankOf 8 = .ok (.lastore, 1) := by decide +kernel
theorem dL_rankOf_9 : decode cL_rankOf 9 = .ok (.goto 6, 3) := by decide +kernel
theorem dL_rankOf_12 : decode cL_rankOf 12 = .ok (.astore_n 3, 1) := by decide +kernel
theorem dL_rankOf_13 : decode cL_rankOf 13 = .ok (.iconst 1, 1) := by decide +kernel
theorem dL_rankOf_14 : decode cL_rankOf 14 = .ok (.ireturn, 1) := by decide +kernel
theorem dL_rankOf_15 : decode cL_rankOf 15 = .ok (.iconst 0, 1) := by decide +kernel
theorem dL_rankOf_16 : decode cL_rankOf 16 = .ok (.ireturn, 1) := by decide +kernel
theorem dL_playerWithRank_0 : decode cL_playerWithRank 0 = .ok (.aload_n 2, 1) := by decide +kernel
theorem dL_playerWithRank_1 : decode cL_playerWithRank 1 = .ok (.iconst 0, 1) := by decide +kernel
theorem dL_playerWithRank_2 : decode cL_playerWithRank 2 = .ok (.aload_n 0, 1) := by decide +kernel
theorem dL_playerWithRank_3 : decode cL_playerWithRank 3 = .ok (.iload_n 1, 1) := by decide +kernel
theorem dL_playerWithRank_4 : decode cL_playerWithRank 4 = .ok (.invokevirtual 71, 3) := by decide +kernel
theorem dL_playerWithRank_7 : decode cL_playerWithRank 7 = .ok (.i2l, 1) := by decide +kernel
theorem dL_playerWithRank_8 : decode cL_playerWithRank 8 = .ok (.lastore, 1) := by decide +kernel
theorem dL_playerWithRank_9 : decode cL_playerWithRank 9 = .ok (.goto 6, 3) := by decide +kernel
theorem dL_playerWithRank_12 : decode cL_playerWithRank 12 = .ok (.astore_n 3, 1) := by decide +kernel
theorem dL_playerWithRank_13 : decode cL_playerWithRank 13 = .ok (.iconst 1, 1) := by decide +kernel
theorem dL_playerWithRank_14 : decode cL_playerWithRank 14 = .ok (.ireturn, 1) := by decide +kernel
theorem dL_playerWithRank_15 : decode cL_playerWithRank 15 = .ok (.iconst 0, 1) := by decide +kernel
theorem dL_playerWithRank_16 : decode cL_playerWithRank 16 = .ok (.ireturn, 1) := by decide +kernel
theorem dL_longestRun_0 : decode cL_longestRun 0 = .ok (.aload_n 2, 1) := by decide +kernel
theorem dL_longestRun_1 : decode cL_longestRun 1 = .ok (.iconst 0, 1) := by decide +kernel
theorem dL_longestRun_2 : decode cL_longestRun 2 = .ok (.aload_n 0, 1) := by decide +kernel
theorem dL_longestRun_3 : decode cL_longestRun 3 = .ok (.iload_n 1, 1) := by decide +kernel
theorem dL_longestRun_4 : decode cL_longestRun 4 = .ok (.invokevirtual 74, 3) := by decide +kernel
theorem dL_longestRun_7 : decode cL_longestRun 7 = .ok (.i2l, 1) := by decide +kernel
theorem dL_longestRun_8 : decode cL_longestRun 8 = .ok (.lastore, 1) := by decide +kernel
theorem dL_longestRun_9 : decode cL_longestRun 9 = .ok (.goto 6, 3) := by decide +kernel
theorem dL_longestRun_12 : decode cL_longestRun 12 = .ok (.astore_n 3, 1) := by decide +kernel
theorem dL_longestRun_13 : decode cL_longestRun 13 = .ok (.iconst 1, 1) := by decide +kernel
theorem dL_longestRun_14 : decode cL_longestRun 14 = .ok (.ireturn, 1) := by decide +kernel
theorem dL_longestRun_15 : decode cL_longestRun 15 = .ok (.iconst 0, 1) := by decide +kernel
theorem dL_longestRun_16 : decode cL_longestRun 16 = .ok (.ireturn, 1) := by decide +kernel
theorem dL_throwsOfPair_0 : decode cL_throwsOfPair 0 = .ok (.aload_n 3, 1) := by decide +kernel
theorem dL_throwsOfPair_1 : decode cL_throwsOfPair 1 = .ok (.iconst 0, 1) := by decide +kernel
theorem dL_throwsOfPair_2 : decode cL_throwsOfPair 2 = .ok (.aload_n 0, 1) := by decide +kernel
theorem dL_throwsOfPair_3 : decode cL_throwsOfPair 3 = .ok (.iload_n 1, 1) := by decide +kernel
theorem dL_throwsOfPair_4 : decode cL_throwsOfPair 4 = .ok (.iload_n 2, 1) := by decide +kernel
theorem dL_throwsOfPair_5 : decode cL_throwsOfPair 5 = .ok (.invokevirtual 77, 3) := by decide +kernel
theorem dL_throwsOfPair_8 : decode cL_throwsOfPair 8 = .ok (.i2l, 1) := by decide +kernel
theorem dL_throwsOfPair_9 : decode cL_throwsOfPair 9 = .ok (.lastore, 1) := by decide +kernel
theorem dL_throwsOfPair_10 : decode cL_throwsOfPair 10 = .ok (.goto 7, 3) := by decide +kernel
theorem dL_throwsOfPair_13 : decode cL_throwsOfPair 13 = .ok (.astore 4, 2) := by decide +kernel
theorem dL_throwsOfPair_15 : decode cL_throwsOfPair 15 = .ok (.iconst 1, 1) := by decide +kernel
theorem dL_throwsOfPair_16 : decode cL_throwsOfPair 16 = .ok (.ireturn, 1) := by decide +kernel
theorem dL_throwsOfPair_17 : decode cL_throwsOfPair 17 = .ok (.iconst 0, 1) := by decide +kernel
theorem dL_throwsOfPair_18 : decode cL_throwsOfPair 18 = .ok (.ireturn, 1) := by decide +kernel
theorem dL_frequency_0 : decode cL_frequency 0 = .ok (.aload 4, 2) := by decide +kernel
theorem dL_frequency_2 : decode cL_frequency 2 = .ok (.iconst 0, 1) := by decide +kernel
theorem dL_frequency_3 : decode cL_frequency 3 = .ok (.aload_n 0, 1) := by decide +kernel
theorem dL_frequency_4 : decode cL_frequency 4 = .ok (.iload_n 1, 1) := by decide +kernel
theorem dL_frequency_5 : decode cL_frequency 5 = .ok (.iload_n 2, 1) := by decide +kernel
theorem dL_frequency_6 : decode cL_frequency 6 = .ok (.iload_n 3, 1) := by decide +kernel
theorem dL_frequency_7 : decode cL_frequency 7 = .ok (.invokevirtual 80, 3) := by decide +kernel
theorem dL_frequency_10 : decode cL_frequency 10 = .ok (.i2l, 1) := by decide +kernel
theorem dL_frequency_11 : decode cL_frequency 11 = .ok (.lastore, 1) := by decide +kernel
theorem dL_frequency_12 : decode cL_frequency 12 = .ok (.goto 11, 3) := by decide +kernel
theorem dL_frequency_15 : decode cL_frequency 15 = .ok (.astore 5, 2) := by decide +kernel
theorem dL_frequency_17 : decode cL_frequency 17 = .ok (.iconst 1, 1) := by decide +kernel
theorem dL_frequency_18 : decode cL_frequency 18 = .ok (.ireturn, 1) := by decide +kernel
theorem dL_frequency_19 : decode cL_frequency 19 = .ok (.astore 5, 2) := by decide +kernel
theorem dL_frequency_21 : decode cL_frequency 21 = .ok (.iconst 2, 1) := by decide +kernel
theorem dL_frequency_22 : decode cL_frequency 22 = .ok (.ireturn, 1) := by decide +kernel
theorem dL_frequency_23 : decode cL_frequency 23 = .ok (.iconst 0, 1) := by decide +kernel
theorem dL_frequency_24 : decode cL_frequency 24 = .ok (.ireturn, 1) := by decide +kernel
theorem dL_commonFace_0 : decode cL_commonFace 0 = .ok (.aload_n 3, 1) := by decide +kernel
theorem dL_commonFace_1 : decode cL_commonFace 1 = .ok (.iconst 0, 1) := by decide +kernel
theorem dL_commonFace_2 : decode cL_commonFace 2 = .ok (.aload_n 0, 1) := by decide +kernel
theorem dL_commonFace_3 : decode cL_commonFace 3 = .ok (.iload_n 1, 1) := by decide +kernel
theorem dL_commonFace_4 : decode cL_commonFace 4 = .ok (.iload_n 2, 1) := by decide +kernel
theorem dL_commonFace_5 : decode cL_commonFace 5 = .ok (.invokevirtual 84, 3) := by decide +kernel
theorem dL_commonFace_8 : decode cL_commonFace 8 = .ok (.i2l, 1) := by decide +kernel
theorem dL_commonFace_9 : decode cL_commonFace 9 = .ok (.lastore, 1) := by decide +kernel
theorem dL_commonFace_10 : decode cL_commonFace 10 = .ok (.goto 7, 3) := by decide +kernel
theorem dL_commonFace_13 : decode cL_commonFace 13 = .ok (.astore 4, 2) := by decide +kernel
theorem dL_commonFace_15 : decode cL_commonFace 15 = .ok (.iconst 1, 1) := by decide +kernel
theorem dL_commonFace_16 : decode cL_commonFace 16 = .ok (.ireturn, 1) := by decide +kernel
theorem dL_commonFace_17 : decode cL_commonFace 17 = .ok (.iconst 0, 1) := by decide +kernel
theorem dL_commonFace_18 : decode cL_commonFace 18 = .ok (.ireturn, 1) := by decide +kernel
theorem dL_facesSeen_0 : decode cL_facesSeen 0 = .ok (.aload_n 3, 1) := by decide +kernel
theorem dL_facesSeen_1 : decode cL_facesSeen 1 = .ok (.iconst 0, 1) := by decide +kernel
theorem dL_facesSeen_2 : decode cL_facesSeen 2 = .ok (.aload_n 0, 1) := by decide +kernel
theorem dL_facesSeen_3 : decode cL_facesSeen 3 = .ok (.iload_n 1, 1) := by decide +kernel
theorem dL_facesSeen_4 : decode cL_facesSeen 4 = .ok (.iload_n 2, 1) := by decide +kernel
theorem dL_facesSeen_5 : decode cL_facesSeen 5 = .ok (.invokevirtual 87, 3) := by decide +kernel
theorem dL_facesSeen_8 : decode cL_facesSeen 8 = .ok (.i2l, 1) := by decide +kernel
theorem dL_facesSeen_9 : decode cL_facesSeen 9 = .ok (.lastore, 1) := by decide +kernel
theorem dL_facesSeen_10 : decode cL_facesSeen 10 = .ok (.goto 7, 3) := by decide +kernel
theorem dL_facesSeen_13 : decode cL_facesSeen 13 = .ok (.astore 4, 2) := by decide +kernel
theorem dL_facesSeen_15 : decode cL_facesSeen 15 = .ok (.iconst 1, 1) := by decide +kernel
theorem dL_facesSeen_16 : decode cL_facesSeen 16 = .ok (.ireturn, 1) := by decide +kernel
theorem dL_facesSeen_17 : decode cL_facesSeen 17 = .ok (.iconst 0, 1) := by decide +kernel
theorem dL_facesSeen_18 : decode cL_facesSeen 18 = .ok (.ireturn, 1) := by decide +kernel
theorem dL_latestThrow_0 : decode cL_latestThrow 0 = .ok (.aload_n 3, 1) := by decide +kernel
theorem dL_latestThrow_1 : decode cL_latestThrow 1 = .ok (.iconst 0, 1) := by decide +kernel
theorem dL_latestThrow_2 : decode cL_latestThrow 2 = .ok (.aload_n 0, 1) := by decide +kernel
theorem dL_latestThrow_3 : decode cL_latestThrow 3 = .ok (.iload_n 1, 1) := by decide +kernel
theorem dL_latestThrow_4 : decode cL_latestThrow 4 = .ok (.iload_n 2, 1) := by decide +kernel
theorem dL_latestThrow_5 : decode cL_latestThrow 5 = .ok (.invokevirtual 90, 3) := by decide +kernel
theorem dL_latestThrow_8 : decode cL_latestThrow 8 = .ok (.i2l, 1) := by decide +kernel
theorem dL_latestThrow_9 : decode cL_latestThrow 9 = .ok (.lastore, 1) := by decide +kernel
theorem dL_latestThrow_10 : decode cL_latestThrow 10 = .ok (.goto 7, 3) := by decide +kernel
theorem dL_latestThrow_13 : decode cL_latestThrow 13 = .ok (.astore 4, 2) := by decide +kernel
theorem dL_latestThrow_15 : decode cL_latestThrow 15 = .ok (.iconst 1, 1) := by decide +kernel
theorem dL_latestThrow_16 : decode cL_latestThrow 16 = .ok (.ireturn, 1) := by decide +kernel
theorem dL_latestThrow_17 : decode cL_latestThrow 17 = .ok (.iconst 0, 1) := by decide +kernel
theorem dL_latestThrow_18 : decode cL_latestThrow 18 = .ok (.ireturn, 1) := by decide +kernel
theorem dL_score_0 : decode cL_score 0 = .ok (.aload_n 3, 1) := by decide +kernel
theorem dL_score_1 : decode cL_score 1 = .ok (.iconst 0, 1) := by decide +kernel
theorem dL_score_2 : decode cL_score 2 = .ok (.aload_n 0, 1) := by decide +kernel
theorem dL_score_3 : decode cL_score 3 = .ok (.iload_n 1, 1) := by decide +kernel
theorem dL_score_4 : decode cL_score 4 = .ok (.iload_n 2, 1) := by decide +kernel
theorem dL_score_5 : decode cL_score 5 = .ok (.invokevirtual 93, 3) := by decide +kernel
theorem dL_score_8 : decode cL_score 8 = .ok (.i2l, 1) := by decide +kernel
theorem dL_score_9 : decode cL_score 9 = .ok (.lastore, 1) := by decide +kernel
theorem dL_score_10 : decode cL_score 10 = .ok (.goto 7, 3) := by decide +kernel
theorem dL_score_13 : decode cL_score 13 = .ok (.astore 4, 2) := by decide +kernel
theorem dL_score_15 : decode cL_score 15 = .ok (.iconst 1, 1) := by decide +kernel
theorem dL_score_16 : decode cL_score 16 = .ok (.ireturn, 1) := by decide +kernel
theorem dL_score_17 : decode cL_score 17 = .ok (.iconst 0, 1) := by decide +kernel
theorem dL_score_18 : decode cL_score 18 = .ok (.ireturn, 1) := by decide +kernel
theorem dL_isSuspicious_0 : decode cL_isSuspicious 0 = .ok (.aload_n 3, 1) := by decide +kernel
theorem dL_isSuspicious_1 : decode cL_isSuspicious 1 = .ok (.iconst 0, 1) := by decide +kernel
theorem dL_isSuspicious_2 : decode cL_isSuspicious 2 = .ok (.aload_n 0, 1) := by decide +kernel
theorem dL_isSuspicious_3 : decode cL_isSuspicious 3 = .ok (.iload_n 1, 1) := by decide +kernel
theorem dL_isSuspicious_4 : decode cL_isSuspicious 4 = .ok (.iload_n 2, 1) := by decide +kernel
theorem dL_isSuspicious_5 : decode cL_isSuspicious 5 = .ok (.invokevirtual 96, 3) := by decide +kernel
theorem dL_isSuspicious_8 : decode cL_isSuspicious 8 = .ok (.ifCond .eq 7, 3) := by decide +kernel
theorem dL_isSuspicious_11 : decode cL_isSuspicious 11 = .ok (.lconst 1, 1) := by decide +kernel
theorem dL_isSuspicious_12 : decode cL_isSuspicious 12 = .ok (.goto 4, 3) := by decide +kernel
theorem dL_isSuspicious_15 : decode cL_isSuspicious 15 = .ok (.lconst 0, 1) := by decide +kernel
theorem dL_isSuspicious_16 : decode cL_isSuspicious 16 = .ok (.lastore, 1) := by decide +kernel
theorem dL_isSuspicious_17 : decode cL_isSuspicious 17 = .ok (.goto 7, 3) := by decide +kernel
theorem dL_isSuspicious_20 : decode cL_isSuspicious 20 = .ok (.astore 4, 2) := by decide +kernel
theorem dL_isSuspicious_22 : decode cL_isSuspicious 22 = .ok (.iconst 1, 1) := by decide +kernel
theorem dL_isSuspicious_23 : decode cL_isSuspicious 23 = .ok (.ireturn, 1) := by decide +kernel
theorem dL_isSuspicious_24 : decode cL_isSuspicious 24 = .ok (.iconst 0, 1) := by decide +kernel
theorem dL_isSuspicious_25 : decode cL_isSuspicious 25 = .ok (.ireturn, 1) := by decide +kernel
theorem dL_offencePlayer_0 : decode cL_offencePlayer 0 = .ok (.aload_n 2, 1) := by decide +kernel
theorem dL_offencePlayer_1 : decode cL_offencePlayer 1 = .ok (.iconst 0, 1) := by decide +kernel
theorem dL_offencePlayer_2 : decode cL_offencePlayer 2 = .ok (.aload_n 0, 1) := by decide +kernel
theorem dL_offencePlayer_3 : decode cL_offencePlayer 3 = .ok (.iload_n 1, 1) := by decide +kernel
theorem dL_offencePlayer_4 : decode cL_offencePlayer 4 = .ok (.invokevirtual 100, 3) := by decide +kernel
theorem dL_offencePlayer_7 : decode cL_offencePlayer 7 = .ok (.i2l, 1) := by decide +kernel
theorem dL_offencePlayer_8 : decode cL_offencePlayer 8 = .ok (.lastore, 1) := by decide +kernel
theorem dL_offencePlayer_9 : decode cL_offencePlayer 9 = .ok (.goto 6, 3) := by decide +kernel
theorem dL_offencePlayer_12 : decode cL_offencePlayer 12 = .ok (.astore_n 3, 1) := by decide +kernel
theorem dL_offencePlayer_13 : decode cL_offencePlayer 13 = .ok (.iconst 1, 1) := by decide +kernel
theorem dL_offencePlayer_14 : decode cL_offencePlayer 14 = .ok (.ireturn, 1) := by decide +kernel
theorem dL_offencePlayer_15 : decode cL_offencePlayer 15 = .ok (.iconst 0, 1) := by decide +kernel
theorem dL_offencePlayer_16 : decode cL_offencePlayer 16 = .ok (.ireturn, 1) := by decide +kernel
theorem dL_offenceDie_0 : decode cL_offenceDie 0 = .ok (.aload_n 2, 1) := by decide +kernel
theorem dL_offenceDie_1 : decode cL_offenceDie 1 = .ok (.iconst 0, 1) := by decide +kernel
theorem dL_offenceDie_2 : decode cL_offenceDie 2 = .ok (.aload_n 0, 1) := by decide +kernel
theorem dL_offenceDie_3 : decode cL_offenceDie 3 = .ok (.iload_n 1, 1) := by decide +kernel
theorem dL_offenceDie_4 : decode cL_offenceDie 4 = .ok (.invokevirtual 103, 3) := by decide +kernel
theorem dL_offenceDie_7 : decode cL_offenceDie 7 = .ok (.i2l, 1) := by decide +kernel
theorem dL_offenceDie_8 : decode cL_offenceDie 8 = .ok (.lastore, 1) := by decide +kernel
theorem dL_offenceDie_9 : decode cL_offenceDie 9 = .ok (.goto 6, 3) := by decide +kernel
theorem dL_offenceDie_12 : decode cL_offenceDie 12 = .ok (.astore_n 3, 1) := by decide +kernel
theorem dL_offenceDie_13 : decode cL_offenceDie 13 = .ok (.iconst 1, 1) := by decide +kernel
theorem dL_offenceDie_14 : decode cL_offenceDie 14 = .ok (.ireturn, 1) := by decide +kernel
theorem dL_offenceDie_15 : decode cL_offenceDie 15 = .ok (.iconst 0, 1) := by decide +kernel
theorem dL_offenceDie_16 : decode cL_offenceDie 16 = .ok (.ireturn, 1) := by decide +kernel
theorem dL_offenceScore_0 : decode cL_offenceScore 0 = .ok (.aload_n 2, 1) := by decide +kernel
theorem dL_offenceScore_1 : decode cL_offenceScore 1 = .ok (.iconst 0, 1) := by decide +kernel
theorem dL_offenceScore_2 : decode cL_offenceScore 2 = .ok (.aload_n 0, 1) := by decide +kernel
theorem dL_offenceScore_3 : decode cL_offenceScore 3 = .ok (.iload_n 1, 1) := by decide +kernel
theorem dL_offenceScore_4 : decode cL_offenceScore 4 = .ok (.invokevirtual 106, 3) := by decide +kernel
theorem dL_offenceScore_7 : decode cL_offenceScore 7 = .ok (.i2l, 1) := by decide +kernel
theorem dL_offenceScore_8 : decode cL_offenceScore 8 = .ok (.lastore, 1) := by decide +kernel
theorem dL_offenceScore_9 : decode cL_offenceScore 9 = .ok (.goto 6, 3) := by decide +kernel
theorem dL_offenceScore_12 : decode cL_offenceScore 12 = .ok (.astore_n 3, 1) := by decide +kernel
theorem dL_offenceScore_13 : decode cL_offenceScore 13 = .ok (.iconst 1, 1) := by decide +kernel
theorem dL_offenceScore_14 : decode cL_offenceScore 14 = .ok (.ireturn, 1) := by decide +kernel
theorem dL_offenceScore_15 : decode cL_offenceScore 15 = .ok (.iconst 0, 1) := by decide +kernel
theorem dL_offenceScore_16 : decode cL_offenceScore 16 = .ok (.ireturn, 1) := by decide +kernel
theorem dL_offencesOf_0 : decode cL_offencesOf 0 = .ok (.aload_n 2, 1) := by decide +kernel
theorem dL_offencesOf_1 : decode cL_offencesOf 1 = .ok (.iconst 0, 1) := by decide +kernel
theorem dL_offencesOf_2 : decode cL_offencesOf 2 = .ok (.aload_n 0, 1) := by decide +kernel
theorem dL_offencesOf_3 : decode cL_offencesOf 3 = .ok (.iload_n 1, 1) := by decide +kernel
theorem dL_offencesOf_4 : decode cL_offencesOf 4 = .ok (.invokevirtual 109, 3) := by decide +kernel
theorem dL_offencesOf_7 : decode cL_offencesOf 7 = .ok (.i2l, 1) := by decide +kernel
theorem dL_offencesOf_8 : decode cL_offencesOf 8 = .ok (.lastore, 1) := by decide +kernel
theorem dL_offencesOf_9 : decode cL_offencesOf 9 = .ok (.goto 6, 3) := by decide +kernel
theorem dL_offencesOf_12 : decode cL_offencesOf 12 = .ok (.astore_n 3, 1) := by decide +kernel
theorem dL_offencesOf_13 : decode cL_offencesOf 13 = .ok (.iconst 1, 1) := by decide +kernel
theorem dL_offencesOf_14 : decode cL_offencesOf 14 = .ok (.ireturn, 1) := by decide +kernel
theorem dL_offencesOf_15 : decode cL_offencesOf 15 = .ok (.iconst 0, 1) := by decide +kernel
theorem dL_offencesOf_16 : decode cL_offencesOf 16 = .ok (.ireturn, 1) := by decide +kernel
theorem dL_nextFace_0 : decode cL_nextFace 0 = .ok (.aload_n 2, 1) := by decide +kernel
theorem dL_nextFace_1 : decode cL_nextFace 1 = .ok (.iconst 0, 1) := by decide +kernel
theorem dL_nextFace_2 : decode cL_nextFace 2 = .ok (.aload_n 0, 1) := by decide +kernel
theorem dL_nextFace_3 : decode cL_nextFace 3 = .ok (.iload_n 1, 1) := by decide +kernel
theorem dL_nextFace_4 : decode cL_nextFace 4 = .ok (.invokevirtual 112, 3) := by decide +kernel
theorem dL_nextFace_7 : decode cL_nextFace 7 = .ok (.i2l, 1) := by decide +kernel
theorem dL_nextFace_8 : decode cL_nextFace 8 = .ok (.lastore, 1) := by decide +kernel
theorem dL_nextFace_9 : decode cL_nextFace 9 = .ok (.goto 6, 3) := by decide +kernel
theorem dL_nextFace_12 : decode cL_nextFace 12 = .ok (.astore_n 3, 1) := by decide +kernel
theorem dL_nextFace_13 : decode cL_nextFace 13 = .ok (.iconst 1, 1) := by decide +kernel
theorem dL_nextFace_14 : decode cL_nextFace 14 = .ok (.ireturn, 1) := by decide +kernel
theorem dL_nextFace_15 : decode cL_nextFace 15 = .ok (.iconst 0, 1) := by decide +kernel
theorem dL_nextFace_16 : decode cL_nextFace 16 = .ok (.ireturn, 1) := by decide +kernel
theorem dL_faceAfter_0 : decode cL_faceAfter 0 = .ok (.aload_n 3, 1) := by decide +kernel
theorem dL_faceAfter_1 : decode cL_faceAfter 1 = .ok (.iconst 0, 1) := by decide +kernel
theorem dL_faceAfter_2 : decode cL_faceAfter 2 = .ok (.aload_n 0, 1) := by decide +kernel
theorem dL_faceAfter_3 : decode cL_faceAfter 3 = .ok (.iload_n 1, 1) := by decide +kernel
theorem dL_faceAfter_4 : decode cL_faceAfter 4 = .ok (.iload_n 2, 1) := by decide +kernel
theorem dL_faceAfter_5 : decode cL_faceAfter 5 = .ok (.invokevirtual 115, 3) := by decide +kernel
theorem dL_faceAfter_8 : decode cL_faceAfter 8 = .ok (.i2l, 1) := by decide +kernel
theorem dL_faceAfter_9 : decode cL_faceAfter 9 = .ok (.lastore, 1) := by decide +kernel
theorem dL_faceAfter_10 : decode cL_faceAfter 10 = .ok (.goto 11, 3) := by decide +kernel
theorem dL_faceAfter_13 : decode cL_faceAfter 13 = .ok (.astore 4, 2) := by decide +kernel
theorem dL_faceAfter_15 : decode cL_faceAfter 15 = .ok (.iconst 1, 1) := by decide +kernel
theorem dL_faceAfter_16 : decode cL_faceAfter 16 = .ok (.ireturn, 1) := by decide +kernel
theorem dL_faceAfter_17 : decode cL_faceAfter 17 = .ok (.astore 4, 2) := by decide +kernel
theorem dL_faceAfter_19 : decode cL_faceAfter 19 = .ok (.iconst 2, 1) := by decide +kernel
theorem dL_faceAfter_20 : decode cL_faceAfter 20 = .ok (.ireturn, 1) := by decide +kernel
theorem dL_faceAfter_21 : decode cL_faceAfter 21 = .ok (.iconst 0, 1) := by decide +kernel
theorem dL_faceAfter_22 : decode cL_faceAfter 22 = .ok (.ireturn, 1) := by decide +kernel
theorem dL_throwsUntil_0 : decode cL_throwsUntil 0 = .ok (.aload_n 3, 1) := by decide +kernel
theorem dL_throwsUntil_1 : decode cL_throwsUntil 1 = .ok (.iconst 0, 1) := by decide +kernel
theorem dL_throwsUntil_2 : decode cL_throwsUntil 2 = .ok (.aload_n 0, 1) := by decide +kernel
theorem dL_throwsUntil_3 : decode cL_throwsUntil 3 = .ok (.iload_n 1, 1) := by decide +kernel
theorem dL_throwsUntil_4 : decode cL_throwsUntil 4 = .ok (.iload_n 2, 1) := by decide +kernel
theorem dL_throwsUntil_5 : decode cL_throwsUntil 5 = .ok (.invokevirtual 118, 3) := by decide +kernel
theorem dL_throwsUntil_8 : decode cL_throwsUntil 8 = .ok (.i2l, 1) := by decide +kernel
theorem dL_throwsUntil_9 : decode cL_throwsUntil 9 = .ok (.lastore, 1) := by decide +kernel
theorem dL_throwsUntil_10 : decode cL_throwsUntil 10 = .ok (.goto 11, 3) := by decide +kernel
theorem dL_throwsUntil_13 : decode cL_throwsUntil 13 = .ok (.astore 4, 2) := by decide +kernel
theorem dL_throwsUntil_15 : decode cL_throwsUntil 15 = .ok (.iconst 1, 1) := by decide +kernel
theorem dL_throwsUntil_16 : decode cL_throwsUntil 16 = .ok (.ireturn, 1) := by decide +kernel
theorem dL_throwsUntil_17 : decode cL_throwsUntil 17 = .ok (.astore 4, 2) := by decide +kernel
theorem dL_throwsUntil_19 : decode cL_throwsUntil 19 = .ok (.iconst 2, 1) := by decide +kernel
theorem dL_throwsUntil_20 : decode cL_throwsUntil 20 = .ok (.ireturn, 1) := by decide +kernel
theorem dL_throwsUntil_21 : decode cL_throwsUntil 21 = .ok (.iconst 0, 1) := by decide +kernel
theorem dL_throwsUntil_22 : decode cL_throwsUntil 22 = .ok (.ireturn, 1) := by decide +kernel
theorem dL_scoreAfter_0 : decode cL_scoreAfter 0 = .ok (.aload 4, 2) := by decide +kernel
theorem dL_scoreAfter_2 : decode cL_scoreAfter 2 = .ok (.iconst 0, 1) := by decide +kernel
theorem dL_scoreAfter_3 : decode cL_scoreAfter 3 = .ok (.aload_n 0, 1) := by decide +kernel
theorem dL_scoreAfter_4 : decode cL_scoreAfter 4 = .ok (.iload_n 1, 1) := by decide +kernel
theorem dL_scoreAfter_5 : decode cL_scoreAfter 5 = .ok (.iload_n 2, 1) := by decide +kernel
theorem dL_scoreAfter_6 : decode cL_scoreAfter 6 = .ok (.iload_n 3, 1) := by decide +kernel
theorem dL_scoreAfter_7 : decode cL_scoreAfter 7 = .ok (.invokevirtual 121, 3) := by decide +kernel
theorem dL_scoreAfter_10 : decode cL_scoreAfter 10 = .ok (.i2l, 1) := by decide +kernel
theorem dL_scoreAfter_11 : decode cL_scoreAfter 11 = .ok (.lastore, 1) := by decide +kernel
theorem dL_scoreAfter_12 : decode cL_scoreAfter 12 = .ok (.goto 11, 3) := by decide +kernel
theorem dL_scoreAfter_15 : decode cL_scoreAfter 15 = .ok (.astore 5, 2) := by decide +kernel
theorem dL_scoreAfter_17 : decode cL_scoreAfter 17 = .ok (.iconst 1, 1) := by decide +kernel
theorem dL_scoreAfter_18 : decode cL_scoreAfter 18 = .ok (.ireturn, 1) := by decide +kernel
theorem dL_scoreAfter_19 : decode cL_scoreAfter 19 = .ok (.astore 5, 2) := by decide +kernel
theorem dL_scoreAfter_21 : decode cL_scoreAfter 21 = .ok (.iconst 2, 1) := by decide +kernel
theorem dL_scoreAfter_22 : decode cL_scoreAfter 22 = .ok (.ireturn, 1) := by decide +kernel
theorem dL_scoreAfter_23 : decode cL_scoreAfter 23 = .ok (.iconst 0, 1) := by decide +kernel
theorem dL_scoreAfter_24 : decode cL_scoreAfter 24 = .ok (.ireturn, 1) := by decide +kernel
theorem dL_throwsUntilSuspicious_0 : decode cL_throwsUntilSuspicious 0 = .ok (.aload_n 3, 1) := by decide +kernel
theorem dL_throwsUntilSuspicious_1 : decode cL_throwsUntilSuspicious 1 = .ok (.iconst 0, 1) := by decide +kernel
theorem dL_throwsUntilSuspicious_2 : decode cL_throwsUntilSuspicious 2 = .ok (.aload_n 0, 1) := by decide +kernel
theorem dL_throwsUntilSuspicious_3 : decode cL_throwsUntilSuspicious 3 = .ok (.iload_n 1, 1) := by decide +kernel
theorem dL_throwsUntilSuspicious_4 : decode cL_throwsUntilSuspicious 4 = .ok (.iload_n 2, 1) := by decide +kernel
theorem dL_throwsUntilSuspicious_5 : decode cL_throwsUntilSuspicious 5 = .ok (.invokevirtual 124, 3) := by decide +kernel
theorem dL_throwsUntilSuspicious_8 : decode cL_throwsUntilSuspicious 8 = .ok (.i2l, 1) := by decide +kernel
theorem dL_throwsUntilSuspicious_9 : decode cL_throwsUntilSuspicious 9 = .ok (.lastore, 1) := by decide +kernel
theorem dL_throwsUntilSuspicious_10 : decode cL_throwsUntilSuspicious 10 = .ok (.goto 7, 3) := by decide +kernel
theorem dL_throwsUntilSuspicious_13 : decode cL_throwsUntilSuspicious 13 = .ok (.astore 4, 2) := by decide +kernel
theorem dL_throwsUntilSuspicious_15 : decode cL_throwsUntilSuspicious 15 = .ok (.iconst 1, 1) := by decide +kernel
theorem dL_throwsUntilSuspicious_16 : decode cL_throwsUntilSuspicious 16 = .ok (.ireturn, 1) := by decide +kernel
theorem dL_throwsUntilSuspicious_17 : decode cL_throwsUntilSuspicious 17 = .ok (.iconst 0, 1) := by decide +kernel
theorem dL_throwsUntilSuspicious_18 : decode cL_throwsUntilSuspicious 18 = .ok (.ireturn, 1) := by decide +kernel
theorem dL_throwDie_0 : decode cL_throwDie 0 = .ok (.aload 4, 2) := by decide +kernel
theorem dL_throwDie_2 : decode cL_throwDie 2 = .ok (.iconst 0, 1) := by decide +kernel
theorem dL_throwDie_3 : decode cL_throwDie 3 = .ok (.aload_n 0, 1) := by decide +kernel
theorem dL_throwDie_4 : decode cL_throwDie 4 = .ok (.iload_n 1, 1) := by decide +kernel
theorem dL_throwDie_5 : decode cL_throwDie 5 = .ok (.iload_n 2, 1) := by decide +kernel
theorem dL_throwDie_6 : decode cL_throwDie 6 = .ok (.iload_n 3, 1) := by decide +kernel
theorem dL_throwDie_7 : decode cL_throwDie 7 = .ok (.invokevirtual 127, 3) := by decide +kernel
theorem dL_throwDie_10 : decode cL_throwDie 10 = .ok (.i2l, 1) := by decide +kernel
theorem dL_throwDie_11 : decode cL_throwDie 11 = .ok (.lastore, 1) := by decide +kernel
theorem dL_throwDie_12 : decode cL_throwDie 12 = .ok (.goto 15, 3) := by decide +kernel
theorem dL_throwDie_15 : decode cL_throwDie 15 = .ok (.astore 5, 2) := by decide +kernel
theorem dL_throwDie_17 : decode cL_throwDie 17 = .ok (.iconst 1, 1) := by decide +kernel
theorem dL_throwDie_18 : decode cL_throwDie 18 = .ok (.ireturn, 1) := by decide +kernel
theorem dL_throwDie_19 : decode cL_throwDie 19 = .ok (.astore 5, 2) := by decide +kernel
theorem dL_throwDie_21 : decode cL_throwDie 21 = .ok (.iconst 2, 1) := by decide +kernel
theorem dL_throwDie_22 : decode cL_throwDie 22 = .ok (.ireturn, 1) := by decide +kernel
theorem dL_throwDie_23 : decode cL_throwDie 23 = .ok (.astore 5, 2) := by decide +kernel
theorem dL_throwDie_25 : decode cL_throwDie 25 = .ok (.iconst 3, 1) := by decide +kernel
theorem dL_throwDie_26 : decode cL_throwDie 26 = .ok (.ireturn, 1) := by decide +kernel
theorem dL_throwDie_27 : decode cL_throwDie 27 = .ok (.iconst 0, 1) := by decide +kernel
theorem dL_throwDie_28 : decode cL_throwDie 28 = .ok (.ireturn, 1) := by decide +kernel
theorem dL_absolve_0 : decode cL_absolve 0 = .ok (.aload_n 1, 1) := by decide +kernel
theorem dL_absolve_1 : decode cL_absolve 1 = .ok (.iconst 0, 1) := by decide +kernel
theorem dL_absolve_2 : decode cL_absolve 2 = .ok (.aload_n 0, 1) := by decide +kernel
theorem dL_absolve_3 : decode cL_absolve 3 = .ok (.invokevirtual 130, 3) := by decide +kernel
theorem dL_absolve_6 : decode cL_absolve 6 = .ok (.i2l, 1) := by decide +kernel
theorem dL_absolve_7 : decode cL_absolve 7 = .ok (.lastore, 1) := by decide +kernel
theorem dL_absolve_8 : decode cL_absolve 8 = .ok (.goto 6, 3) := by decide +kernel
theorem dL_absolve_11 : decode cL_absolve 11 = .ok (.astore_n 2, 1) := by decide +kernel
theorem dL_absolve_12 : decode cL_absolve 12 = .ok (.iconst 1, 1) := by decide +kernel
theorem dL_absolve_13 : decode cL_absolve 13 = .ok (.ireturn, 1) := by decide +kernel
theorem dL_absolve_14 : decode cL_absolve 14 = .ok (.iconst 0, 1) := by decide +kernel
theorem dL_absolve_15 : decode cL_absolve 15 = .ok (.ireturn, 1) := by decide +kernel
theorem dL_forgive_0 : decode cL_forgive 0 = .ok (.aload_n 2, 1) := by decide +kernel
theorem dL_forgive_1 : decode cL_forgive 1 = .ok (.iconst 0, 1) := by decide +kernel
theorem dL_forgive_2 : decode cL_forgive 2 = .ok (.aload_n 0, 1) := by decide +kernel
theorem dL_forgive_3 : decode cL_forgive 3 = .ok (.iload_n 1, 1) := by decide +kernel
theorem dL_forgive_4 : decode cL_forgive 4 = .ok (.invokevirtual 133, 3) := by decide +kernel
theorem dL_forgive_7 : decode cL_forgive 7 = .ok (.i2l, 1) := by decide +kernel
theorem dL_forgive_8 : decode cL_forgive 8 = .ok (.lastore, 1) := by decide +kernel
theorem dL_forgive_9 : decode cL_forgive 9 = .ok (.goto 6, 3) := by decide +kernel
theorem dL_forgive_12 : decode cL_forgive 12 = .ok (.astore_n 3, 1) := by decide +kernel
theorem dL_forgive_13 : decode cL_forgive 13 = .ok (.iconst 1, 1) := by decide +kernel
theorem dL_forgive_14 : decode cL_forgive 14 = .ok (.ireturn, 1) := by decide +kernel
theorem dL_forgive_15 : decode cL_forgive 15 = .ok (.iconst 0, 1) := by decide +kernel
theorem dL_forgive_16 : decode cL_forgive 16 = .ok (.ireturn, 1) := by decide +kernel
theorem dL_setWeight_0 : decode cL_setWeight 0 = .ok (.aload 4, 2) := by decide +kernel
theorem dL_setWeight_2 : decode cL_setWeight 2 = .ok (.iconst 0, 1) := by decide +kernel
theorem dL_setWeight_3 : decode cL_setWeight 3 = .ok (.aload_n 0, 1) := by decide +kernel
theorem dL_setWeight_4 : decode cL_setWeight 4 = .ok (.iload_n 1, 1) := by decide +kernel
theorem dL_setWeight_5 : decode cL_setWeight 5 = .ok (.iload_n 2, 1) := by decide +kernel
theorem dL_setWeight_6 : decode cL_setWeight 6 = .ok (.iload_n 3, 1) := by decide +kernel
theorem dL_setWeight_7 : decode cL_setWeight 7 = .ok (.invokevirtual 136, 3) := by decide +kernel
theorem dL_setWeight_10 : decode cL_setWeight 10 = .ok (.i2l, 1) := by decide +kernel
theorem dL_setWeight_11 : decode cL_setWeight 11 = .ok (.lastore, 1) := by decide +kernel
theorem dL_setWeight_12 : decode cL_setWeight 12 = .ok (.goto 15, 3) := by decide +kernel
theorem dL_setWeight_15 : decode cL_setWeight 15 = .ok (.astore 5, 2) := by decide +kernel
theorem dL_setWeight_17 : decode cL_setWeight 17 = .ok (.iconst 1, 1) := by decide +kernel
theorem dL_setWeight_18 : decode cL_setWeight 18 = .ok (.ireturn, 1) := by decide +kernel
theorem dL_setWeight_19 : decode cL_setWeight 19 = .ok (.astore 5, 2) := by decide +kernel
theorem dL_setWeight_21 : decode cL_setWeight 21 = .ok (.iconst 2, 1) := by decide +kernel
theorem dL_setWeight_22 : decode cL_setWeight 22 = .ok (.ireturn, 1) := by decide +kernel
theorem dL_setWeight_23 : decode cL_setWeight 23 = .ok (.astore 5, 2) := by decide +kernel
theorem dL_setWeight_25 : decode cL_setWeight 25 = .ok (.iconst 3, 1) := by decide +kernel
theorem dL_setWeight_26 : decode cL_setWeight 26 = .ok (.ireturn, 1) := by decide +kernel
theorem dL_setWeight_27 : decode cL_setWeight 27 = .ok (.iconst 0, 1) := by decide +kernel
theorem dL_setWeight_28 : decode cL_setWeight 28 = .ok (.ireturn, 1) := by decide +kernel
theorem dL_setSeed_0 : decode cL_setSeed 0 = .ok (.aload_n 2, 1) := by decide +kernel
theorem dL_setSeed_1 : decode cL_setSeed 1 = .ok (.iconst 0, 1) := by decide +kernel
theorem dL_setSeed_2 : decode cL_setSeed 2 = .ok (.aload_n 0, 1) := by decide +kernel
theorem dL_setSeed_3 : decode cL_setSeed 3 = .ok (.iload_n 1, 1) := by decide +kernel
theorem dL_setSeed_4 : decode cL_setSeed 4 = .ok (.invokevirtual 139, 3) := by decide +kernel
theorem dL_setSeed_7 : decode cL_setSeed 7 = .ok (.i2l, 1) := by decide +kernel
theorem dL_setSeed_8 : decode cL_setSeed 8 = .ok (.lastore, 1) := by decide +kernel
theorem dL_setSeed_9 : decode cL_setSeed 9 = .ok (.goto 6, 3) := by decide +kernel
theorem dL_setSeed_12 : decode cL_setSeed 12 = .ok (.astore_n 3, 1) := by decide +kernel
theorem dL_setSeed_13 : decode cL_setSeed 13 = .ok (.iconst 1, 1) := by decide +kernel
theorem dL_setSeed_14 : decode cL_setSeed 14 = .ok (.ireturn, 1) := by decide +kernel
theorem dL_setSeed_15 : decode cL_setSeed 15 = .ok (.iconst 0, 1) := by decide +kernel
theorem dL_setSeed_16 : decode cL_setSeed 16 = .ok (.ireturn, 1) := by decide +kernel
theorem dL_setLimits_0 : decode cL_setLimits 0 = .ok (.aload_n 3, 1) := by decide +kernel
theorem dL_setLimits_1 : decode cL_setLimits 1 = .ok (.iconst 0, 1) := by decide +kernel
theorem dL_setLimits_2 : decode cL_setLimits 2 = .ok (.aload_n 0, 1) := by decide +kernel
theorem dL_setLimits_3 : decode cL_setLimits 3 = .ok (.iload_n 1, 1) := by decide +kernel
theorem dL_setLimits_4 : decode cL_setLimits 4 = .ok (.iload_n 2, 1) := by decide +kernel
theorem dL_setLimits_5 : decode cL_setLimits 5 = .ok (.invokevirtual 142, 3) := by decide +kernel
theorem dL_setLimits_8 : decode cL_setLimits 8 = .ok (.i2l, 1) := by decide +kernel
theorem dL_setLimits_9 : decode cL_setLimits 9 = .ok (.lastore, 1) := by decide +kernel
theorem dL_setLimits_10 : decode cL_setLimits 10 = .ok (.goto 7, 3) := by decide +kernel
theorem dL_setLimits_13 : decode cL_setLimits 13 = .ok (.astore 4, 2) := by decide +kernel
theorem dL_setLimits_15 : decode cL_setLimits 15 = .ok (.iconst 1, 1) := by decide +kernel
theorem dL_setLimits_16 : decode cL_setLimits 16 = .ok (.ireturn, 1) := by decide +kernel
theorem dL_setLimits_17 : decode cL_setLimits 17 = .ok (.iconst 0, 1) := by decide +kernel
theorem dL_setLimits_18 : decode cL_setLimits 18 = .ok (.ireturn, 1) := by decide +kernel
theorem dL_writeFaces_0 : decode cL_writeFaces 0 = .ok (.aload_n 2, 1) := by decide +kernel
theorem dL_writeFaces_1 : decode cL_writeFaces 1 = .ok (.iconst 0, 1) := by decide +kernel
theorem dL_writeFaces_2 : decode cL_writeFaces 2 = .ok (.aload_n 0, 1) := by decide +kernel
theorem dL_writeFaces_3 : decode cL_writeFaces 3 = .ok (.iload_n 1, 1) := by decide +kernel
theorem dL_writeFaces_4 : decode cL_writeFaces 4 = .ok (.invokevirtual 145, 3) := by decide +kernel
theorem dL_writeFaces_7 : decode cL_writeFaces 7 = .ok (.i2l, 1) := by decide +kernel
theorem dL_writeFaces_8 : decode cL_writeFaces 8 = .ok (.lastore, 1) := by decide +kernel
theorem dL_writeFaces_9 : decode cL_writeFaces 9 = .ok (.goto 6, 3) := by decide +kernel
theorem dL_writeFaces_12 : decode cL_writeFaces 12 = .ok (.astore_n 3, 1) := by decide +kernel
theorem dL_writeFaces_13 : decode cL_writeFaces 13 = .ok (.iconst 1, 1) := by decide +kernel
theorem dL_writeFaces_14 : decode cL_writeFaces 14 = .ok (.ireturn, 1) := by decide +kernel
theorem dL_writeFaces_15 : decode cL_writeFaces 15 = .ok (.iconst 0, 1) := by decide +kernel
theorem dL_writeFaces_16 : decode cL_writeFaces 16 = .ok (.ireturn, 1) := by decide +kernel
theorem dL_outputByte_0 : decode cL_outputByte 0 = .ok (.aload_n 2, 1) := by decide +kernel
theorem dL_outputByte_1 : decode cL_outputByte 1 = .ok (.iconst 0, 1) := by decide +kernel
theorem dL_outputByte_2 : decode cL_outputByte 2 = .ok (.aload_n 0, 1) := by decide +kernel
theorem dL_outputByte_3 : decode cL_outputByte 3 = .ok (.iload_n 1, 1) := by decide +kernel
theorem dL_outputByte_4 : decode cL_outputByte 4 = .ok (.invokevirtual 148, 3) := by decide +kernel
theorem dL_outputByte_7 : decode cL_outputByte 7 = .ok (.i2l, 1) := by decide +kernel
theorem dL_outputByte_8 : decode cL_outputByte 8 = .ok (.lastore, 1) := by decide +kernel
theorem dL_outputByte_9 : decode cL_outputByte 9 = .ok (.goto 6, 3) := by decide +kernel
theorem dL_outputByte_12 : decode cL_outputByte 12 = .ok (.astore_n 3, 1) := by decide +kernel
theorem dL_outputByte_13 : decode cL_outputByte 13 = .ok (.iconst 1, 1) := by decide +kernel
theorem dL_outputByte_14 : decode cL_outputByte 14 = .ok (.ireturn, 1) := by decide +kernel
theorem dL_outputByte_15 : decode cL_outputByte 15 = .ok (.iconst 0, 1) := by decide +kernel
theorem dL_outputByte_16 : decode cL_outputByte 16 = .ok (.ireturn, 1) := by decide +kernel
theorem dL_save_0 : decode cL_save 0 = .ok (.aload_n 2, 1) := by decide +kernel
theorem dL_save_1 : decode cL_save 1 = .ok (.iconst 0, 1) := by decide +kernel
theorem dL_save_2 : decode cL_save 2 = .ok (.aload_n 0, 1) := by decide +kernel
theorem dL_save_3 : decode cL_save 3 = .ok (.iload_n 1, 1) := by decide +kernel
theorem dL_save_4 : decode cL_save 4 = .ok (.invokevirtual 151, 3) := by decide +kernel
theorem dL_save_7 : decode cL_save 7 = .ok (.i2l, 1) := by decide +kernel
theorem dL_save_8 : decode cL_save 8 = .ok (.lastore, 1) := by decide +kernel
theorem dL_save_9 : decode cL_save 9 = .ok (.goto 6, 3) := by decide +kernel
theorem dL_save_12 : decode cL_save 12 = .ok (.astore_n 3, 1) := by decide +kernel
theorem dL_save_13 : decode cL_save 13 = .ok (.iconst 1, 1) := by decide +kernel
theorem dL_save_14 : decode cL_save 14 = .ok (.ireturn, 1) := by decide +kernel
theorem dL_save_15 : decode cL_save 15 = .ok (.iconst 0, 1) := by decide +kernel
theorem dL_save_16 : decode cL_save 16 = .ok (.ireturn, 1) := by decide +kernel
theorem dL_restore_0 : decode cL_restore 0 = .ok (.aload_n 2, 1) := by decide +kernel
theorem dL_restore_1 : decode cL_restore 1 = .ok (.iconst 0, 1) := by decide +kernel
theorem dL_restore_2 : decode cL_restore 2 = .ok (.aload_n 0, 1) := by decide +kernel
theorem dL_restore_3 : decode cL_restore 3 = .ok (.iload_n 1, 1) := by decide +kernel
theorem dL_restore_4 : decode cL_restore 4 = .ok (.invokevirtual 154, 3) := by decide +kernel
theorem dL_restore_7 : decode cL_restore 7 = .ok (.i2l, 1) := by decide +kernel
theorem dL_restore_8 : decode cL_restore 8 = .ok (.lastore, 1) := by decide +kernel
theorem dL_restore_9 : decode cL_restore 9 = .ok (.goto 9, 3) := by decide +kernel
theorem dL_restore_12 : decode cL_restore 12 = .ok (.astore_n 3, 1) := by decide +kernel
theorem dL_restore_13 : decode cL_restore 13 = .ok (.iconst 1, 1) := by decide +kernel
theorem dL_restore_14 : decode cL_restore 14 = .ok (.ireturn, 1) := by decide +kernel
theorem dL_restore_15 : decode cL_restore 15 = .ok (.astore_n 3, 1) := by decide +kernel
theorem dL_restore_16 : decode cL_restore 16 = .ok (.iconst 2, 1) := by decide +kernel
theorem dL_restore_17 : decode cL_restore 17 = .ok (.ireturn, 1) := by decide +kernel
theorem dL_restore_18 : decode cL_restore 18 = .ok (.iconst 0, 1) := by decide +kernel
theorem dL_restore_19 : decode cL_restore 19 = .ok (.ireturn, 1) := by decide +kernel
theorem dL_undo_0 : decode cL_undo 0 = .ok (.aload_n 1, 1) := by decide +kernel
theorem dL_undo_1 : decode cL_undo 1 = .ok (.iconst 0, 1) := by decide +kernel
theorem dL_undo_2 : decode cL_undo 2 = .ok (.aload_n 0, 1) := by decide +kernel
theorem dL_undo_3 : decode cL_undo 3 = .ok (.invokevirtual 157, 3) := by decide +kernel
theorem dL_undo_6 : decode cL_undo 6 = .ok (.i2l, 1) := by decide +kernel
theorem dL_undo_7 : decode cL_undo 7 = .ok (.lastore, 1) := by decide +kernel
theorem dL_undo_8 : decode cL_undo 8 = .ok (.goto 6, 3) := by decide +kernel
theorem dL_undo_11 : decode cL_undo 11 = .ok (.astore_n 2, 1) := by decide +kernel
theorem dL_undo_12 : decode cL_undo 12 = .ok (.iconst 1, 1) := by decide +kernel
theorem dL_undo_13 : decode cL_undo 13 = .ok (.ireturn, 1) := by decide +kernel
theorem dL_undo_14 : decode cL_undo 14 = .ok (.iconst 0, 1) := by decide +kernel
theorem dL_undo_15 : decode cL_undo 15 = .ok (.ireturn, 1) := by decide +kernel
theorem dL_law_0 : decode cL_law 0 = .ok (.new 8, 3) := by decide +kernel
theorem dL_law_3 : decode cL_law 3 = .ok (.dup, 1) := by decide +kernel
theorem dL_law_4 : decode cL_law 4 = .ok (.invokespecial 160, 3) := by decide +kernel
theorem dL_law_7 : decode cL_law 7 = .ok (.astore_n 1, 1) := by decide +kernel
theorem dL_law_8 : decode cL_law 8 = .ok (.new 161, 3) := by decide +kernel
theorem dL_law_11 : decode cL_law 11 = .ok (.dup, 1) := by decide +kernel
theorem dL_law_12 : decode cL_law 12 = .ok (.invokespecial 163, 3) := by decide +kernel
theorem dL_law_15 : decode cL_law 15 = .ok (.astore_n 2, 1) := by decide +kernel
theorem dL_law_16 : decode cL_law 16 = .ok (.iconst 1, 1) := by decide +kernel
theorem dL_law_17 : decode cL_law 17 = .ok (.newarray .long, 2) := by decide +kernel
theorem dL_law_19 : decode cL_law 19 = .ok (.astore_n 3, 1) := by decide +kernel
theorem dL_law_20 : decode cL_law 20 = .ok (.iconst 1, 1) := by decide +kernel
theorem dL_law_21 : decode cL_law 21 = .ok (.newarray .double, 2) := by decide +kernel
theorem dL_law_23 : decode cL_law 23 = .ok (.astore 4, 2) := by decide +kernel
theorem dL_law_25 : decode cL_law 25 = .ok (.iconst 0, 1) := by decide +kernel
theorem dL_law_26 : decode cL_law 26 = .ok (.istore 5, 2) := by decide +kernel
theorem dL_law_28 : decode cL_law 28 = .ok (.iload 5, 2) := by decide +kernel
theorem dL_law_30 : decode cL_law 30 = .ok (.aload_n 0, 1) := by decide +kernel
theorem dL_law_31 : decode cL_law 31 = .ok (.arraylength, 1) := by decide +kernel
theorem dL_law_32 : decode cL_law 32 = .ok (.bipush 6, 2) := by decide +kernel
theorem dL_law_34 : decode cL_law 34 = .ok (.isub, 1) := by decide +kernel
theorem dL_law_35 : decode cL_law 35 = .ok (.if_icmp .gt 3378, 3) := by decide +kernel
theorem dL_law_38 : decode cL_law 38 = .ok (.aload_n 0, 1) := by decide +kernel
theorem dL_law_39 : decode cL_law 39 = .ok (.iload 5, 2) := by decide +kernel
theorem dL_law_41 : decode cL_law 41 = .ok (.iaload, 1) := by decide +kernel
theorem dL_law_42 : decode cL_law 42 = .ok (.bipush 63, 2) := by decide +kernel
theorem dL_law_44 : decode cL_law 44 = .ok (.iand, 1) := by decide +kernel
theorem dL_law_45 : decode cL_law 45 = .ok (.tableswitch 3362 0 63 #[271, 375, 431, 475, 488, 501, 514, 527, 540, 553, 566, 579, 635, 703, 766, 822, 890, 946, 1002, 1058, 1121, 1177, 1233, 1310, 1366, 1422, 1478, 1491, 1559, 1639, 1707, 1775, 1843, 1911, 1986, 1999, 2012, 2025, 2081, 2137, 2193, 2249, 2305, 2373, 2441, 2521, 2589, 2602, 2615, 2628, 2671, 2751, 2764, 2808, 2864, 2944, 3000, 3068, 3081, 3137, 3193, 3249, 3305, 3349], 271) := by decide +kernel
theorem dL_law_316 : decode cL_law 316 = .ok (.aload_n 1, 1) := by decide +kernel
theorem dL_law_317 : decode cL_law 317 = .ok (.aload_n 0, 1) := by decide +kernel
theorem dL_law_318 : decode cL_law 318 = .ok (.iload 5, 2) := by decide +kernel
theorem dL_law_320 : decode cL_law 320 = .ok (.iconst 1, 1) := by decide +kernel
theorem dL_law_321 : decode cL_law 321 = .ok (.iadd, 1) := by decide +kernel
theorem dL_law_322 : decode cL_law 322 = .ok (.iaload, 1) := by decide +kernel
theorem dL_law_323 : decode cL_law 323 = .ok (.aload_n 0, 1) := by decide +kernel
theorem dL_law_324 : decode cL_law 324 = .ok (.iload 5, 2) := by decide +kernel
theorem dL_law_326 : decode cL_law 326 = .ok (.iconst 2, 1) := by decide +kernel
theorem dL_law_327 : decode cL_law 327 = .ok (.iadd, 1) := by decide +kernel
theorem dL_law_328 : decode cL_law 328 = .ok (.iaload, 1) := by decide +kernel
theorem dL_law_329 : decode cL_law 329 = .ok (.aload_n 0, 1) := by decide +kernel
theorem dL_law_330 : decode cL_law 330 = .ok (.iload 5, 2) := by decide +kernel
theorem dL_law_332 : decode cL_law 332 = .ok (.iconst 3, 1) := by decide +kernel
theorem dL_law_333 : decode cL_law 333 = .ok (.iadd, 1) := by decide +kernel
theorem dL_law_334 : decode cL_law 334 = .ok (.iaload, 1) := by decide +kernel
theorem dL_law_335 : decode cL_law 335 = .ok (.aload_n 0, 1) := by decide +kernel
theorem dL_law_336 : decode cL_law 336 = .ok (.iload 5, 2) := by decide +kernel
theorem dL_law_338 : decode cL_law 338 = .ok (.iconst 4, 1) := by decide +kernel
theorem dL_law_339 : decode cL_law 339 = .ok (.iadd, 1) := by decide +kernel
theorem dL_law_340 : decode cL_law 340 = .ok (.iaload, 1) := by decide +kernel
theorem dL_law_341 : decode cL_law 341 = .ok (.aload_n 0, 1) := by decide +kernel
theorem dL_law_342 : decode cL_law 342 = .ok (.iload 5, 2) := by decide +kernel
theorem dL_law_344 : decode cL_law 344 = .ok (.iconst 5, 1) := by decide +kernel
theorem dL_law_345 : decode cL_law 345 = .ok (.iadd, 1) := by decide +kernel
theorem dL_law_346 : decode cL_law 346 = .ok (.iaload, 1) := by decide +kernel
theorem dL_law_347 : decode cL_law 347 = .ok (.aload_n 3, 1) := by decide +kernel
theorem dL_law_348 : decode cL_law 348 = .ok (.invokestatic 164, 3) := by decide +kernel
theorem dL_law_351 : decode cL_law 351 = .ok (.istore 6, 2) := by decide +kernel
theorem dL_law_353 : decode cL_law 353 = .ok (.aload_n 2, 1) := by decide +kernel
theorem dL_law_354 : decode cL_law 354 = .ok (.aload_n 0, 1) := by decide +kernel
theorem dL_law_355 : decode cL_law 355 = .ok (.iload 5, 2) := by decide +kernel
theorem dL_law_357 : decode cL_law 357 = .ok (.iconst 1, 1) := by decide +kernel
theorem dL_law_358 : decode cL_law 358 = .ok (.iadd, 1) := by decide +kernel
theorem dL_law_359 : decode cL_law 359 = .ok (.iaload, 1) := by decide +kernel
theorem dL_law_360 : decode cL_law 360 = .ok (.aload_n 0, 1) := by decide +kernel
theorem dL_law_361 : decode cL_law 361 = .ok (.iload 5, 2) := by decide +kernel
theorem dL_law_363 : decode cL_law 363 = .ok (.iconst 2, 1) := by decide +kernel
theorem dL_law_364 : decode cL_law 364 = .ok (.iadd, 1) := by decide +kernel
theorem dL_law_365 : decode cL_law 365 = .ok (.iaload, 1) := by decide +kernel
theorem dL_law_366 : decode cL_law 366 = .ok (.aload_n 0, 1) := by decide +kernel
theorem dL_law_367 : decode cL_law 367 = .ok (.iload 5, 2) := by decide +kernel
theorem dL_law_369 : decode cL_law 369 = .ok (.iconst 3, 1) := by decide +kernel
theorem dL_law_370 : decode cL_law 370 = .ok (.iadd, 1) := by decide +kernel
theorem dL_law_371 : decode cL_law 371 = .ok (.iaload, 1) := by decide +kernel
theorem dL_law_372 : decode cL_law 372 = .ok (.aload_n 0, 1) := by decide +kernel
theorem dL_law_373 : decode cL_law 373 = .ok (.iload 5, 2) := by decide +kernel
theorem dL_law_375 : decode cL_law 375 = .ok (.iconst 4, 1) := by decide +kernel
theorem dL_law_376 : decode cL_law 376 = .ok (.iadd, 1) := by decide +kernel
theorem dL_law_377 : decode cL_law 377 = .ok (.iaload, 1) := by decide +kernel
theorem dL_law_378 : decode cL_law 378 = .ok (.aload_n 0, 1) := by decide +kernel
theorem dL_law_379 : decode cL_law 379 = .ok (.iload 5, 2) := by decide +kernel
theorem dL_law_381 : decode cL_law 381 = .ok (.iconst 5, 1) := by decide +kernel
theorem dL_law_382 : decode cL_law 382 = .ok (.iadd, 1) := by decide +kernel
theorem dL_law_383 : decode cL_law 383 = .ok (.iaload, 1) := by decide +kernel
theorem dL_law_384 : decode cL_law 384 = .ok (.invokevirtual 169, 3) := by decide +kernel
theorem dL_law_387 : decode cL_law 387 = .ok (.istore 7, 2) := by decide +kernel
theorem dL_law_389 : decode cL_law 389 = .ok (.aload_n 2, 1) := by decide +kernel
theorem dL_law_390 : decode cL_law 390 = .ok (.invokevirtual 170, 3) := by decide +kernel
theorem dL_law_393 : decode cL_law 393 = .ok (.iload 6, 2) := by decide +kernel
theorem dL_law_395 : decode cL_law 395 = .ok (.if_icmp .eq 5, 3) := by decide +kernel
theorem dL_law_398 : decode cL_law 398 = .ok (.iconst 0, 1) := by decide +kernel
theorem dL_law_399 : decode cL_law 399 = .ok (.ireturn, 1) := by decide +kernel
theorem dL_law_400 : decode cL_law 400 = .ok (.iload 6, 2) := by decide +kernel
theorem dL_law_402 : decode cL_law 402 = .ok (.ifCond .ne 15, 3) := by decide +kernel
theorem dL_law_405 : decode cL_law 405 = .ok (.aload_n 3, 1) := by decide +kernel
theorem dL_law_406 : decode cL_law 406 = .ok (.iconst 0, 1) := by decide +kernel
theorem dL_law_407 : decode cL_law 407 = .ok (.laload, 1) := by decide +kernel
theorem dL_law_408 : decode cL_law 408 = .ok (.iload 7, 2) := by decide +kernel
theorem dL_law_410 : decode cL_law 410 = .ok (.i2l, 1) := by decide +kernel
theorem dL_law_411 : decode cL_law 411 = .ok (.lcmp, 1) := by decide +kernel
theorem dL_law_412 : decode cL_law 412 = .ok (.ifCond .eq 5, 3) := by decide +kernel
theorem dL_law_415 : decode cL_law 415 = .ok (.iconst 0, 1) := by decide +kernel
theorem dL_law_416 : decode cL_law 416 = .ok (.ireturn, 1) := by decide +kernel
theorem dL_law_417 : decode cL_law 417 = .ok (.goto 2990, 3) := by decide +kernel
theorem dL_law_420 : decode cL_law 420 = .ok (.aload_n 1, 1) := by decide +kernel
theorem dL_law_421 : decode cL_law 421 = .ok (.aload_n 0, 1) := by decide +kernel
theorem dL_law_422 : decode cL_law 422 = .ok (.iload 5, 2) := by decide +kernel
theorem dL_law_424 : decode cL_law 424 = .ok (.iconst 1, 1) := by decide +kernel
theorem dL_law_425 : decode cL_law 425 = .ok (.iadd, 1) := by decide +kernel
theorem dL_law_426 : decode cL_law 426 = .ok (.iaload, 1) := by decide +kernel
theorem dL_law_427 : decode cL_law 427 = .ok (.aload_n 3, 1) := by decide +kernel
theorem dL_law_428 : decode cL_law 428 = .ok (.invokestatic 173, 3) := by decide +kernel
theorem dL_law_431 : decode cL_law 431 = .ok (.istore 6, 2) := by decide +kernel
theorem dL_law_433 : decode cL_law 433 = .ok (.aload_n 2, 1) := by decide +kernel
theorem dL_law_434 : decode cL_law 434 = .ok (.aload_n 0, 1) := by decide +kernel
theorem dL_law_435 : decode cL_law 435 = .ok (.iload 5, 2) := by decide +kernel
theorem dL_law_437 : decode cL_law 437 = .ok (.iconst 1, 1) := by decide +kernel
theorem dL_law_438 : decode cL_law 438 = .ok (.iadd, 1) := by decide +kernel
theorem dL_law_439 : decode cL_law 439 = .ok (.iaload, 1) := by decide +kernel
theorem dL_law_440 : decode cL_law 440 = .ok (.invokevirtual 176, 3) := by decide +kernel
theorem dL_law_443 : decode cL_law 443 = .ok (.istore 7, 2) := by decide +kernel
theorem dL_law_445 : decode cL_law 445 = .ok (.aload_n 2, 1) := by decide +kernel
theorem dL_law_446 : decode cL_law 446 = .ok (.invokevirtual 170, 3) := by decide +kernel
theorem dL_law_449 : decode cL_law 449 = .ok (.iload 6, 2) := by decide +kernel
theorem dL_law_451 : decode cL_law 451 = .ok (.if_icmp .eq 5, 3) := by decide +kernel
theorem dL_law_454 : decode cL_law 454 = .ok (.iconst 0, 1) := by decide +kernel
theorem dL_law_455 : decode cL_law 455 = .ok (.ireturn, 1) := by decide +kernel
theorem dL_law_456 : decode cL_law 456 = .ok (.iload 6, 2) := by decide +kernel
theorem dL_law_458 : decode cL_law 458 = .ok (.ifCond .ne 15, 3) := by decide +kernel
theorem dL_law_461 : decode cL_law 461 = .ok (.aload_n 3, 1) := by decide +kernel
theorem dL_law_462 : decode cL_law 462 = .ok (.iconst 0, 1) := by decide +kernel
theorem dL_law_463 : decode cL_law 463 = .ok (.laload, 1) := by decide +kernel
theorem dL_law_464 : decode cL_law 464 = .ok (.iload 7, 2) := by decide +kernel
theorem dL_law_466 : decode cL_law 466 = .ok (.i2l, 1) := by decide +kernel
theorem dL_law_467 : decode cL_law 467 = .ok (.lcmp, 1) := by decide +kernel
theorem dL_law_468 : decode cL_law 468 = .ok (.ifCond .eq 5, 3) := by decide +kernel
theorem dL_law_471 : decode cL_law 471 = .ok (.iconst 0, 1) := by decide +kernel
theorem dL_law_472 : decode cL_law 472 = .ok (.ireturn, 1) := by decide +kernel
theorem dL_law_473 : decode cL_law 473 = .ok (.goto 2934, 3) := by decide +kernel
theorem dL_law_476 : decode cL_law 476 = .ok (.aload_n 1, 1) := by decide +kernel
theorem dL_law_477 : decode cL_law 477 = .ok (.aload_n 3, 1) := by decide +kernel
theorem dL_law_478 : decode cL_law 478 = .ok (.invokestatic 177, 3) := by decide +kernel
theorem dL_law_481 : decode cL_law 481 = .ok (.istore 6, 2) := by decide +kernel
theorem dL_law_483 : decode cL_law 483 = .ok (.aload_n 2, 1) := by decide +kernel
theorem dL_law_484 : decode cL_law 484 = .ok (.invokevirtual 180, 3) := by decide +kernel
theorem dL_law_487 : decode cL_law 487 = .ok (.istore 7, 2) := by decide +kernel
theorem dL_law_489 : decode cL_law 489 = .ok (.aload_n 2, 1) := by decide +kernel
theorem dL_law_490 : decode cL_law 490 = .ok (.invokevirtual 170, 3) := by decide +kernel
theorem dL_law_493 : decode cL_law 493 = .ok (.iload 6, 2) := by decide +kernel
theorem dL_law_495 : decode cL_law 495 = .ok (.if_icmp .eq 5, 3) := by decide +kernel
theorem dL_law_498 : decode cL_law 498 = .ok (.iconst 0, 1) := by decide +kernel
theorem dL_law_499 : decode cL_law 499 = .ok (.ireturn, 1) := by decide +kernel
theorem dL_law_500 : decode cL_law 500 = .ok (.iload 6, 2) := by decide +kernel
theorem dL_law_502 : decode cL_law 502 = .ok (.ifCond .ne 15, 3) := by decide +kernel
theorem dL_law_505 : decode cL_law 505 = .ok (.aload_n 3, 1) := by decide +kernel
theorem dL_law_506 : decode cL_law 506 = .ok (.iconst 0, 1) := by decide +kernel
theorem dL_law_507 : decode cL_law 507 = .ok (.laload, 1) := by decide +kernel
theorem dL_law_508 : decode cL_law 508 = .ok (.iload 7, 2) := by decide +kernel
theorem dL_law_510 : decode cL_law 510 = .ok (.i2l, 1) := by decide +kernel
theorem dL_law_511 : decode cL_law 511 = .ok (.lcmp, 1) := by decide +kernel
theorem dL_law_512 : decode cL_law 512 = .ok (.ifCond .eq 5, 3) := by decide +kernel
theorem dL_law_515 : decode cL_law 515 = .ok (.iconst 0, 1) := by decide +kernel
theorem dL_law_516 : decode cL_law 516 = .ok (.ireturn, 1) := by decide +kernel
theorem dL_law_517 : decode cL_law 517 = .ok (.goto 2890, 3) := by decide +kernel
theorem dL_law_520 : decode cL_law 520 = .ok (.aload_n 1, 1) := by decide +kernel
theorem dL_law_521 : decode cL_law 521 = .ok (.invokevirtual 181, 3) := by decide +kernel
theorem dL_law_524 : decode cL_law 524 = .ok (.aload_n 2, 1) := by decide +kernel
theorem dL_law_525 : decode cL_law 525 = .ok (.invokevirtual 184, 3) := by decide +kernel
theorem dL_law_528 : decode cL_law 528 = .ok (.if_icmp .eq 2879, 3) := by decide +kernel
theorem dL_law_531 : decode cL_law 531 = .ok (.iconst 0, 1) := by decide +kernel
theorem dL_law_532 : decode cL_law 532 = .ok (.ireturn, 1) := by decide +kernel
theorem dL_law_533 : decode cL_law 533 = .ok (.aload_n 1, 1) := by decide +kernel
theorem dL_law_534 : decode cL_law 534 = .ok (.invokevirtual 185, 3) := by decide +kernel
theorem dL_law_537 : decode cL_law 537 = .ok (.aload_n 2, 1) := by decide +kernel
theorem dL_law_538 : decode cL_law 538 = .ok (.invokevirtual 188, 3) := by decide +kernel
theorem dL_law_541 : decode cL_law 541 = .ok (.if_icmp .eq 2866, 3) := by decide +kernel
theorem dL_law_544 : decode cL_law 544 = .ok (.iconst 0, 1) := by decide +kernel
theorem dL_law_545 : decode cL_law 545 = .ok (.ireturn, 1) := by decide +kernel
theorem dL_law_546 : decode cL_law 546 = .ok (.aload_n 1, 1) := by decide +kernel
theorem dL_law_547 : decode cL_law 547 = .ok (.invokevirtual 189, 3) := by decide +kernel
theorem dL_law_550 : decode cL_law 550 = .ok (.aload_n 2, 1) := by decide +kernel
theorem dL_law_551 : decode cL_law 551 = .ok (.invokevirtual 192, 3) := by decide +kernel
theorem dL_law_554 : decode cL_law 554 = .ok (.if_icmp .eq 2853, 3) := by decide +kernel
theorem dL_law_557 : decode cL_law 557 = .ok (.iconst 0, 1) := by decide +kernel
theorem dL_law_558 : decode cL_law 558 = .ok (.ireturn, 1) := by decide +kernel
theorem dL_law_559 : decode cL_law 559 = .ok (.aload_n 1, 1) := by decide +kernel
theorem dL_law_560 : decode cL_law 560 = .ok (.invokevirtual 193, 3) := by decide +kernel
theorem dL_law_563 : decode cL_law 563 = .ok (.aload_n 2, 1) := by decide +kernel
theorem dL_law_564 : decode cL_law 564 = .ok (.invokevirtual 196, 3) := by decide +kernel
theorem dL_law_567 : decode cL_law 567 = .ok (.if_icmp .eq 2840, 3) := by decide +kernel
theorem dL_law_570 : decode cL_law 570 = .ok (.iconst 0, 1) := by decide +kernel
theorem dL_law_571 : decode cL_law 571 = .ok (.ireturn, 1) := by decide +kernel
theorem dL_law_572 : decode cL_law 572 = .ok (.aload_n 1, 1) := by decide +kernel
theorem dL_law_573 : decode cL_law 573 = .ok (.invokevirtual 197, 3) := by decide +kernel
theorem dL_law_576 : decode cL_law 576 = .ok (.aload_n 2, 1) := by decide +kernel
theorem dL_law_577 : decode cL_law 577 = .ok (.invokevirtual 200, 3) := by decide +kernel
theorem dL_law_580 : decode cL_law 580 = .ok (.if_icmp .eq 2827, 3) := by decide +kernel
theorem dL_law_583 : decode cL_law 583 = .ok (.iconst 0, 1) := by decide +kernel
theorem dL_law_584 : decode cL_law 584 = .ok (.ireturn, 1) := by decide +kernel
theorem dL_law_585 : decode cL_law 585 = .ok (.aload_n 1, 1) := by decide +kernel
theorem dL_law_586 : decode cL_law 586 = .ok (.invokevirtual 201, 3) := by decide +kernel
theorem dL_law_589 : decode cL_law 589 = .ok (.aload_n 2, 1) := by decide +kernel
theorem dL_law_590 : decode cL_law 590 = .ok (.invokevirtual 204, 3) := by decide +kernel
theorem dL_law_593 : decode cL_law 593 = .ok (.if_icmp .eq 2814, 3) := by decide +kernel
theorem dL_law_596 : decode cL_law 596 = .ok (.iconst 0, 1) := by decide +kernel
theorem dL_law_597 : decode cL_law 597 = .ok (.ireturn, 1) := by decide +kernel
theorem dL_law_598 : decode cL_law 598 = .ok (.aload_n 1, 1) := by decide +kernel
theorem dL_law_599 : decode cL_law 599 = .ok (.invokevirtual 205, 3) := by decide +kernel
theorem dL_law_602 : decode cL_law 602 = .ok (.aload_n 2, 1) := by decide +kernel
theorem dL_law_603 : decode cL_law 603 = .ok (.invokevirtual 208, 3) := by decide +kernel
theorem dL_law_606 : decode cL_law 606 = .ok (.if_icmp .eq 2801, 3) := by decide +kernel
theorem dL_law_609 : decode cL_law 609 = .ok (.iconst 0, 1) := by decide +kernel
theorem dL_law_610 : decode cL_law 610 = .ok (.ireturn, 1) := by decide +kernel
theorem dL_law_611 : decode cL_law 611 = .ok (.aload_n 1, 1) := by decide +kernel
theorem dL_law_612 : decode cL_law 612 = .ok (.invokevirtual 209, 3) := by decide +kernel
theorem dL_law_615 : decode cL_law 615 = .ok (.aload_n 2, 1) := by decide +kernel
theorem dL_law_616 : decode cL_law 616 = .ok (.invokevirtual 212, 3) := by decide +kernel
theorem dL_law_619 : decode cL_law 619 = .ok (.if_icmp .eq 2788, 3) := by decide +kernel
theorem dL_law_622 : decode cL_law 622 = .ok (.iconst 0, 1) := by decide +kernel
theorem dL_law_623 : decode cL_law 623 = .ok (.ireturn, 1) := by decide +kernel
theorem dL_law_624 : decode cL_law 624 = .ok (.aload_n 1, 1) := by decide +kernel
theorem dL_law_625 : decode cL_law 625 = .ok (.aload_n 0, 1) := by decide +kernel
theorem dL_law_626 : decode cL_law 626 = .ok (.iload 5, 2) := by decide +kernel
theorem dL_law_628 : decode cL_law 628 = .ok (.iconst 1, 1) := by decide +kernel
theorem dL_law_629 : decode cL_law 629 = .ok (.iadd, 1) := by decide +kernel
theorem dL_law_630 : decode cL_law 630 = .ok (.iaload, 1) := by decide +kernel
theorem dL_law_631 : decode cL_law 631 = .ok (.aload_n 3, 1) := by decide +kernel
theorem dL_law_632 : decode cL_law 632 = .ok (.invokestatic 213, 3) := by decide +kernel
theorem dL_law_635 : decode cL_law 635 = .ok (.istore 6, 2) := by decide +kernel
theorem dL_law_637 : decode cL_law 637 = .ok (.aload_n 2, 1) := by decide +kernel
theorem dL_law_638 : decode cL_law 638 = .ok (.aload_n 0, 1) := by decide +kernel
theorem dL_law_639 : decode cL_law 639 = .ok (.iload 5, 2) := by decide +kernel
theorem dL_law_641 : decode cL_law 641 = .ok (.iconst 1, 1) := by decide +kernel
theorem dL_law_642 : decode cL_law 642 = .ok (.iadd, 1) := by decide +kernel
theorem dL_law_643 : decode cL_law 643 = .ok (.iaload, 1) := by decide +kernel
theorem dL_law_644 : decode cL_law 644 = .ok (.invokevirtual 215, 3) := by decide +kernel
theorem dL_law_647 : decode cL_law 647 = .ok (.istore 7, 2) := by decide +kernel
theorem dL_law_649 : decode cL_law 649 = .ok (.aload_n 2, 1) := by decide +kernel
theorem dL_law_650 : decode cL_law 650 = .ok (.invokevirtual 170, 3) := by decide +kernel
theorem dL_law_653 : decode cL_law 653 = .ok (.iload 6, 2) := by decide +kernel
theorem dL_law_655 : decode cL_law 655 = .ok (.if_icmp .eq 5, 3) := by decide +kernel
theorem dL_law_658 : decode cL_law 658 = .ok (.iconst 0, 1) := by decide +kernel
theorem dL_law_659 : decode cL_law 659 = .ok (.ireturn, 1) := by decide +kernel
theorem dL_law_660 : decode cL_law 660 = .ok (.iload 6, 2) := by decide +kernel
theorem dL_law_662 : decode cL_law 662 = .ok (.ifCond .ne 15, 3) := by decide +kernel
theorem dL_law_665 : decode cL_law 665 = .ok (.aload_n 3, 1) := by decide +kernel
theorem dL_law_666 : decode cL_law 666 = .ok (.iconst 0, 1) := by decide +kernel
theorem dL_law_667 : decode cL_law 667 = .ok (.laload, 1) := by decide +kernel
theorem dL_law_668 : decode cL_law 668 = .ok (.iload 7, 2) := by decide +kernel
theorem dL_law_670 : decode cL_law 670 = .ok (.i2l, 1) := by decide +kernel
theorem dL_law_671 : decode cL_law 671 = .ok (.lcmp, 1) := by decide +kernel
theorem dL_law_672 : decode cL_law 672 = .ok (.ifCond .eq 5, 3) := by decide +kernel
theorem dL_law_675 : decode cL_law 675 = .ok (.iconst 0, 1) := by decide +kernel
theorem dL_law_676 : decode cL_law 676 = .ok (.ireturn, 1) := by decide +kernel
theorem dL_law_677 : decode cL_law 677 = .ok (.goto 2730, 3) := by decide +kernel
theorem dL_law_680 : decode cL_law 680 = .ok (.aload_n 1, 1) := by decide +kernel
theorem dL_law_681 : decode cL_law 681 = .ok (.aload_n 0, 1) := by decide +kernel
theorem dL_law_682 : decode cL_law 682 = .ok (.iload 5, 2) := by decide +kernel
theorem dL_law_684 : decode cL_law 684 = .ok (.iconst 1, 1) := by decide +kernel
theorem dL_law_685 : decode cL_law 685 = .ok (.iadd, 1) := by decide +kernel
theorem dL_law_686 : decode cL_law 686 = .ok (.iaload, 1) := by decide +kernel
theorem dL_law_687 : decode cL_law 687 = .ok (.aload_n 0, 1) := by decide +kernel
theorem dL_law_688 : decode cL_law 688 = .ok (.iload 5, 2) := by decide +kernel
theorem dL_law_690 : decode cL_law 690 = .ok (.iconst 2, 1) := by decide +kernel
theorem dL_law_691 : decode cL_law 691 = .ok (.iadd, 1) := by decide +kernel
theorem dL_law_692 : decode cL_law 692 = .ok (.iaload, 1) := by decide +kernel
theorem dL_law_693 : decode cL_law 693 = .ok (.aload_n 3, 1) := by decide +kernel
theorem dL_law_694 : decode cL_law 694 = .ok (.invokestatic 216, 3) := by decide +kernel
theorem dL_law_697 : decode cL_law 697 = .ok (.istore 6, 2) := by decide +kernel
theorem dL_law_699 : decode cL_law 699 = .ok (.aload_n 2, 1) := by decide +kernel
theorem dL_law_700 : decode cL_law 700 = .ok (.aload_n 0, 1) := by decide +kernel
theorem dL_law_701 : decode cL_law 701 = .ok (.iload 5, 2) := by decide +kernel
theorem dL_law_703 : decode cL_law 703 = .ok (.iconst 1, 1) := by decide +kernel
theorem dL_law_704 : decode cL_law 704 = .ok (.iadd, 1) := by decide +kernel
theorem dL_law_705 : decode cL_law 705 = .ok (.iaload, 1) := by decide +kernel
theorem dL_law_706 : decode cL_law 706 = .ok (.aload_n 0, 1) := by decide +kernel
theorem dL_law_707 : decode cL_law 707 = .ok (.iload 5, 2) := by decide +kernel
theorem dL_law_709 : decode cL_law 709 = .ok (.iconst 2, 1) := by decide +kernel
theorem dL_law_710 : decode cL_law 710 = .ok (.iadd, 1) := by decide +kernel
theorem dL_law_711 : decode cL_law 711 = .ok (.iaload, 1) := by decide +kernel
theorem dL_law_712 : decode cL_law 712 = .ok (.invokevirtual 219, 3) := by decide +kernel
theorem dL_law_715 : decode cL_law 715 = .ok (.istore 7, 2) := by decide +kernel
theorem dL_law_717 : decode cL_law 717 = .ok (.aload_n 2, 1) := by decide +kernel
theorem dL_law_718 : decode cL_law 718 = .ok (.invokevirtual 170, 3) := by decide +kernel
theorem dL_law_721 : decode cL_law 721 = .ok (.iload 6, 2) := by decide +kernel
theorem dL_law_723 : decode cL_law 723 = .ok (.if_icmp .eq 5, 3) := by decide +kernel
theorem dL_law_726 : decode cL_law 726 = .ok (.iconst 0, 1) := by decide +kernel
theorem dL_law_727 : decode cL_law 727 = .ok (.ireturn, 1) := by decide +kernel
theorem dL_law_728 : decode cL_law 728 = .ok (.iload 6, 2) := by decide +kernel
theorem dL_law_730 : decode cL_law 730 = .ok (.ifCond .ne 15, 3) := by decide +kernel
theorem dL_law_733 : decode cL_law 733 = .ok (.aload_n 3, 1) := by decide +kernel
theorem dL_law_734 : decode cL_law 734 = .ok (.iconst 0, 1) := by decide +kernel
theorem dL_law_735 : decode cL_law 735 = .ok (.laload, 1) := by decide +kernel
theorem dL_law_736 : decode cL_law 736 = .ok (.iload 7, 2) := by decide +kernel
theorem dL_law_738 : decode cL_law 738 = .ok (.i2l, 1) := by decide +kernel
theorem dL_law_739 : decode cL_law 739 = .ok (.lcmp, 1) := by decide +kernel
theorem dL_law_740 : decode cL_law 740 = .ok (.ifCond .eq 5, 3) := by decide +kernel
theorem dL_law_743 : decode cL_law 743 = .ok (.iconst 0, 1) := by decide +kernel
theorem dL_law_744 : decode cL_law 744 = .ok (.ireturn, 1) := by decide +kernel
theorem dL_law_745 : decode cL_law 745 = .ok (.goto 2662, 3) := by decide +kernel
theorem dL_law_748 : decode cL_law 748 = .ok (.aload_n 1, 1) := by decide +kernel
theorem dL_law_749 : decode cL_law 749 = .ok (.aload_n 0, 1) := by decide +kernel
theorem dL_law_750 : decode cL_law 750 = .ok (.iload 5, 2) := by decide +kernel
theorem dL_law_752 : decode cL_law 752 = .ok (.iconst 1, 1) := by decide +kernel
theorem dL_law_753 : decode cL_law 753 = .ok (.iadd, 1) := by decide +kernel
theorem dL_law_754 : decode cL_law 754 = .ok (.iaload, 1) := by decide +kernel
theorem dL_law_755 : decode cL_law 755 = .ok (.aload_n 3, 1) := by decide +kernel
theorem dL_law_756 : decode cL_law 756 = .ok (.invokestatic 220, 3) := by decide +kernel
theorem dL_law_759 : decode cL_law 759 = .ok (.istore 6, 2) := by decide +kernel
theorem dL_law_761 : decode cL_law 761 = .ok (.aload_n 2, 1) := by decide +kernel
theorem dL_law_762 : decode cL_law 762 = .ok (.aload_n 0, 1) := by decide +kernel
theorem dL_law_763 : decode cL_law 763 = .ok (.iload 5, 2) := by decide +kernel
theorem dL_law_765 : decode cL_law 765 = .ok (.iconst 1, 1) := by decide +kernel
theorem dL_law_766 : decode cL_law 766 = .ok (.iadd, 1) := by decide +kernel
theorem dL_law_767 : decode cL_law 767 = .ok (.iaload, 1) := by decide +kernel
theorem dL_law_768 : decode cL_law 768 = .ok (.invokevirtual 222, 3) := by decide +kernel
theorem dL_law_771 : decode cL_law 771 = .ok (.istore 7, 2) := by decide +kernel
theorem dL_law_773 : decode cL_law 773 = .ok (.aload_n 2, 1) := by decide +kernel
theorem dL_law_774 : decode cL_law 774 = .ok (.invokevirtual 170, 3) := by decide +kernel
theorem dL_law_777 : decode cL_law 777 = .ok (.iload 6, 2) := by decide +kernel
theorem dL_law_779 : decode cL_law 779 = .ok (.if_icmp .eq 5, 3) := by decide +kernel
theorem dL_law_782 : decode cL_law 782 = .ok (.iconst 0, 1) := by decide +kernel
theorem dL_law_783 : decode cL_law 783 = .ok (.ireturn, 1) := by decide +kernel
theorem dL_law_784 : decode cL_law 784 = .ok (.iload 6, 2) := by decide +kernel
theorem dL_law_786 : decode cL_law 786 = .ok (.ifCond .ne 22, 3) := by decide +kernel
theorem dL_law_789 : decode cL_law 789 = .ok (.aload_n 3, 1) := by decide +kernel
theorem dL_law_790 : decode cL_law 790 = .ok (.iconst 0, 1) := by decide +kernel
theorem dL_law_791 : decode cL_law 791 = .ok (.laload, 1) := by decide +kernel
theorem dL_law_792 : decode cL_law 792 = .ok (.iload 7, 2) := by decide +kernel
theorem dL_law_794 : decode cL_law 794 = .ok (.ifCond .eq 7, 3) := by decide +kernel
theorem dL_law_797 : decode cL_law 797 = .ok (.lconst 1, 1) := by decide +kernel
theorem dL_law_798 : decode cL_law 798 = .ok (.goto 4, 3) := by decide +kernel
theorem dL_law_801 : decode cL_law 801 = .ok (.lconst 0, 1) := by decide +kernel
theorem dL_law_802 : decode cL_law 802 = .ok (.lcmp, 1) := by decide +kernel
theorem dL_law_803 : decode cL_law 803 = .ok (.ifCond .eq 5, 3) := by decide +kernel
theorem dL_law_806 : decode cL_law 806 = .ok (.iconst 0, 1) := by decide +kernel
theorem dL_law_807 : decode cL_law 807 = .ok (.ireturn, 1) := by decide +kernel
theorem dL_law_808 : decode cL_law 808 = .ok (.goto 2599, 3) := by decide +kernel
theorem dL_law_811 : decode cL_law 811 = .ok (.aload_n 1, 1) := by decide +kernel
theorem dL_law_812 : decode cL_law 812 = .ok (.aload_n 0, 1) := by decide +kernel
theorem dL_law_813 : decode cL_law 813 = .ok (.iload 5, 2) := by decide +kernel
theorem dL_law_815 : decode cL_law 815 = .ok (.iconst 1, 1) := by decide +kernel
theorem dL_law_816 : decode cL_law 816 = .ok (.iadd, 1) := by decide +kernel
theorem dL_law_817 : decode cL_law 817 = .ok (.iaload, 1) := by decide +kernel
theorem dL_law_818 : decode cL_law 818 = .ok (.aload_n 3, 1) := by decide +kernel
theorem dL_law_819 : decode cL_law 819 = .ok (.invokestatic 223, 3) := by decide +kernel
theorem dL_law_822 : decode cL_law 822 = .ok (.istore 6, 2) := by decide +kernel
theorem dL_law_824 : decode cL_law 824 = .ok (.aload_n 2, 1) := by decide +kernel
theorem dL_law_825 : decode cL_law 825 = .ok (.aload_n 0, 1) := by decide +kernel
theorem dL_law_826 : decode cL_law 826 = .ok (.iload 5, 2) := by decide +kernel
theorem dL_law_828 : decode cL_law 828 = .ok (.iconst 1, 1) := by decide +kernel
theorem dL_law_829 : decode cL_law 829 = .ok (.iadd, 1) := by decide +kernel
theorem dL_law_830 : decode cL_law 830 = .ok (.iaload, 1) := by decide +kernel
theorem dL_law_831 : decode cL_law 831 = .ok (.invokevirtual 225, 3) := by decide +kernel
theorem dL_law_834 : decode cL_law 834 = .ok (.istore 7, 2) := by decide +kernel
theorem dL_law_836 : decode cL_law 836 = .ok (.aload_n 2, 1) := by decide +kernel
theorem dL_law_837 : decode cL_law 837 = .ok (.invokevirtual 170, 3) := by decide +kernel
theorem dL_law_840 : decode cL_law 840 = .ok (.iload 6, 2) := by decide +kernel
theorem dL_law_842 : decode cL_law 842 = .ok (.if_icmp .eq 5, 3) := by decide +kernel
theorem dL_law_845 : decode cL_law 845 = .ok (.iconst 0, 1) := by decide +kernel
theorem dL_law_846 : decode cL_law 846 = .ok (.ireturn, 1) := by decide +kernel
theorem dL_law_847 : decode cL_law 847 = .ok (.iload 6, 2) := by decide +kernel
theorem dL_law_849 : decode cL_law 849 = .ok (.ifCond .ne 15, 3) := by decide +kernel
theorem dL_law_852 : decode cL_law 852 = .ok (.aload_n 3, 1) := by decide +kernel
theorem dL_law_853 : decode cL_law 853 = .ok (.iconst 0, 1) := by decide +kernel
theorem dL_law_854 : decode cL_law 854 = .ok (.laload, 1) := by decide +kernel
theorem dL_law_855 : decode cL_law 855 = .ok (.iload 7, 2) := by decide +kernel
theorem dL_law_857 : decode cL_law 857 = .ok (.i2l, 1) := by decide +kernel
theorem dL_law_858 : decode cL_law 858 = .ok (.lcmp, 1) := by decide +kernel
theorem dL_law_859 : decode cL_law 859 = .ok (.ifCond .eq 5, 3) := by decide +kernel
theorem dL_law_862 : decode cL_law 862 = .ok (.iconst 0, 1) := by decide +kernel
theorem dL_law_863 : decode cL_law 863 = .ok (.ireturn, 1) := by decide +kernel
theorem dL_law_864 : decode cL_law 864 = .ok (.goto 2543, 3) := by decide +kernel
theorem dL_law_867 : decode cL_law 867 = .ok (.aload_n 1, 1) := by decide +kernel
theorem dL_law_868 : decode cL_law 868 = .ok (.aload_n 0, 1) := by decide +kernel
theorem dL_law_869 : decode cL_law 869 = .ok (.iload 5, 2) := by decide +kernel
theorem dL_law_871 : decode cL_law 871 = .ok (.iconst 1, 1) := by decide +kernel
theorem dL_law_872 : decode cL_law 872 = .ok (.iadd, 1) := by decide +kernel
theorem dL_law_873 : decode cL_law 873 = .ok (.iaload, 1) := by decide +kernel
theorem dL_law_874 : decode cL_law 874 = .ok (.aload_n 0, 1) := by decide +kernel
theorem dL_law_875 : decode cL_law 875 = .ok (.iload 5, 2) := by decide +kernel
theorem dL_law_877 : decode cL_law 877 = .ok (.iconst 2, 1) := by decide +kernel
theorem dL_law_878 : decode cL_law 878 = .ok (.iadd, 1) := by decide +kernel
theorem dL_law_879 : decode cL_law 879 = .ok (.iaload, 1) := by decide +kernel
theorem dL_law_880 : decode cL_law 880 = .ok (.aload_n 3, 1) := by decide +kernel
theorem dL_law_881 : decode cL_law 881 = .ok (.invokestatic 226, 3) := by decide +kernel
theorem dL_law_884 : decode cL_law 884 = .ok (.istore 6, 2) := by decide +kernel
theorem dL_law_886 : decode cL_law 886 = .ok (.aload_n 2, 1) := by decide +kernel
theorem dL_law_887 : decode cL_law 887 = .ok (.aload_n 0, 1) := by decide +kernel
theorem dL_law_888 : decode cL_law 888 = .ok (.iload 5, 2) := by decide +kernel
theorem dL_law_890 : decode cL_law 890 = .ok (.iconst 1, 1) := by decide +kernel
theorem dL_law_891 : decode cL_law 891 = .ok (.iadd, 1) := by decide +kernel
theorem dL_law_892 : decode cL_law 892 = .ok (.iaload, 1) := by decide +kernel
theorem dL_law_893 : decode cL_law 893 = .ok (.aload_n 0, 1) := by decide +kernel
theorem dL_law_894 : decode cL_law 894 = .ok (.iload 5, 2) := by decide +kernel
theorem dL_law_896 : decode cL_law 896 = .ok (.iconst 2, 1) := by decide +kernel
theorem dL_law_897 : decode cL_law 897 = .ok (.iadd, 1) := by decide +kernel
theorem dL_law_898 : decode cL_law 898 = .ok (.iaload, 1) := by decide +kernel
theorem dL_law_899 : decode cL_law 899 = .ok (.invokevirtual 228, 3) := by decide +kernel
theorem dL_law_902 : decode cL_law 902 = .ok (.istore 7, 2) := by decide +kernel
theorem dL_law_904 : decode cL_law 904 = .ok (.aload_n 2, 1) := by decide +kernel
theorem dL_law_905 : decode cL_law 905 = .ok (.invokevirtual 170, 3) := by decide +kernel
theorem dL_law_908 : decode cL_law 908 = .ok (.iload 6, 2) := by decide +kernel
theorem dL_law_910 : decode cL_law 910 = .ok (.if_icmp .eq 5, 3) := by decide +kernel
theorem dL_law_913 : decode cL_law 913 = .ok (.iconst 0, 1) := by decide +kernel
theorem dL_law_914 : decode cL_law 914 = .ok (.ireturn, 1) := by decide +kernel
theorem dL_law_915 : decode cL_law 915 = .ok (.iload 6, 2) := by decide +kernel
theorem dL_law_917 : decode cL_law 917 = .ok (.ifCond .ne 15, 3) := by decide +kernel
theorem dL_law_920 : decode cL_law 920 = .ok (.aload_n 3, 1) := by decide +kernel
theorem dL_law_921 : decode cL_law 921 = .ok (.iconst 0, 1) := by decide +kernel
theorem dL_law_922 : decode cL_law 922 = .ok (.laload, 1) := by decide +kernel
theorem dL_law_923 : decode cL_law 923 = .ok (.iload 7, 2) := by decide +kernel
theorem dL_law_925 : decode cL_law 925 = .ok (.i2l, 1) := by decide +kernel
theorem dL_law_926 : decode cL_law 926 = .ok (.lcmp, 1) := by decide +kernel
theorem dL_law_927 : decode cL_law 927 = .ok (.ifCond .eq 5, 3) := by decide +kernel
theorem dL_law_930 : decode cL_law 930 = .ok (.iconst 0, 1) := by decide +kernel
theorem dL_law_931 : decode cL_law 931 = .ok (.ireturn, 1) := by decide +kernel
theorem dL_law_932 : decode cL_law 932 = .ok (.goto 2475, 3) := by decide +kernel
theorem dL_law_935 : decode cL_law 935 = .ok (.aload_n 1, 1) := by decide +kernel
theorem dL_law_936 : decode cL_law 936 = .ok (.aload_n 0, 1) := by decide +kernel
theorem dL_law_937 : decode cL_law 937 = .ok (.iload 5, 2) := by decide +kernel
theorem dL_law_939 : decode cL_law 939 = .ok (.iconst 1, 1) := by decide +kernel
theorem dL_law_940 : decode cL_law 940 = .ok (.iadd, 1) := by decide +kernel
theorem dL_law_941 : decode cL_law 941 = .ok (.iaload, 1) := by decide +kernel
theorem dL_law_942 : decode cL_law 942 = .ok (.aload_n 3, 1) := by decide +kernel
theorem dL_law_943 : decode cL_law 943 = .ok (.invokestatic 229, 3) := by decide +kernel
theorem dL_law_946 : decode cL_law 946 = .ok (.istore 6, 2) := by decide +kernel
theorem dL_law_948 : decode cL_law 948 = .ok (.aload_n 2, 1) := by decide +kernel
theorem dL_law_949 : decode cL_law 949 = .ok (.aload_n 0, 1) := by decide +kernel
theorem dL_law_950 : decode cL_law 950 = .ok (.iload 5, 2) := by decide +kernel
theorem dL_law_952 : decode cL_law 952 = .ok (.iconst 1, 1) := by decide +kernel
theorem dL_law_953 : decode cL_law 953 = .ok (.iadd, 1) := by decide +kernel
theorem dL_law_954 : decode cL_law 954 = .ok (.iaload, 1) := by decide +kernel
theorem dL_law_955 : decode cL_law 955 = .ok (.invokevirtual 231, 3) := by decide +kernel
theorem dL_law_958 : decode cL_law 958 = .ok (.istore 7, 2) := by decide +kernel
theorem dL_law_960 : decode cL_law 960 = .ok (.aload_n 2, 1) := by decide +kernel
theorem dL_law_961 : decode cL_law 961 = .ok (.invokevirtual 170, 3) := by decide +kernel
theorem dL_law_964 : decode cL_law 964 = .ok (.iload 6, 2) := by decide +kernel
theorem dL_law_966 : decode cL_law 966 = .ok (.if_icmp .eq 5, 3) := by decide +kernel
theorem dL_law_969 : decode cL_law 969 = .ok (.iconst 0, 1) := by decide +kernel
theorem dL_law_970 : decode cL_law 970 = .ok (.ireturn, 1) := by decide +kernel
theorem dL_law_971 : decode cL_law 971 = .ok (.iload 6, 2) := by decide +kernel
theorem dL_law_973 : decode cL_law 973 = .ok (.ifCond .ne 15, 3) := by decide +kernel
theorem dL_law_976 : decode cL_law 976 = .ok (.aload_n 3, 1) := by decide +kernel
theorem dL_law_977 : decode cL_law 977 = .ok (.iconst 0, 1) := by decide +kernel
theorem dL_law_978 : decode cL_law 978 = .ok (.laload, 1) := by decide +kernel
theorem dL_law_979 : decode cL_law 979 = .ok (.iload 7, 2) := by decide +kernel
theorem dL_law_981 : decode cL_law 981 = .ok (.i2l, 1) := by decide +kernel
theorem dL_law_982 : decode cL_law 982 = .ok (.lcmp, 1) := by decide +kernel
theorem dL_law_983 : decode cL_law 983 = .ok (.ifCond .eq 5, 3) := by decide +kernel
theorem dL_law_986 : decode cL_law 986 = .ok (.iconst 0, 1) := by decide +kernel
theorem dL_law_987 : decode cL_law 987 = .ok (.ireturn, 1) := by decide +kernel
theorem dL_law_988 : decode cL_law 988 = .ok (.goto 2419, 3) := by decide +kernel
theorem dL_law_991 : decode cL_law 991 = .ok (.aload_n 1, 1) := by decide +kernel
theorem dL_law_992 : decode cL_law 992 = .ok (.aload_n 0, 1) := by decide +kernel
theorem dL_law_993 : decode cL_law 993 = .ok (.iload 5, 2) := by decide +kernel
theorem dL_law_995 : decode cL_law 995 = .ok (.iconst 1, 1) := by decide +kernel
theorem dL_law_996 : decode cL_law 996 = .ok (.iadd, 1) := by decide +kernel
theorem dL_law_997 : decode cL_law 997 = .ok (.iaload, 1) := by decide +kernel
theorem dL_law_998 : decode cL_law 998 = .ok (.aload_n 3, 1) := by decide +kernel
theorem dL_law_999 : decode cL_law 999 = .ok (.invokestatic 232, 3) := by decide +kernel
theorem dL_law_1002 : decode cL_law 1002 = .ok (.istore 6, 2) := by decide +kernel
theorem dL_law_1004 : decode cL_law 1004 = .ok (.aload_n 2, 1) := by decide +kernel
theorem dL_law_1005 : decode cL_law 1005 = .ok (.aload_n 0, 1) := by decide +kernel
theorem dL_law_1006 : decode cL_law 1006 = .ok (.iload 5, 2) := by decide +kernel
theorem dL_law_1008 : decode cL_law 1008 = .ok (.iconst 1, 1) := by decide +kernel
theorem dL_law_1009 : decode cL_law 1009 = .ok (.iadd, 1) := by decide +kernel
theorem dL_law_1010 : decode cL_law 1010 = .ok (.iaload, 1) := by decide +kernel
theorem dL_law_1011 : decode cL_law 1011 = .ok (.invokevirtual 234, 3) := by decide +kernel
theorem dL_law_1014 : decode cL_law 1014 = .ok (.istore 7, 2) := by decide +kernel
theorem dL_law_1016 : decode cL_law 1016 = .ok (.aload_n 2, 1) := by decide +kernel
theorem dL_law_1017 : decode cL_law 1017 = .ok (.invokevirtual 170, 3) := by decide +kernel
theorem dL_law_1020 : decode cL_law 1020 = .ok (.iload 6, 2) := by decide +kernel
theorem dL_law_1022 : decode cL_law 1022 = .ok (.if_icmp .eq 5, 3) := by decide +kernel
theorem dL_law_1025 : decode cL_law 1025 = .ok (.iconst 0, 1) := by decide +kernel
theorem dL_law_1026 : decode cL_law 1026 = .ok (.ireturn, 1) := by decide +kernel
theorem dL_law_1027 : decode cL_law 1027 = .ok (.iload 6, 2) := by decide +kernel
theorem dL_law_1029 : decode cL_law 1029 = .ok (.ifCond .ne 15, 3) := by decide +kernel
theorem dL_law_1032 : decode cL_law 1032 = .ok (.aload_n 3, 1) := by decide +kernel
theorem dL_law_1033 : decode cL_law 1033 = .ok (.iconst 0, 1) := by decide +kernel
theorem dL_law_1034 : decode cL_law 1034 = .ok (.laload, 1) := by decide +kernel
theorem dL_law_1035 : decode cL_law 1035 = .ok (.iload 7, 2) := by decide +kernel
theorem dL_law_1037 : decode cL_law 1037 = .ok (.i2l, 1) := by decide +kernel
theorem dL_law_1038 : decode cL_law 1038 = .ok (.lcmp, 1) := by decide +kernel
theorem dL_law_1039 : decode cL_law 1039 = .ok (.ifCond .eq 5, 3) := by decide +kernel
theorem dL_law_1042 : decode cL_law 1042 = .ok (.iconst 0, 1) := by decide +kernel
theorem dL_law_1043 : decode cL_law 1043 = .ok (.ireturn, 1) := by decide +kernel
theorem dL_law_1044 : decode cL_law 1044 = .ok (.goto 2363, 3) := by decide +kernel
theorem dL_law_1047 : decode cL_law 1047 = .ok (.aload_n 1, 1) := by decide +kernel
theorem dL_law_1048 : decode cL_law 1048 = .ok (.aload_n 0, 1) := by decide +kernel
theorem dL_law_1049 : decode cL_law 1049 = .ok (.iload 5, 2) := by decide +kernel
theorem dL_law_1051 : decode cL_law 1051 = .ok (.iconst 1, 1) := by decide +kernel
theorem dL_law_1052 : decode cL_law 1052 = .ok (.iadd, 1) := by decide +kernel
theorem dL_law_1053 : decode cL_law 1053 = .ok (.iaload, 1) := by decide +kernel
theorem dL_law_1054 : decode cL_law 1054 = .ok (.aload_n 3, 1) := by decide +kernel
theorem dL_law_1055 : decode cL_law 1055 = .ok (.invokestatic 235, 3) := by decide +kernel
theorem dL_law_1058 : decode cL_law 1058 = .ok (.istore 6, 2) := by decide +kernel
theorem dL_law_1060 : decode cL_law 1060 = .ok (.aload_n 2, 1) := by decide +kernel
theorem dL_law_1061 : decode cL_law 1061 = .ok (.aload_n 0, 1) := by decide +kernel
theorem dL_law_1062 : decode cL_law 1062 = .ok (.iload 5, 2) := by decide +kernel
theorem dL_law_1064 : decode cL_law 1064 = .ok (.iconst 1, 1) := by decide +kernel
theorem dL_law_1065 : decode cL_law 1065 = .ok (.iadd, 1) := by decide +kernel
theorem dL_law_1066 : decode cL_law 1066 = .ok (.iaload, 1) := by decide +kernel
theorem dL_law_1067 : decode cL_law 1067 = .ok (.invokevirtual 237, 3) := by decide +kernel
theorem dL_law_1070 : decode cL_law 1070 = .ok (.istore 7, 2) := by decide +kernel
theorem dL_law_1072 : decode cL_law 1072 = .ok (.aload_n 2, 1) := by decide +kernel
theorem dL_law_1073 : decode cL_law 1073 = .ok (.invokevirtual 170, 3) := by decide +kernel
theorem dL_law_1076 : decode cL_law 1076 = .ok (.iload 6, 2) := by decide +kernel
theorem dL_law_1078 : decode cL_law 1078 = .ok (.if_icmp .eq 5, 3) := by decide +kernel
theorem dL_law_1081 : decode cL_law 1081 = .ok (.iconst 0, 1) := by decide +kernel
theorem dL_law_1082 : decode cL_law 1082 = .ok (.ireturn, 1) := by decide +kernel
theorem dL_law_1083 : decode cL_law 1083 = .ok (.iload 6, 2) := by decide +kernel
theorem dL_law_1085 : decode cL_law 1085 = .ok (.ifCond .ne 15, 3) := by decide +kernel
theorem dL_law_1088 : decode cL_law 1088 = .ok (.aload_n 3, 1) := by decide +kernel
theorem dL_law_1089 : decode cL_law 1089 = .ok (.iconst 0, 1) := by decide +kernel
theorem dL_law_1090 : decode cL_law 1090 = .ok (.laload, 1) := by decide +kernel
theorem dL_law_1091 : decode cL_law 1091 = .ok (.iload 7, 2) := by decide +kernel
theorem dL_law_1093 : decode cL_law 1093 = .ok (.i2l, 1) := by decide +kernel
theorem dL_law_1094 : decode cL_law 1094 = .ok (.lcmp, 1) := by decide +kernel
theorem dL_law_1095 : decode cL_law 1095 = .ok (.ifCond .eq 5, 3) := by decide +kernel
theorem dL_law_1098 : decode cL_law 1098 = .ok (.iconst 0, 1) := by decide +kernel
theorem dL_law_1099 : decode cL_law 1099 = .ok (.ireturn, 1) := by decide +kernel
theorem dL_law_1100 : decode cL_law 1100 = .ok (.goto 2307, 3) := by decide +kernel
theorem dL_law_1103 : decode cL_law 1103 = .ok (.aload_n 1, 1) := by decide +kernel
theorem dL_law_1104 : decode cL_law 1104 = .ok (.aload_n 0, 1) := by decide +kernel
theorem dL_law_1105 : decode cL_law 1105 = .ok (.iload 5, 2) := by decide +kernel
theorem dL_law_1107 : decode cL_law 1107 = .ok (.iconst 1, 1) := by decide +kernel
theorem dL_law_1108 : decode cL_law 1108 = .ok (.iadd, 1) := by decide +kernel
theorem dL_law_1109 : decode cL_law 1109 = .ok (.iaload, 1) := by decide +kernel
theorem dL_law_1110 : decode cL_law 1110 = .ok (.aload_n 3, 1) := by decide +kernel
theorem dL_law_1111 : decode cL_law 1111 = .ok (.invokestatic 238, 3) := by decide +kernel
theorem dL_law_1114 : decode cL_law 1114 = .ok (.istore 6, 2) := by decide +kernel
theorem dL_law_1116 : decode cL_law 1116 = .ok (.aload_n 2, 1) := by decide +kernel
theorem dL_law_1117 : decode cL_law 1117 = .ok (.aload_n 0, 1) := by decide +kernel
theorem dL_law_1118 : decode cL_law 1118 = .ok (.iload 5, 2) := by decide +kernel
theorem dL_law_1120 : decode cL_law 1120 = .ok (.iconst 1, 1) := by decide +kernel
theorem dL_law_1121 : decode cL_law 1121 = .ok (.iadd, 1) := by decide +kernel
theorem dL_law_1122 : decode cL_law 1122 = .ok (.iaload, 1) := by decide +kernel
theorem dL_law_1123 : decode cL_law 1123 = .ok (.invokevirtual 240, 3) := by decide +kernel
theorem dL_law_1126 : decode cL_law 1126 = .ok (.istore 7, 2) := by decide +kernel
theorem dL_law_1128 : decode cL_law 1128 = .ok (.aload_n 2, 1) := by decide +kernel
theorem dL_law_1129 : decode cL_law 1129 = .ok (.invokevirtual 170, 3) := by decide +kernel
theorem dL_law_1132 : decode cL_law 1132 = .ok (.iload 6, 2) := by decide +kernel
theorem dL_law_1134 : decode cL_law 1134 = .ok (.if_icmp .eq 5, 3) := by decide +kernel
theorem dL_law_1137 : decode cL_law 1137 = .ok (.iconst 0, 1) := by decide +kernel
theorem dL_law_1138 : decode cL_law 1138 = .ok (.ireturn, 1) := by decide +kernel
theorem dL_law_1139 : decode cL_law 1139 = .ok (.iload 6, 2) := by decide +kernel
theorem dL_law_1141 : decode cL_law 1141 = .ok (.ifCond .ne 22, 3) := by decide +kernel
theorem dL_law_1144 : decode cL_law 1144 = .ok (.aload_n 3, 1) := by decide +kernel
theorem dL_law_1145 : decode cL_law 1145 = .ok (.iconst 0, 1) := by decide +kernel
theorem dL_law_1146 : decode cL_law 1146 = .ok (.laload, 1) := by decide +kernel
theorem dL_law_1147 : decode cL_law 1147 = .ok (.iload 7, 2) := by decide +kernel
theorem dL_law_1149 : decode cL_law 1149 = .ok (.ifCond .eq 7, 3) := by decide +kernel
theorem dL_law_1152 : decode cL_law 1152 = .ok (.lconst 1, 1) := by decide +kernel
theorem dL_law_1153 : decode cL_law 1153 = .ok (.goto 4, 3) := by decide +kernel
theorem dL_law_1156 : decode cL_law 1156 = .ok (.lconst 0, 1) := by decide +kernel
theorem dL_law_1157 : decode cL_law 1157 = .ok (.lcmp, 1) := by decide +kernel
theorem dL_law_1158 : decode cL_law 1158 = .ok (.ifCond .eq 5, 3) := by decide +kernel
theorem dL_law_1161 : decode cL_law 1161 = .ok (.iconst 0, 1) := by decide +kernel
theorem dL_law_1162 : decode cL_law 1162 = .ok (.ireturn, 1) := by decide +kernel
theorem dL_law_1163 : decode cL_law 1163 = .ok (.goto 2244, 3) := by decide +kernel
theorem dL_law_1166 : decode cL_law 1166 = .ok (.aload_n 1, 1) := by decide +kernel
theorem dL_law_1167 : decode cL_law 1167 = .ok (.aload_n 0, 1) := by decide +kernel
theorem dL_law_1168 : decode cL_law 1168 = .ok (.iload 5, 2) := by decide +kernel
theorem dL_law_1170 : decode cL_law 1170 = .ok (.iconst 1, 1) := by decide +kernel
theorem dL_law_1171 : decode cL_law 1171 = .ok (.iadd, 1) := by decide +kernel
theorem dL_law_1172 : decode cL_law 1172 = .ok (.iaload, 1) := by decide +kernel
theorem dL_law_1173 : decode cL_law 1173 = .ok (.aload_n 3, 1) := by decide +kernel
theorem dL_law_1174 : decode cL_law 1174 = .ok (.invokestatic 241, 3) := by decide +kernel
theorem dL_law_1177 : decode cL_law 1177 = .ok (.istore 6, 2) := by decide +kernel
theorem dL_law_1179 : decode cL_law 1179 = .ok (.aload_n 2, 1) := by decide +kernel
theorem dL_law_1180 : decode cL_law 1180 = .ok (.aload_n 0, 1) := by decide +kernel
theorem dL_law_1181 : decode cL_law 1181 = .ok (.iload 5, 2) := by decide +kernel
theorem dL_law_1183 : decode cL_law 1183 = .ok (.iconst 1, 1) := by decide +kernel
theorem dL_law_1184 : decode cL_law 1184 = .ok (.iadd, 1) := by decide +kernel
theorem dL_law_1185 : decode cL_law 1185 = .ok (.iaload, 1) := by decide +kernel
theorem dL_law_1186 : decode cL_law 1186 = .ok (.invokevirtual 243, 3) := by decide +kernel
theorem dL_law_1189 : decode cL_law 1189 = .ok (.istore 7, 2) := by decide +kernel
theorem dL_law_1191 : decode cL_law 1191 = .ok (.aload_n 2, 1) := by decide +kernel
theorem dL_law_1192 : decode cL_law 1192 = .ok (.invokevirtual 170, 3) := by decide +kernel
theorem dL_law_1195 : decode cL_law 1195 = .ok (.iload 6, 2) := by decide +kernel
theorem dL_law_1197 : decode cL_law 1197 = .ok (.if_icmp .eq 5, 3) := by decide +kernel
theorem dL_law_1200 : decode cL_law 1200 = .ok (.iconst 0, 1) := by decide +kernel
theorem dL_law_1201 : decode cL_law 1201 = .ok (.ireturn, 1) := by decide +kernel
theorem dL_law_1202 : decode cL_law 1202 = .ok (.iload 6, 2) := by decide +kernel
theorem dL_law_1204 : decode cL_law 1204 = .ok (.ifCond .ne 15, 3) := by decide +kernel
theorem dL_law_1207 : decode cL_law 1207 = .ok (.aload_n 3, 1) := by decide +kernel
theorem dL_law_1208 : decode cL_law 1208 = .ok (.iconst 0, 1) := by decide +kernel
theorem dL_law_1209 : decode cL_law 1209 = .ok (.laload, 1) := by decide +kernel
theorem dL_law_1210 : decode cL_law 1210 = .ok (.iload 7, 2) := by decide +kernel
theorem dL_law_1212 : decode cL_law 1212 = .ok (.i2l, 1) := by decide +kernel
theorem dL_law_1213 : decode cL_law 1213 = .ok (.lcmp, 1) := by decide +kernel
theorem dL_law_1214 : decode cL_law 1214 = .ok (.ifCond .eq 5, 3) := by decide +kernel
theorem dL_law_1217 : decode cL_law 1217 = .ok (.iconst 0, 1) := by decide +kernel
theorem dL_law_1218 : decode cL_law 1218 = .ok (.ireturn, 1) := by decide +kernel
theorem dL_law_1219 : decode cL_law 1219 = .ok (.goto 2188, 3) := by decide +kernel
theorem dL_law_1222 : decode cL_law 1222 = .ok (.aload_n 1, 1) := by decide +kernel
theorem dL_law_1223 : decode cL_law 1223 = .ok (.aload_n 0, 1) := by decide +kernel
theorem dL_law_1224 : decode cL_law 1224 = .ok (.iload 5, 2) := by decide +kernel
theorem dL_law_1226 : decode cL_law 1226 = .ok (.iconst 1, 1) := by decide +kernel
theorem dL_law_1227 : decode cL_law 1227 = .ok (.iadd, 1) := by decide +kernel
theorem dL_law_1228 : decode cL_law 1228 = .ok (.iaload, 1) := by decide +kernel
theorem dL_law_1229 : decode cL_law 1229 = .ok (.aload_n 3, 1) := by decide +kernel
theorem dL_law_1230 : decode cL_law 1230 = .ok (.invokestatic 244, 3) := by decide +kernel
theorem dL_law_1233 : decode cL_law 1233 = .ok (.istore 6, 2) := by decide +kernel
theorem dL_law_1235 : decode cL_law 1235 = .ok (.aload_n 2, 1) := by decide +kernel
theorem dL_law_1236 : decode cL_law 1236 = .ok (.aload_n 0, 1) := by decide +kernel
theorem dL_law_1237 : decode cL_law 1237 = .ok (.iload 5, 2) := by decide +kernel
theorem dL_law_1239 : decode cL_law 1239 = .ok (.iconst 1, 1) := by decide +kernel
theorem dL_law_1240 : decode cL_law 1240 = .ok (.iadd, 1) := by decide +kernel
theorem dL_law_1241 : decode cL_law 1241 = .ok (.iaload, 1) := by decide +kernel
theorem dL_law_1242 : decode cL_law 1242 = .ok (.invokevirtual 246, 3) := by decide +kernel
theorem dL_law_1245 : decode cL_law 1245 = .ok (.istore 7, 2) := by decide +kernel
theorem dL_law_1247 : decode cL_law 1247 = .ok (.aload_n 2, 1) := by decide +kernel
theorem dL_law_1248 : decode cL_law 1248 = .ok (.invokevirtual 170, 3) := by decide +kernel
theorem dL_law_1251 : decode cL_law 1251 = .ok (.iload 6, 2) := by decide +kernel
theorem dL_law_1253 : decode cL_law 1253 = .ok (.if_icmp .eq 5, 3) := by decide +kernel
theorem dL_law_1256 : decode cL_law 1256 = .ok (.iconst 0, 1) := by decide +kernel
theorem dL_law_1257 : decode cL_law 1257 = .ok (.ireturn, 1) := by decide +kernel
theorem dL_law_1258 : decode cL_law 1258 = .ok (.iload 6, 2) := by decide +kernel
theorem dL_law_1260 : decode cL_law 1260 = .ok (.ifCond .ne 15, 3) := by decide +kernel
theorem dL_law_1263 : decode cL_law 1263 = .ok (.aload_n 3, 1) := by decide +kernel
theorem dL_law_1264 : decode cL_law 1264 = .ok (.iconst 0, 1) := by decide +kernel
theorem dL_law_1265 : decode cL_law 1265 = .ok (.laload, 1) := by decide +kernel
theorem dL_law_1266 : decode cL_law 1266 = .ok (.iload 7, 2) := by decide +kernel
theorem dL_law_1268 : decode cL_law 1268 = .ok (.i2l, 1) := by decide +kernel
theorem dL_law_1269 : decode cL_law 1269 = .ok (.lcmp, 1) := by decide +kernel
theorem dL_law_1270 : decode cL_law 1270 = .ok (.ifCond .eq 5, 3) := by decide +kernel
theorem dL_law_1273 : decode cL_law 1273 = .ok (.iconst 0, 1) := by decide +kernel
theorem dL_law_1274 : decode cL_law 1274 = .ok (.ireturn, 1) := by decide +kernel
theorem dL_law_1275 : decode cL_law 1275 = .ok (.goto 2132, 3) := by decide +kernel
theorem dL_law_1278 : decode cL_law 1278 = .ok (.aload_n 1, 1) := by decide +kernel
theorem dL_law_1279 : decode cL_law 1279 = .ok (.aload_n 0, 1) := by decide +kernel
theorem dL_law_1280 : decode cL_law 1280 = .ok (.iload 5, 2) := by decide +kernel
theorem dL_law_1282 : decode cL_law 1282 = .ok (.iconst 1, 1) := by decide +kernel
theorem dL_law_1283 : decode cL_law 1283 = .ok (.iadd, 1) := by decide +kernel
theorem dL_law_1284 : decode cL_law 1284 = .ok (.iaload, 1) := by decide +kernel
theorem dL_law_1285 : decode cL_law 1285 = .ok (.aload 4, 2) := by decide +kernel
theorem dL_law_1287 : decode cL_law 1287 = .ok (.invokestatic 247, 3) := by decide +kernel
theorem dL_law_1290 : decode cL_law 1290 = .ok (.istore 6, 2) := by decide +kernel
theorem dL_law_1292 : decode cL_law 1292 = .ok (.aload_n 2, 1) := by decide +kernel
theorem dL_law_1293 : decode cL_law 1293 = .ok (.aload_n 0, 1) := by decide +kernel
theorem dL_law_1294 : decode cL_law 1294 = .ok (.iload 5, 2) := by decide +kernel
theorem dL_law_1296 : decode cL_law 1296 = .ok (.iconst 1, 1) := by decide +kernel
theorem dL_law_1297 : decode cL_law 1297 = .ok (.iadd, 1) := by decide +kernel
theorem dL_law_1298 : decode cL_law 1298 = .ok (.iaload, 1) := by decide +kernel
theorem dL_law_1299 : decode cL_law 1299 = .ok (.invokevirtual 250, 3) := by decide +kernel
theorem dL_law_1302 : decode cL_law 1302 = .ok (.dstore 7, 2) := by decide +kernel
theorem dL_law_1304 : decode cL_law 1304 = .ok (.aload_n 2, 1) := by decide +kernel
theorem dL_law_1305 : decode cL_law 1305 = .ok (.invokevirtual 170, 3) := by decide +kernel
theorem dL_law_1308 : decode cL_law 1308 = .ok (.iload 6, 2) := by decide +kernel
theorem dL_law_1310 : decode cL_law 1310 = .ok (.if_icmp .eq 5, 3) := by decide +kernel
theorem dL_law_1313 : decode cL_law 1313 = .ok (.iconst 0, 1) := by decide +kernel
theorem dL_law_1314 : decode cL_law 1314 = .ok (.ireturn, 1) := by decide +kernel
theorem dL_law_1315 : decode cL_law 1315 = .ok (.iload 6, 2) := by decide +kernel
theorem dL_law_1317 : decode cL_law 1317 = .ok (.ifCond .ne 35, 3) := by decide +kernel
theorem dL_law_1320 : decode cL_law 1320 = .ok (.aload 4, 2) := by decide +kernel
theorem dL_law_1322 : decode cL_law 1322 = .ok (.iconst 0, 1) := by decide +kernel
theorem dL_law_1323 : decode cL_law 1323 = .ok (.daload, 1) := by decide +kernel
theorem dL_law_1324 : decode cL_law 1324 = .ok (.dload 7, 2) := by decide +kernel
theorem dL_law_1326 : decode cL_law 1326 = .ok (.dcmp .l, 1) := by decide +kernel
theorem dL_law_1327 : decode cL_law 1327 = .ok (.ifCond .eq 25, 3) := by decide +kernel
theorem dL_law_1330 : decode cL_law 1330 = .ok (.aload 4, 2) := by decide +kernel
theorem dL_law_1332 : decode cL_law 1332 = .ok (.iconst 0, 1) := by decide +kernel
theorem dL_law_1333 : decode cL_law 1333 = .ok (.daload, 1) := by decide +kernel
theorem dL_law_1334 : decode cL_law 1334 = .ok (.aload 4, 2) := by decide +kernel
theorem dL_law_1336 : decode cL_law 1336 = .ok (.iconst 0, 1) := by decide +kernel
theorem dL_law_1337 : decode cL_law 1337 = .ok (.daload, 1) := by decide +kernel
theorem dL_law_1338 : decode cL_law 1338 = .ok (.dcmp .l, 1) := by decide +kernel
theorem dL_law_1339 : decode cL_law 1339 = .ok (.ifCond .eq 11, 3) := by decide +kernel
theorem dL_law_1342 : decode cL_law 1342 = .ok (.dload 7, 2) := by decide +kernel
theorem dL_law_1344 : decode cL_law 1344 = .ok (.dload 7, 2) := by decide +kernel
theorem dL_law_1346 : decode cL_law 1346 = .ok (.dcmp .l, 1) := by decide +kernel
theorem dL_law_1347 : decode cL_law 1347 = .ok (.ifCond .ne 5, 3) := by decide +kernel
theorem dL_law_1350 : decode cL_law 1350 = .ok (.iconst 0, 1) := by decide +kernel
theorem dL_law_1351 : decode cL_law 1351 = .ok (.ireturn, 1) := by decide +kernel
theorem dL_law_1352 : decode cL_law 1352 = .ok (.goto 2055, 3) := by decide +kernel
theorem dL_law_1355 : decode cL_law 1355 = .ok (.aload_n 1, 1) := by decide +kernel
theorem dL_law_1356 : decode cL_law 1356 = .ok (.aload_n 0, 1) := by decide +kernel
theorem dL_law_1357 : decode cL_law 1357 = .ok (.iload 5, 2) := by decide +kernel
theorem dL_law_1359 : decode cL_law 1359 = .ok (.iconst 1, 1) := by decide +kernel
theorem dL_law_1360 : decode cL_law 1360 = .ok (.iadd, 1) := by decide +kernel
theorem dL_law_1361 : decode cL_law 1361 = .ok (.iaload, 1) := by decide +kernel
theorem dL_law_1362 : decode cL_law 1362 = .ok (.aload_n 3, 1) := by decide +kernel
theorem dL_law_1363 : decode cL_law 1363 = .ok (.invokestatic 251, 3) := by decide +kernel
theorem dL_law_1366 : decode cL_law 1366 = .ok (.istore 6, 2) := by decide +kernel
theorem dL_law_1368 : decode cL_law 1368 = .ok (.aload_n 2, 1) := by decide +kernel
theorem dL_law_1369 : decode cL_law 1369 = .ok (.aload_n 0, 1) := by decide +kernel
theorem dL_law_1370 : decode cL_law 1370 = .ok (.iload 5, 2) := by decide +kernel
theorem dL_law_1372 : decode cL_law 1372 = .ok (.iconst 1, 1) := by decide +kernel
theorem dL_law_1373 : decode cL_law 1373 = .ok (.iadd, 1) := by decide +kernel
theorem dL_law_1374 : decode cL_law 1374 = .ok (.iaload, 1) := by decide +kernel
theorem dL_law_1375 : decode cL_law 1375 = .ok (.invokevirtual 253, 3) := by decide +kernel
theorem dL_law_1378 : decode cL_law 1378 = .ok (.istore 7, 2) := by decide +kernel
theorem dL_law_1380 : decode cL_law 1380 = .ok (.aload_n 2, 1) := by decide +kernel
theorem dL_law_1381 : decode cL_law 1381 = .ok (.invokevirtual 170, 3) := by decide +kernel
theorem dL_law_1384 : decode cL_law 1384 = .ok (.iload 6, 2) := by decide +kernel
theorem dL_law_1386 : decode cL_law 1386 = .ok (.if_icmp .eq 5, 3) := by decide +kernel
theorem dL_law_1389 : decode cL_law 1389 = .ok (.iconst 0, 1) := by decide +kernel
theorem dL_law_1390 : decode cL_law 1390 = .ok (.ireturn, 1) := by decide +kernel
theorem dL_law_1391 : decode cL_law 1391 = .ok (.iload 6, 2) := by decide +kernel
theorem dL_law_1393 : decode cL_law 1393 = .ok (.ifCond .ne 15, 3) := by decide +kernel
theorem dL_law_1396 : decode cL_law 1396 = .ok (.aload_n 3, 1) := by decide +kernel
theorem dL_law_1397 : decode cL_law 1397 = .ok (.iconst 0, 1) := by decide +kernel
theorem dL_law_1398 : decode cL_law 1398 = .ok (.laload, 1) := by decide +kernel
theorem dL_law_1399 : decode cL_law 1399 = .ok (.iload 7, 2) := by decide +kernel
theorem dL_law_1401 : decode cL_law 1401 = .ok (.i2l, 1) := by decide +kernel
theorem dL_law_1402 : decode cL_law 1402 = .ok (.lcmp, 1) := by decide +kernel
theorem dL_law_1403 : decode cL_law 1403 = .ok (.ifCond .eq 5, 3) := by decide +kernel
theorem dL_law_1406 : decode cL_law 1406 = .ok (.iconst 0, 1) := by decide +kernel
theorem dL_law_1407 : decode cL_law 1407 = .ok (.ireturn, 1) := by decide +kernel
theorem dL_law_1408 : decode cL_law 1408 = .ok (.goto 1999, 3) := by decide +kernel
theorem dL_law_1411 : decode cL_law 1411 = .ok (.aload_n 1, 1) := by decide +kernel
theorem dL_law_1412 : decode cL_law 1412 = .ok (.aload_n 0, 1) := by decide +kernel
theorem dL_law_1413 : decode cL_law 1413 = .ok (.iload 5, 2) := by decide +kernel
theorem dL_law_1415 : decode cL_law 1415 = .ok (.iconst 1, 1) := by decide +kernel
theorem dL_law_1416 : decode cL_law 1416 = .ok (.iadd, 1) := by decide +kernel
theorem dL_law_1417 : decode cL_law 1417 = .ok (.iaload, 1) := by decide +kernel
theorem dL_law_1418 : decode cL_law 1418 = .ok (.aload_n 3, 1) := by decide +kernel
theorem dL_law_1419 : decode cL_law 1419 = .ok (.invokestatic 254, 3) := by decide +kernel
theorem dL_law_1422 : decode cL_law 1422 = .ok (.istore 6, 2) := by decide +kernel
theorem dL_law_1424 : decode cL_law 1424 = .ok (.aload_n 2, 1) := by decide +kernel
theorem dL_law_1425 : decode cL_law 1425 = .ok (.aload_n 0, 1) := by decide +kernel
theorem dL_law_1426 : decode cL_law 1426 = .ok (.iload 5, 2) := by decide +kernel
theorem dL_law_1428 : decode cL_law 1428 = .ok (.iconst 1, 1) := by decide +kernel
theorem dL_law_1429 : decode cL_law 1429 = .ok (.iadd, 1) := by decide +kernel
theorem dL_law_1430 : decode cL_law 1430 = .ok (.iaload, 1) := by decide +kernel
theorem dL_law_1431 : decode cL_law 1431 = .ok (.invokevirtual 256, 3) := by decide +kernel
theorem dL_law_1434 : decode cL_law 1434 = .ok (.istore 7, 2) := by decide +kernel
theorem dL_law_1436 : decode cL_law 1436 = .ok (.aload_n 2, 1) := by decide +kernel
theorem dL_law_1437 : decode cL_law 1437 = .ok (.invokevirtual 170, 3) := by decide +kernel
theorem dL_law_1440 : decode cL_law 1440 = .ok (.iload 6, 2) := by decide +kernel
theorem dL_law_1442 : decode cL_law 1442 = .ok (.if_icmp .eq 5, 3) := by decide +kernel
theorem dL_law_1445 : decode cL_law 1445 = .ok (.iconst 0, 1) := by decide +kernel
theorem dL_law_1446 : decode cL_law 1446 = .ok (.ireturn, 1) := by decide +kernel
theorem dL_law_1447 : decode cL_law 1447 = .ok (.iload 6, 2) := by decide +kernel
theorem dL_law_1449 : decode cL_law 1449 = .ok (.ifCond .ne 15, 3) := by decide +kernel
theorem dL_law_1452 : decode cL_law 1452 = .ok (.aload_n 3, 1) := by decide +kernel
theorem dL_law_1453 : decode cL_law 1453 = .ok (.iconst 0, 1) := by decide +kernel
theorem dL_law_1454 : decode cL_law 1454 = .ok (.laload, 1) := by decide +kernel
theorem dL_law_1455 : decode cL_law 1455 = .ok (.iload 7, 2) := by decide +kernel
theorem dL_law_1457 : decode cL_law 1457 = .ok (.i2l, 1) := by decide +kernel
theorem dL_law_1458 : decode cL_law 1458 = .ok (.lcmp, 1) := by decide +kernel
theorem dL_law_1459 : decode cL_law 1459 = .ok (.ifCond .eq 5, 3) := by decide +kernel
theorem dL_law_1462 : decode cL_law 1462 = .ok (.iconst 0, 1) := by decide +kernel
theorem dL_law_1463 : decode cL_law 1463 = .ok (.ireturn, 1) := by decide +kernel
theorem dL_law_1464 : decode cL_law 1464 = .ok (.goto 1943, 3) := by decide +kernel
theorem dL_law_1467 : decode cL_law 1467 = .ok (.aload_n 1, 1) := by decide +kernel
theorem dL_law_1468 : decode cL_law 1468 = .ok (.aload_n 0, 1) := by decide +kernel
theorem dL_law_1469 : decode cL_law 1469 = .ok (.iload 5, 2) := by decide +kernel
theorem dL_law_1471 : decode cL_law 1471 = .ok (.iconst 1, 1) := by decide +kernel
theorem dL_law_1472 : decode cL_law 1472 = .ok (.iadd, 1) := by decide +kernel
theorem dL_law_1473 : decode cL_law 1473 = .ok (.iaload, 1) := by decide +kernel
theorem dL_law_1474 : decode cL_law 1474 = .ok (.aload_n 3, 1) := by decide +kernel
theorem dL_law_1475 : decode cL_law 1475 = .ok (.invokestatic 257, 3) := by decide +kernel
theorem dL_law_1478 : decode cL_law 1478 = .ok (.istore 6, 2) := by decide +kernel
theorem dL_law_1480 : decode cL_law 1480 = .ok (.aload_n 2, 1) := by decide +kernel
theorem dL_law_1481 : decode cL_law 1481 = .ok (.aload_n 0, 1) := by decide +kernel
theorem dL_law_1482 : decode cL_law 1482 = .ok (.iload 5, 2) := by decide +kernel
theorem dL_law_1484 : decode cL_law 1484 = .ok (.iconst 1, 1) := by decide +kernel
theorem dL_law_1485 : decode cL_law 1485 = .ok (.iadd, 1) := by decide +kernel
theorem dL_law_1486 : decode cL_law 1486 = .ok (.iaload, 1) := by decide +kernel
theorem dL_law_1487 : decode cL_law 1487 = .ok (.invokevirtual 259, 3) := by decide +kernel
theorem dL_law_1490 : decode cL_law 1490 = .ok (.istore 7, 2) := by decide +kernel
theorem dL_law_1492 : decode cL_law 1492 = .ok (.aload_n 2, 1) := by decide +kernel
theorem dL_law_1493 : decode cL_law 1493 = .ok (.invokevirtual 170, 3) := by decide +kernel
theorem dL_law_1496 : decode cL_law 1496 = .ok (.iload 6, 2) := by decide +kernel
theorem dL_law_1498 : decode cL_law 1498 = .ok (.if_icmp .eq 5, 3) := by decide +kernel
theorem dL_law_1501 : decode cL_law 1501 = .ok (.iconst 0, 1) := by decide +kernel
theorem dL_law_1502 : decode cL_law 1502 = .ok (.ireturn, 1) := by decide +kernel
theorem dL_law_1503 : decode cL_law 1503 = .ok (.iload 6, 2) := by decide +kernel
theorem dL_law_1505 : decode cL_law 1505 = .ok (.ifCond .ne 15, 3) := by decide +kernel
theorem dL_law_1508 : decode cL_law 1508 = .ok (.aload_n 3, 1) := by decide +kernel
theorem dL_law_1509 : decode cL_law 1509 = .ok (.iconst 0, 1) := by decide +kernel
theorem dL_law_1510 : decode cL_law 1510 = .ok (.laload, 1) := by decide +kernel
theorem dL_law_1511 : decode cL_law 1511 = .ok (.iload 7, 2) := by decide +kernel
theorem dL_law_1513 : decode cL_law 1513 = .ok (.i2l, 1) := by decide +kernel
theorem dL_law_1514 : decode cL_law 1514 = .ok (.lcmp, 1) := by decide +kernel
theorem dL_law_1515 : decode cL_law 1515 = .ok (.ifCond .eq 5, 3) := by decide +kernel
theorem dL_law_1518 : decode cL_law 1518 = .ok (.iconst 0, 1) := by decide +kernel
theorem dL_law_1519 : decode cL_law 1519 = .ok (.ireturn, 1) := by decide +kernel
theorem dL_law_1520 : decode cL_law 1520 = .ok (.goto 1887, 3) := by decide +kernel
theorem dL_law_1523 : decode cL_law 1523 = .ok (.aload_n 1, 1) := by decide +kernel
theorem dL_law_1524 : decode cL_law 1524 = .ok (.invokevirtual 260, 3) := by decide +kernel
theorem dL_law_1527 : decode cL_law 1527 = .ok (.aload_n 2, 1) := by decide +kernel
theorem dL_law_1528 : decode cL_law 1528 = .ok (.invokevirtual 263, 3) := by decide +kernel
theorem dL_law_1531 : decode cL_law 1531 = .ok (.if_icmp .eq 1876, 3) := by decide +kernel
theorem dL_law_1534 : decode cL_law 1534 = .ok (.iconst 0, 1) := by decide +kernel
theorem dL_law_1535 : decode cL_law 1535 = .ok (.ireturn, 1) := by decide +kernel
theorem dL_law_1536 : decode cL_law 1536 = .ok (.aload_n 1, 1) := by decide +kernel
theorem dL_law_1537 : decode cL_law 1537 = .ok (.aload_n 0, 1) := by decide +kernel
theorem dL_law_1538 : decode cL_law 1538 = .ok (.iload 5, 2) := by decide +kernel
theorem dL_law_1540 : decode cL_law 1540 = .ok (.iconst 1, 1) := by decide +kernel
theorem dL_law_1541 : decode cL_law 1541 = .ok (.iadd, 1) := by decide +kernel
theorem dL_law_1542 : decode cL_law 1542 = .ok (.iaload, 1) := by decide +kernel
theorem dL_law_1543 : decode cL_law 1543 = .ok (.aload_n 0, 1) := by decide +kernel
theorem dL_law_1544 : decode cL_law 1544 = .ok (.iload 5, 2) := by decide +kernel
theorem dL_law_1546 : decode cL_law 1546 = .ok (.iconst 2, 1) := by decide +kernel
theorem dL_law_1547 : decode cL_law 1547 = .ok (.iadd, 1) := by decide +kernel
theorem dL_law_1548 : decode cL_law 1548 = .ok (.iaload, 1) := by decide +kernel
theorem dL_law_1549 : decode cL_law 1549 = .ok (.aload_n 3, 1) := by decide +kernel
theorem dL_law_1550 : decode cL_law 1550 = .ok (.invokestatic 264, 3) := by decide +kernel
theorem dL_law_1553 : decode cL_law 1553 = .ok (.istore 6, 2) := by decide +kernel
theorem dL_law_1555 : decode cL_law 1555 = .ok (.aload_n 2, 1) := by decide +kernel
theorem dL_law_1556 : decode cL_law 1556 = .ok (.aload_n 0, 1) := by decide +kernel
theorem dL_law_1557 : decode cL_law 1557 = .ok (.iload 5, 2) := by decide +kernel
theorem dL_law_1559 : decode cL_law 1559 = .ok (.iconst 1, 1) := by decide +kernel
theorem dL_law_1560 : decode cL_law 1560 = .ok (.iadd, 1) := by decide +kernel
theorem dL_law_1561 : decode cL_law 1561 = .ok (.iaload, 1) := by decide +kernel
theorem dL_law_1562 : decode cL_law 1562 = .ok (.aload_n 0, 1) := by decide +kernel
theorem dL_law_1563 : decode cL_law 1563 = .ok (.iload 5, 2) := by decide +kernel
theorem dL_law_1565 : decode cL_law 1565 = .ok (.iconst 2, 1) := by decide +kernel
theorem dL_law_1566 : decode cL_law 1566 = .ok (.iadd, 1) := by decide +kernel
theorem dL_law_1567 : decode cL_law 1567 = .ok (.iaload, 1) := by decide +kernel
theorem dL_law_1568 : decode cL_law 1568 = .ok (.invokevirtual 266, 3) := by decide +kernel
theorem dL_law_1571 : decode cL_law 1571 = .ok (.istore 7, 2) := by decide +kernel
theorem dL_law_1573 : decode cL_law 1573 = .ok (.aload_n 2, 1) := by decide +kernel
theorem dL_law_1574 : decode cL_law 1574 = .ok (.invokevirtual 170, 3) := by decide +kernel
theorem dL_law_1577 : decode cL_law 1577 = .ok (.iload 6, 2) := by decide +kernel
theorem dL_law_1579 : decode cL_law 1579 = .ok (.if_icmp .eq 5, 3) := by decide +kernel
theorem dL_law_1582 : decode cL_law 1582 = .ok (.iconst 0, 1) := by decide +kernel
theorem dL_law_1583 : decode cL_law 1583 = .ok (.ireturn, 1) := by decide +kernel
theorem dL_law_1584 : decode cL_law 1584 = .ok (.iload 6, 2) := by decide +kernel
theorem dL_law_1586 : decode cL_law 1586 = .ok (.ifCond .ne 15, 3) := by decide +kernel
theorem dL_law_1589 : decode cL_law 1589 = .ok (.aload_n 3, 1) := by decide +kernel
theorem dL_law_1590 : decode cL_law 1590 = .ok (.iconst 0, 1) := by decide +kernel
theorem dL_law_1591 : decode cL_law 1591 = .ok (.laload, 1) := by decide +kernel
theorem dL_law_1592 : decode cL_law 1592 = .ok (.iload 7, 2) := by decide +kernel
theorem dL_law_1594 : decode cL_law 1594 = .ok (.i2l, 1) := by decide +kernel
theorem dL_law_1595 : decode cL_law 1595 = .ok (.lcmp, 1) := by decide +kernel
theorem dL_law_1596 : decode cL_law 1596 = .ok (.ifCond .eq 5, 3) := by decide +kernel
theorem dL_law_1599 : decode cL_law 1599 = .ok (.iconst 0, 1) := by decide +kernel
theorem dL_law_1600 : decode cL_law 1600 = .ok (.ireturn, 1) := by decide +kernel
theorem dL_law_1601 : decode cL_law 1601 = .ok (.goto 1806, 3) := by decide +kernel
theorem dL_law_1604 : decode cL_law 1604 = .ok (.aload_n 1, 1) := by decide +kernel
theorem dL_law_1605 : decode cL_law 1605 = .ok (.aload_n 0, 1) := by decide +kernel
theorem dL_law_1606 : decode cL_law 1606 = .ok (.iload 5, 2) := by decide +kernel
theorem dL_law_1608 : decode cL_law 1608 = .ok (.iconst 1, 1) := by decide +kernel
theorem dL_law_1609 : decode cL_law 1609 = .ok (.iadd, 1) := by decide +kernel
theorem dL_law_1610 : decode cL_law 1610 = .ok (.iaload, 1) := by decide +kernel
theorem dL_law_1611 : decode cL_law 1611 = .ok (.aload_n 0, 1) := by decide +kernel
theorem dL_law_1612 : decode cL_law 1612 = .ok (.iload 5, 2) := by decide +kernel
theorem dL_law_1614 : decode cL_law 1614 = .ok (.iconst 2, 1) := by decide +kernel
theorem dL_law_1615 : decode cL_law 1615 = .ok (.iadd, 1) := by decide +kernel
theorem dL_law_1616 : decode cL_law 1616 = .ok (.iaload, 1) := by decide +kernel
theorem dL_law_1617 : decode cL_law 1617 = .ok (.aload_n 0, 1) := by decide +kernel
theorem dL_law_1618 : decode cL_law 1618 = .ok (.iload 5, 2) := by decide +kernel
theorem dL_law_1620 : decode cL_law 1620 = .ok (.iconst 3, 1) := by decide +kernel
theorem dL_law_1621 : decode cL_law 1621 = .ok (.iadd, 1) := by decide +kernel
theorem dL_law_1622 : decode cL_law 1622 = .ok (.iaload, 1) := by decide +kernel
theorem dL_law_1623 : decode cL_law 1623 = .ok (.aload_n 3, 1) := by decide +kernel
theorem dL_law_1624 : decode cL_law 1624 = .ok (.invokestatic 267, 3) := by decide +kernel
theorem dL_law_1627 : decode cL_law 1627 = .ok (.istore 6, 2) := by decide +kernel
theorem dL_law_1629 : decode cL_law 1629 = .ok (.aload_n 2, 1) := by decide +kernel
theorem dL_law_1630 : decode cL_law 1630 = .ok (.aload_n 0, 1) := by decide +kernel
theorem dL_law_1631 : decode cL_law 1631 = .ok (.iload 5, 2) := by decide +kernel
theorem dL_law_1633 : decode cL_law 1633 = .ok (.iconst 1, 1) := by decide +kernel
theorem dL_law_1634 : decode cL_law 1634 = .ok (.iadd, 1) := by decide +kernel
theorem dL_law_1635 : decode cL_law 1635 = .ok (.iaload, 1) := by decide +kernel
theorem dL_law_1636 : decode cL_law 1636 = .ok (.aload_n 0, 1) := by decide +kernel
theorem dL_law_1637 : decode cL_law 1637 = .ok (.iload 5, 2) := by decide +kernel
theorem dL_law_1639 : decode cL_law 1639 = .ok (.iconst 2, 1) := by decide +kernel
theorem dL_law_1640 : decode cL_law 1640 = .ok (.iadd, 1) := by decide +kernel
theorem dL_law_1641 : decode cL_law 1641 = .ok (.iaload, 1) := by decide +kernel
theorem dL_law_1642 : decode cL_law 1642 = .ok (.aload_n 0, 1) := by decide +kernel
theorem dL_law_1643 : decode cL_law 1643 = .ok (.iload 5, 2) := by decide +kernel
theorem dL_law_1645 : decode cL_law 1645 = .ok (.iconst 3, 1) := by decide +kernel
theorem dL_law_1646 : decode cL_law 1646 = .ok (.iadd, 1) := by decide +kernel
theorem dL_law_1647 : decode cL_law 1647 = .ok (.iaload, 1) := by decide +kernel
theorem dL_law_1648 : decode cL_law 1648 = .ok (.invokevirtual 270, 3) := by decide +kernel
theorem dL_law_1651 : decode cL_law 1651 = .ok (.istore 7, 2) := by decide +kernel
theorem dL_law_1653 : decode cL_law 1653 = .ok (.aload_n 2, 1) := by decide +kernel
theorem dL_law_1654 : decode cL_law 1654 = .ok (.invokevirtual 170, 3) := by decide +kernel
theorem dL_law_1657 : decode cL_law 1657 = .ok (.iload 6, 2) := by decide +kernel
theorem dL_law_1659 : decode cL_law 1659 = .ok (.if_icmp .eq 5, 3) := by decide +kernel
theorem dL_law_1662 : decode cL_law 1662 = .ok (.iconst 0, 1) := by decide +kernel
theorem dL_law_1663 : decode cL_law 1663 = .ok (.ireturn, 1) := by decide +kernel
theorem dL_law_1664 : decode cL_law 1664 = .ok (.iload 6, 2) := by decide +kernel
theorem dL_law_1666 : decode cL_law 1666 = .ok (.ifCond .ne 15, 3) := by decide +kernel
theorem dL_law_1669 : decode cL_law 1669 = .ok (.aload_n 3, 1) := by decide +kernel
theorem dL_law_1670 : decode cL_law 1670 = .ok (.iconst 0, 1) := by decide +kernel
theorem dL_law_1671 : decode cL_law 1671 = .ok (.laload, 1) := by decide +kernel
theorem dL_law_1672 : decode cL_law 1672 = .ok (.iload 7, 2) := by decide +kernel
theorem dL_law_1674 : decode cL_law 1674 = .ok (.i2l, 1) := by decide +kernel
theorem dL_law_1675 : decode cL_law 1675 = .ok (.lcmp, 1) := by decide +kernel
theorem dL_law_1676 : decode cL_law 1676 = .ok (.ifCond .eq 5, 3) := by decide +kernel
theorem dL_law_1679 : decode cL_law 1679 = .ok (.iconst 0, 1) := by decide +kernel
theorem dL_law_1680 : decode cL_law 1680 = .ok (.ireturn, 1) := by decide +kernel
theorem dL_law_1681 : decode cL_law 1681 = .ok (.goto 1726, 3) := by decide +kernel
theorem dL_law_1684 : decode cL_law 1684 = .ok (.aload_n 1, 1) := by decide +kernel
theorem dL_law_1685 : decode cL_law 1685 = .ok (.aload_n 0, 1) := by decide +kernel
theorem dL_law_1686 : decode cL_law 1686 = .ok (.iload 5, 2) := by decide +kernel
theorem dL_law_1688 : decode cL_law 1688 = .ok (.iconst 1, 1) := by decide +kernel
theorem dL_law_1689 : decode cL_law 1689 = .ok (.iadd, 1) := by decide +kernel
theorem dL_law_1690 : decode cL_law 1690 = .ok (.iaload, 1) := by decide +kernel
theorem dL_law_1691 : decode cL_law 1691 = .ok (.aload_n 0, 1) := by decide +kernel
theorem dL_law_1692 : decode cL_law 1692 = .ok (.iload 5, 2) := by decide +kernel
theorem dL_law_1694 : decode cL_law 1694 = .ok (.iconst 2, 1) := by decide +kernel
theorem dL_law_1695 : decode cL_law 1695 = .ok (.iadd, 1) := by decide +kernel
theorem dL_law_1696 : decode cL_law 1696 = .ok (.iaload, 1) := by decide +kernel
theorem dL_law_1697 : decode cL_law 1697 = .ok (.aload_n 3, 1) := by decide +kernel
theorem dL_law_1698 : decode cL_law 1698 = .ok (.invokestatic 271, 3) := by decide +kernel
theorem dL_law_1701 : decode cL_law 1701 = .ok (.istore 6, 2) := by decide +kernel
theorem dL_law_1703 : decode cL_law 1703 = .ok (.aload_n 2, 1) := by decide +kernel
theorem dL_law_1704 : decode cL_law 1704 = .ok (.aload_n 0, 1) := by decide +kernel
theorem dL_law_1705 : decode cL_law 1705 = .ok (.iload 5, 2) := by decide +kernel
theorem dL_law_1707 : decode cL_law 1707 = .ok (.iconst 1, 1) := by decide +kernel
theorem dL_law_1708 : decode cL_law 1708 = .ok (.iadd, 1) := by decide +kernel
theorem dL_law_1709 : decode cL_law 1709 = .ok (.iaload, 1) := by decide +kernel
theorem dL_law_1710 : decode cL_law 1710 = .ok (.aload_n 0, 1) := by decide +kernel
theorem dL_law_1711 : decode cL_law 1711 = .ok (.iload 5, 2) := by decide +kernel
theorem dL_law_1713 : decode cL_law 1713 = .ok (.iconst 2, 1) := by decide +kernel
theorem dL_law_1714 : decode cL_law 1714 = .ok (.iadd, 1) := by decide +kernel
theorem dL_law_1715 : decode cL_law 1715 = .ok (.iaload, 1) := by decide +kernel
theorem dL_law_1716 : decode cL_law 1716 = .ok (.invokevirtual 273, 3) := by decide +kernel
theorem dL_law_1719 : decode cL_law 1719 = .ok (.istore 7, 2) := by decide +kernel
theorem dL_law_1721 : decode cL_law 1721 = .ok (.aload_n 2, 1) := by decide +kernel
theorem dL_law_1722 : decode cL_law 1722 = .ok (.invokevirtual 170, 3) := by decide +kernel
theorem dL_law_1725 : decode cL_law 1725 = .ok (.iload 6, 2) := by decide +kernel
theorem dL_law_1727 : decode cL_law 1727 = .ok (.if_icmp .eq 5, 3) := by decide +kernel
theorem dL_law_1730 : decode cL_law 1730 = .ok (.iconst 0, 1) := by decide +kernel
theorem dL_law_1731 : decode cL_law 1731 = .ok (.ireturn, 1) := by decide +kernel
theorem dL_law_1732 : decode cL_law 1732 = .ok (.iload 6, 2) := by decide +kernel
theorem dL_law_1734 : decode cL_law 1734 = .ok (.ifCond .ne 15, 3) := by decide +kernel
theorem dL_law_1737 : decode cL_law 1737 = .ok (.aload_n 3, 1) := by decide +kernel
theorem dL_law_1738 : decode cL_law 1738 = .ok (.iconst 0, 1) := by decide +kernel
theorem dL_law_1739 : decode cL_law 1739 = .ok (.laload, 1) := by decide +kernel
theorem dL_law_1740 : decode cL_law 1740 = .ok (.iload 7, 2) := by decide +kernel
theorem dL_law_1742 : decode cL_law 1742 = .ok (.i2l, 1) := by decide +kernel
theorem dL_law_1743 : decode cL_law 1743 = .ok (.lcmp, 1) := by decide +kernel
theorem dL_law_1744 : decode cL_law 1744 = .ok (.ifCond .eq 5, 3) := by decide +kernel
theorem dL_law_1747 : decode cL_law 1747 = .ok (.iconst 0, 1) := by decide +kernel
theorem dL_law_1748 : decode cL_law 1748 = .ok (.ireturn, 1) := by decide +kernel
theorem dL_law_1749 : decode cL_law 1749 = .ok (.goto 1658, 3) := by decide +kernel
theorem dL_law_1752 : decode cL_law 1752 = .ok (.aload_n 1, 1) := by decide +kernel
theorem dL_law_1753 : decode cL_law 1753 = .ok (.aload_n 0, 1) := by decide +kernel
theorem dL_law_1754 : decode cL_law 1754 = .ok (.iload 5, 2) := by decide +kernel
theorem dL_law_1756 : decode cL_law 1756 = .ok (.iconst 1, 1) := by decide +kernel
theorem dL_law_1757 : decode cL_law 1757 = .ok (.iadd, 1) := by decide +kernel
theorem dL_law_1758 : decode cL_law 1758 = .ok (.iaload, 1) := by decide +kernel
theorem dL_law_1759 : decode cL_law 1759 = .ok (.aload_n 0, 1) := by decide +kernel
theorem dL_law_1760 : decode cL_law 1760 = .ok (.iload 5, 2) := by decide +kernel
theorem dL_law_1762 : decode cL_law 1762 = .ok (.iconst 2, 1) := by decide +kernel
theorem dL_law_1763 : decode cL_law 1763 = .ok (.iadd, 1) := by decide +kernel
theorem dL_law_1764 : decode cL_law 1764 = .ok (.iaload, 1) := by decide +kernel
theorem dL_law_1765 : decode cL_law 1765 = .ok (.aload_n 3, 1) := by decide +kernel
theorem dL_law_1766 : decode cL_law 1766 = .ok (.invokestatic 274, 3) := by decide +kernel
theorem dL_law_1769 : decode cL_law 1769 = .ok (.istore 6, 2) := by decide +kernel
theorem dL_law_1771 : decode cL_law 1771 = .ok (.aload_n 2, 1) := by decide +kernel
theorem dL_law_1772 : decode cL_law 1772 = .ok (.aload_n 0, 1) := by decide +kernel
theorem dL_law_1773 : decode cL_law 1773 = .ok (.iload 5, 2) := by decide +kernel
theorem dL_law_1775 : decode cL_law 1775 = .ok (.iconst 1, 1) := by decide +kernel
theorem dL_law_1776 : decode cL_law 1776 = .ok (.iadd, 1) := by decide +kernel
theorem dL_law_1777 : decode cL_law 1777 = .ok (.iaload, 1) := by decide +kernel
theorem dL_law_1778 : decode cL_law 1778 = .ok (.aload_n 0, 1) := by decide +kernel
theorem dL_law_1779 : decode cL_law 1779 = .ok (.iload 5, 2) := by decide +kernel
theorem dL_law_1781 : decode cL_law 1781 = .ok (.iconst 2, 1) := by decide +kernel
theorem dL_law_1782 : decode cL_law 1782 = .ok (.iadd, 1) := by decide +kernel
theorem dL_law_1783 : decode cL_law 1783 = .ok (.iaload, 1) := by decide +kernel
theorem dL_law_1784 : decode cL_law 1784 = .ok (.invokevirtual 276, 3) := by decide +kernel
theorem dL_law_1787 : decode cL_law 1787 = .ok (.istore 7, 2) := by decide +kernel
theorem dL_law_1789 : decode cL_law 1789 = .ok (.aload_n 2, 1) := by decide +kernel
theorem dL_law_1790 : decode cL_law 1790 = .ok (.invokevirtual 170, 3) := by decide +kernel
theorem dL_law_1793 : decode cL_law 1793 = .ok (.iload 6, 2) := by decide +kernel
theorem dL_law_1795 : decode cL_law 1795 = .ok (.if_icmp .eq 5, 3) := by decide +kernel
theorem dL_law_1798 : decode cL_law 1798 = .ok (.iconst 0, 1) := by decide +kernel
theorem dL_law_1799 : decode cL_law 1799 = .ok (.ireturn, 1) := by decide +kernel
theorem dL_law_1800 : decode cL_law 1800 = .ok (.iload 6, 2) := by decide +kernel
theorem dL_law_1802 : decode cL_law 1802 = .ok (.ifCond .ne 15, 3) := by decide +kernel
theorem dL_law_1805 : decode cL_law 1805 = .ok (.aload_n 3, 1) := by decide +kernel
theorem dL_law_1806 : decode cL_law 1806 = .ok (.iconst 0, 1) := by decide +kernel
theorem dL_law_1807 : decode cL_law 1807 = .ok (.laload, 1) := by decide +kernel
theorem dL_law_1808 : decode cL_law 1808 = .ok (.iload 7, 2) := by decide +kernel
theorem dL_law_1810 : decode cL_law 1810 = .ok (.i2l, 1) := by decide +kernel
theorem dL_law_1811 : decode cL_law 1811 = .ok (.lcmp, 1) := by decide +kernel
theorem dL_law_1812 : decode cL_law 1812 = .ok (.ifCond .eq 5, 3) := by decide +kernel
theorem dL_law_1815 : decode cL_law 1815 = .ok (.iconst 0, 1) := by decide +kernel
theorem dL_law_1816 : decode cL_law 1816 = .ok (.ireturn, 1) := by decide +kernel
theorem dL_law_1817 : decode cL_law 1817 = .ok (.goto 1590, 3) := by decide +kernel
theorem dL_law_1820 : decode cL_law 1820 = .ok (.aload_n 1, 1) := by decide +kernel
theorem dL_law_1821 : decode cL_law 1821 = .ok (.aload_n 0, 1) := by decide +kernel
theorem dL_law_1822 : decode cL_law 1822 = .ok (.iload 5, 2) := by decide +kernel
theorem dL_law_1824 : decode cL_law 1824 = .ok (.iconst 1, 1) := by decide +kernel
theorem dL_law_1825 : decode cL_law 1825 = .ok (.iadd, 1) := by decide +kernel
theorem dL_law_1826 : decode cL_law 1826 = .ok (.iaload, 1) := by decide +kernel
theorem dL_law_1827 : decode cL_law 1827 = .ok (.aload_n 0, 1) := by decide +kernel
theorem dL_law_1828 : decode cL_law 1828 = .ok (.iload 5, 2) := by decide +kernel
theorem dL_law_1830 : decode cL_law 1830 = .ok (.iconst 2, 1) := by decide +kernel
theorem dL_law_1831 : decode cL_law 1831 = .ok (.iadd, 1) := by decide +kernel
theorem dL_law_1832 : decode cL_law 1832 = .ok (.iaload, 1) := by decide +kernel
theorem dL_law_1833 : decode cL_law 1833 = .ok (.aload_n 3, 1) := by decide +kernel
theorem dL_law_1834 : decode cL_law 1834 = .ok (.invokestatic 277, 3) := by decide +kernel
theorem dL_law_1837 : decode cL_law 1837 = .ok (.istore 6, 2) := by decide +kernel
theorem dL_law_1839 : decode cL_law 1839 = .ok (.aload_n 2, 1) := by decide +kernel
theorem dL_law_1840 : decode cL_law 1840 = .ok (.aload_n 0, 1) := by decide +kernel
theorem dL_law_1841 : decode cL_law 1841 = .ok (.iload 5, 2) := by decide +kernel
theorem dL_law_1843 : decode cL_law 1843 = .ok (.iconst 1, 1) := by decide +kernel
theorem dL_law_1844 : decode cL_law 1844 = .ok (.iadd, 1) := by decide +kernel
theorem dL_law_1845 : decode cL_law 1845 = .ok (.iaload, 1) := by decide +kernel
theorem dL_law_1846 : decode cL_law 1846 = .ok (.aload_n 0, 1) := by decide +kernel
theorem dL_law_1847 : decode cL_law 1847 = .ok (.iload 5, 2) := by decide +kernel
theorem dL_law_1849 : decode cL_law 1849 = .ok (.iconst 2, 1) := by decide +kernel
theorem dL_law_1850 : decode cL_law 1850 = .ok (.iadd, 1) := by decide +kernel
theorem dL_law_1851 : decode cL_law 1851 = .ok (.iaload, 1) := by decide +kernel
theorem dL_law_1852 : decode cL_law 1852 = .ok (.invokevirtual 279, 3) := by decide +kernel
theorem dL_law_1855 : decode cL_law 1855 = .ok (.istore 7, 2) := by decide +kernel
theorem dL_law_1857 : decode cL_law 1857 = .ok (.aload_n 2, 1) := by decide +kernel
theorem dL_law_1858 : decode cL_law 1858 = .ok (.invokevirtual 170, 3) := by decide +kernel
theorem dL_law_1861 : decode cL_law 1861 = .ok (.iload 6, 2) := by decide +kernel
theorem dL_law_1863 : decode cL_law 1863 = .ok (.if_icmp .eq 5, 3) := by decide +kernel
theorem dL_law_1866 : decode cL_law 1866 = .ok (.iconst 0, 1) := by decide +kernel
theorem dL_law_1867 : decode cL_law 1867 = .ok (.ireturn, 1) := by decide +kernel
theorem dL_law_1868 : decode cL_law 1868 = .ok (.iload 6, 2) := by decide +kernel
theorem dL_law_1870 : decode cL_law 1870 = .ok (.ifCond .ne 15, 3) := by decide +kernel
theorem dL_law_1873 : decode cL_law 1873 = .ok (.aload_n 3, 1) := by decide +kernel
theorem dL_law_1874 : decode cL_law 1874 = .ok (.iconst 0, 1) := by decide +kernel
theorem dL_law_1875 : decode cL_law 1875 = .ok (.laload, 1) := by decide +kernel
theorem dL_law_1876 : decode cL_law 1876 = .ok (.iload 7, 2) := by decide +kernel
theorem dL_law_1878 : decode cL_law 1878 = .ok (.i2l, 1) := by decide +kernel
theorem dL_law_1879 : decode cL_law 1879 = .ok (.lcmp, 1) := by decide +kernel
theorem dL_law_1880 : decode cL_law 1880 = .ok (.ifCond .eq 5, 3) := by decide +kernel
theorem dL_law_1883 : decode cL_law 1883 = .ok (.iconst 0, 1) := by decide +kernel
theorem dL_law_1884 : decode cL_law 1884 = .ok (.ireturn, 1) := by decide +kernel
theorem dL_law_1885 : decode cL_law 1885 = .ok (.goto 1522, 3) := by decide +kernel
theorem dL_law_1888 : decode cL_law 1888 = .ok (.aload_n 1, 1) := by decide +kernel
theorem dL_law_1889 : decode cL_law 1889 = .ok (.aload_n 0, 1) := by decide +kernel
theorem dL_law_1890 : decode cL_law 1890 = .ok (.iload 5, 2) := by decide +kernel
theorem dL_law_1892 : decode cL_law 1892 = .ok (.iconst 1, 1) := by decide +kernel
theorem dL_law_1893 : decode cL_law 1893 = .ok (.iadd, 1) := by decide +kernel
theorem dL_law_1894 : decode cL_law 1894 = .ok (.iaload, 1) := by decide +kernel
theorem dL_law_1895 : decode cL_law 1895 = .ok (.aload_n 0, 1) := by decide +kernel
theorem dL_law_1896 : decode cL_law 1896 = .ok (.iload 5, 2) := by decide +kernel
theorem dL_law_1898 : decode cL_law 1898 = .ok (.iconst 2, 1) := by decide +kernel
theorem dL_law_1899 : decode cL_law 1899 = .ok (.iadd, 1) := by decide +kernel
theorem dL_law_1900 : decode cL_law 1900 = .ok (.iaload, 1) := by decide +kernel
theorem dL_law_1901 : decode cL_law 1901 = .ok (.aload_n 3, 1) := by decide +kernel
theorem dL_law_1902 : decode cL_law 1902 = .ok (.invokestatic 280, 3) := by decide +kernel
theorem dL_law_1905 : decode cL_law 1905 = .ok (.istore 6, 2) := by decide +kernel
theorem dL_law_1907 : decode cL_law 1907 = .ok (.aload_n 2, 1) := by decide +kernel
theorem dL_law_1908 : decode cL_law 1908 = .ok (.aload_n 0, 1) := by decide +kernel
theorem dL_law_1909 : decode cL_law 1909 = .ok (.iload 5, 2) := by decide +kernel
theorem dL_law_1911 : decode cL_law 1911 = .ok (.iconst 1, 1) := by decide +kernel
theorem dL_law_1912 : decode cL_law 1912 = .ok (.iadd, 1) := by decide +kernel
theorem dL_law_1913 : decode cL_law 1913 = .ok (.iaload, 1) := by decide +kernel
theorem dL_law_1914 : decode cL_law 1914 = .ok (.aload_n 0, 1) := by decide +kernel
theorem dL_law_1915 : decode cL_law 1915 = .ok (.iload 5, 2) := by decide +kernel
theorem dL_law_1917 : decode cL_law 1917 = .ok (.iconst 2, 1) := by decide +kernel
theorem dL_law_1918 : decode cL_law 1918 = .ok (.iadd, 1) := by decide +kernel
theorem dL_law_1919 : decode cL_law 1919 = .ok (.iaload, 1) := by decide +kernel
theorem dL_law_1920 : decode cL_law 1920 = .ok (.invokevirtual 282, 3) := by decide +kernel
theorem dL_law_1923 : decode cL_law 1923 = .ok (.istore 7, 2) := by decide +kernel
theorem dL_law_1925 : decode cL_law 1925 = .ok (.aload_n 2, 1) := by decide +kernel
theorem dL_law_1926 : decode cL_law 1926 = .ok (.invokevirtual 170, 3) := by decide +kernel
theorem dL_law_1929 : decode cL_law 1929 = .ok (.iload 6, 2) := by decide +kernel
theorem dL_law_1931 : decode cL_law 1931 = .ok (.if_icmp .eq 5, 3) := by decide +kernel
theorem dL_law_1934 : decode cL_law 1934 = .ok (.iconst 0, 1) := by decide +kernel
theorem dL_law_1935 : decode cL_law 1935 = .ok (.ireturn, 1) := by decide +kernel
theorem dL_law_1936 : decode cL_law 1936 = .ok (.iload 6, 2) := by decide +kernel
theorem dL_law_1938 : decode cL_law 1938 = .ok (.ifCond .ne 15, 3) := by decide +kernel
theorem dL_law_1941 : decode cL_law 1941 = .ok (.aload_n 3, 1) := by decide +kernel
theorem dL_law_1942 : decode cL_law 1942 = .ok (.iconst 0, 1) := by decide +kernel
theorem dL_law_1943 : decode cL_law 1943 = .ok (.laload, 1) := by decide +kernel
theorem dL_law_1944 : decode cL_law 1944 = .ok (.iload 7, 2) := by decide +kernel
theorem dL_law_1946 : decode cL_law 1946 = .ok (.i2l, 1) := by decide +kernel
theorem dL_law_1947 : decode cL_law 1947 = .ok (.lcmp, 1) := by decide +kernel
theorem dL_law_1948 : decode cL_law 1948 = .ok (.ifCond .eq 5, 3) := by decide +kernel
theorem dL_law_1951 : decode cL_law 1951 = .ok (.iconst 0, 1) := by decide +kernel
theorem dL_law_1952 : decode cL_law 1952 = .ok (.ireturn, 1) := by decide +kernel
theorem dL_law_1953 : decode cL_law 1953 = .ok (.goto 1454, 3) := by decide +kernel
theorem dL_law_1956 : decode cL_law 1956 = .ok (.aload_n 1, 1) := by decide +kernel
theorem dL_law_1957 : decode cL_law 1957 = .ok (.aload_n 0, 1) := by decide +kernel
theorem dL_law_1958 : decode cL_law 1958 = .ok (.iload 5, 2) := by decide +kernel
theorem dL_law_1960 : decode cL_law 1960 = .ok (.iconst 1, 1) := by decide +kernel
theorem dL_law_1961 : decode cL_law 1961 = .ok (.iadd, 1) := by decide +kernel
theorem dL_law_1962 : decode cL_law 1962 = .ok (.iaload, 1) := by decide +kernel
theorem dL_law_1963 : decode cL_law 1963 = .ok (.aload_n 0, 1) := by decide +kernel
theorem dL_law_1964 : decode cL_law 1964 = .ok (.iload 5, 2) := by decide +kernel
theorem dL_law_1966 : decode cL_law 1966 = .ok (.iconst 2, 1) := by decide +kernel
theorem dL_law_1967 : decode cL_law 1967 = .ok (.iadd, 1) := by decide +kernel
theorem dL_law_1968 : decode cL_law 1968 = .ok (.iaload, 1) := by decide +kernel
theorem dL_law_1969 : decode cL_law 1969 = .ok (.aload_n 3, 1) := by decide +kernel
theorem dL_law_1970 : decode cL_law 1970 = .ok (.invokestatic 283, 3) := by decide +kernel
theorem dL_law_1973 : decode cL_law 1973 = .ok (.istore 6, 2) := by decide +kernel
theorem dL_law_1975 : decode cL_law 1975 = .ok (.aload_n 2, 1) := by decide +kernel
theorem dL_law_1976 : decode cL_law 1976 = .ok (.aload_n 0, 1) := by decide +kernel
theorem dL_law_1977 : decode cL_law 1977 = .ok (.iload 5, 2) := by decide +kernel
theorem dL_law_1979 : decode cL_law 1979 = .ok (.iconst 1, 1) := by decide +kernel
theorem dL_law_1980 : decode cL_law 1980 = .ok (.iadd, 1) := by decide +kernel
theorem dL_law_1981 : decode cL_law 1981 = .ok (.iaload, 1) := by decide +kernel
theorem dL_law_1982 : decode cL_law 1982 = .ok (.aload_n 0, 1) := by decide +kernel
theorem dL_law_1983 : decode cL_law 1983 = .ok (.iload 5, 2) := by decide +kernel
theorem dL_law_1985 : decode cL_law 1985 = .ok (.iconst 2, 1) := by decide +kernel
theorem dL_law_1986 : decode cL_law 1986 = .ok (.iadd, 1) := by decide +kernel
theorem dL_law_1987 : decode cL_law 1987 = .ok (.iaload, 1) := by decide +kernel
theorem dL_law_1988 : decode cL_law 1988 = .ok (.invokevirtual 285, 3) := by decide +kernel
theorem dL_law_1991 : decode cL_law 1991 = .ok (.istore 7, 2) := by decide +kernel
theorem dL_law_1993 : decode cL_law 1993 = .ok (.aload_n 2, 1) := by decide +kernel
theorem dL_law_1994 : decode cL_law 1994 = .ok (.invokevirtual 170, 3) := by decide +kernel
theorem dL_law_1997 : decode cL_law 1997 = .ok (.iload 6, 2) := by decide +kernel
theorem dL_law_1999 : decode cL_law 1999 = .ok (.if_icmp .eq 5, 3) := by decide +kernel
theorem dL_law_2002 : decode cL_law 2002 = .ok (.iconst 0, 1) := by decide +kernel
theorem dL_law_2003 : decode cL_law 2003 = .ok (.ireturn, 1) := by decide +kernel
theorem dL_law_2004 : decode cL_law 2004 = .ok (.iload 6, 2) := by decide +kernel
theorem dL_law_2006 : decode cL_law 2006 = .ok (.ifCond .ne 22, 3) := by decide +kernel
theorem dL_law_2009 : decode cL_law 2009 = .ok (.aload_n 3, 1) := by decide +kernel
theorem dL_law_2010 : decode cL_law 2010 = .ok (.iconst 0, 1) := by decide +kernel
theorem dL_law_2011 : decode cL_law 2011 = .ok (.laload, 1) := by decide +kernel
theorem dL_law_2012 : decode cL_law 2012 = .ok (.iload 7, 2) := by decide +kernel
theorem dL_law_2014 : decode cL_law 2014 = .ok (.ifCond .eq 7, 3) := by decide +kernel
theorem dL_law_2017 : decode cL_law 2017 = .ok (.lconst 1, 1) := by decide +kernel
theorem dL_law_2018 : decode cL_law 2018 = .ok (.goto 4, 3) := by decide +kernel
theorem dL_law_2021 : decode cL_law 2021 = .ok (.lconst 0, 1) := by decide +kernel
theorem dL_law_2022 : decode cL_law 2022 = .ok (.lcmp, 1) := by decide +kernel
theorem dL_law_2023 : decode cL_law 2023 = .ok (.ifCond .eq 5, 3) := by decide +kernel
theorem dL_law_2026 : decode cL_law 2026 = .ok (.iconst 0, 1) := by decide +kernel
theorem dL_law_2027 : decode cL_law 2027 = .ok (.ireturn, 1) := by decide +kernel
theorem dL_law_2028 : decode cL_law 2028 = .ok (.goto 1379, 3) := by decide +kernel
theorem dL_law_2031 : decode cL_law 2031 = .ok (.aload_n 1, 1) := by decide +kernel
theorem dL_law_2032 : decode cL_law 2032 = .ok (.invokevirtual 286, 3) := by decide +kernel
theorem dL_law_2035 : decode cL_law 2035 = .ok (.aload_n 2, 1) := by decide +kernel
theorem dL_law_2036 : decode cL_law 2036 = .ok (.invokevirtual 289, 3) := by decide +kernel
theorem dL_law_2039 : decode cL_law 2039 = .ok (.if_icmp .eq 1368, 3) := by decide +kernel
theorem dL_law_2042 : decode cL_law 2042 = .ok (.iconst 0, 1) := by decide +kernel
theorem dL_law_2043 : decode cL_law 2043 = .ok (.ireturn, 1) := by decide +kernel
theorem dL_law_2044 : decode cL_law 2044 = .ok (.aload_n 1, 1) := by decide +kernel
theorem dL_law_2045 : decode cL_law 2045 = .ok (.invokevirtual 290, 3) := by decide +kernel
theorem dL_law_2048 : decode cL_law 2048 = .ok (.aload_n 2, 1) := by decide +kernel
theorem dL_law_2049 : decode cL_law 2049 = .ok (.invokevirtual 293, 3) := by decide +kernel
theorem dL_law_2052 : decode cL_law 2052 = .ok (.if_icmp .eq 1355, 3) := by decide +kernel
theorem dL_law_2055 : decode cL_law 2055 = .ok (.iconst 0, 1) := by decide +kernel
theorem dL_law_2056 : decode cL_law 2056 = .ok (.ireturn, 1) := by decide +kernel
theorem dL_law_2057 : decode cL_law 2057 = .ok (.aload_n 1, 1) := by decide +kernel
theorem dL_law_2058 : decode cL_law 2058 = .ok (.invokevirtual 294, 3) := by decide +kernel
theorem dL_law_2061 : decode cL_law 2061 = .ok (.aload_n 2, 1) := by decide +kernel
theorem dL_law_2062 : decode cL_law 2062 = .ok (.invokevirtual 297, 3) := by decide +kernel
theorem dL_law_2065 : decode cL_law 2065 = .ok (.if_icmp .eq 1342, 3) := by decide +kernel
theorem dL_law_2068 : decode cL_law 2068 = .ok (.iconst 0, 1) := by decide +kernel
theorem dL_law_2069 : decode cL_law 2069 = .ok (.ireturn, 1) := by decide +kernel
theorem dL_law_2070 : decode cL_law 2070 = .ok (.aload_n 1, 1) := by decide +kernel
theorem dL_law_2071 : decode cL_law 2071 = .ok (.aload_n 0, 1) := by decide +kernel
theorem dL_law_2072 : decode cL_law 2072 = .ok (.iload 5, 2) := by decide +kernel
theorem dL_law_2074 : decode cL_law 2074 = .ok (.iconst 1, 1) := by decide +kernel
theorem dL_law_2075 : decode cL_law 2075 = .ok (.iadd, 1) := by decide +kernel
theorem dL_law_2076 : decode cL_law 2076 = .ok (.iaload, 1) := by decide +kernel
theorem dL_law_2077 : decode cL_law 2077 = .ok (.aload_n 3, 1) := by decide +kernel
theorem dL_law_2078 : decode cL_law 2078 = .ok (.invokestatic 298, 3) := by decide +kernel
theorem dL_law_2081 : decode cL_law 2081 = .ok (.istore 6, 2) := by decide +kernel
theorem dL_law_2083 : decode cL_law 2083 = .ok (.aload_n 2, 1) := by decide +kernel
theorem dL_law_2084 : decode cL_law 2084 = .ok (.aload_n 0, 1) := by decide +kernel
theorem dL_law_2085 : decode cL_law 2085 = .ok (.iload 5, 2) := by decide +kernel
theorem dL_law_2087 : decode cL_law 2087 = .ok (.iconst 1, 1) := by decide +kernel
theorem dL_law_2088 : decode cL_law 2088 = .ok (.iadd, 1) := by decide +kernel
theorem dL_law_2089 : decode cL_law 2089 = .ok (.iaload, 1) := by decide +kernel
theorem dL_law_2090 : decode cL_law 2090 = .ok (.invokevirtual 300, 3) := by decide +kernel
theorem dL_law_2093 : decode cL_law 2093 = .ok (.istore 7, 2) := by decide +kernel
theorem dL_law_2095 : decode cL_law 2095 = .ok (.aload_n 2, 1) := by decide +kernel
theorem dL_law_2096 : decode cL_law 2096 = .ok (.invokevirtual 170, 3) := by decide +kernel
theorem dL_law_2099 : decode cL_law 2099 = .ok (.iload 6, 2) := by decide +kernel
theorem dL_law_2101 : decode cL_law 2101 = .ok (.if_icmp .eq 5, 3) := by decide +kernel
theorem dL_law_2104 : decode cL_law 2104 = .ok (.iconst 0, 1) := by decide +kernel
theorem dL_law_2105 : decode cL_law 2105 = .ok (.ireturn, 1) := by decide +kernel
theorem dL_law_2106 : decode cL_law 2106 = .ok (.iload 6, 2) := by decide +kernel
theorem dL_law_2108 : decode cL_law 2108 = .ok (.ifCond .ne 15, 3) := by decide +kernel
theorem dL_law_2111 : decode cL_law 2111 = .ok (.aload_n 3, 1) := by decide +kernel
theorem dL_law_2112 : decode cL_law 2112 = .ok (.iconst 0, 1) := by decide +kernel
theorem dL_law_2113 : decode cL_law 2113 = .ok (.laload, 1) := by decide +kernel
theorem dL_law_2114 : decode cL_law 2114 = .ok (.iload 7, 2) := by decide +kernel
theorem dL_law_2116 : decode cL_law 2116 = .ok (.i2l, 1) := by decide +kernel
theorem dL_law_2117 : decode cL_law 2117 = .ok (.lcmp, 1) := by decide +kernel
theorem dL_law_2118 : decode cL_law 2118 = .ok (.ifCond .eq 5, 3) := by decide +kernel
theorem dL_law_2121 : decode cL_law 2121 = .ok (.iconst 0, 1) := by decide +kernel
theorem dL_law_2122 : decode cL_law 2122 = .ok (.ireturn, 1) := by decide +kernel
theorem dL_law_2123 : decode cL_law 2123 = .ok (.goto 1284, 3) := by decide +kernel
theorem dL_law_2126 : decode cL_law 2126 = .ok (.aload_n 1, 1) := by decide +kernel
theorem dL_law_2127 : decode cL_law 2127 = .ok (.aload_n 0, 1) := by decide +kernel
theorem dL_law_2128 : decode cL_law 2128 = .ok (.iload 5, 2) := by decide +kernel
theorem dL_law_2130 : decode cL_law 2130 = .ok (.iconst 1, 1) := by decide +kernel
theorem dL_law_2131 : decode cL_law 2131 = .ok (.iadd, 1) := by decide +kernel
theorem dL_law_2132 : decode cL_law 2132 = .ok (.iaload, 1) := by decide +kernel
theorem dL_law_2133 : decode cL_law 2133 = .ok (.aload_n 3, 1) := by decide +kernel
theorem dL_law_2134 : decode cL_law 2134 = .ok (.invokestatic 301, 3) := by decide +kernel
theorem dL_law_2137 : decode cL_law 2137 = .ok (.istore 6, 2) := by decide +kernel
theorem dL_law_2139 : decode cL_law 2139 = .ok (.aload_n 2, 1) := by decide +kernel
theorem dL_law_2140 : decode cL_law 2140 = .ok (.aload_n 0, 1) := by decide +kernel
theorem dL_law_2141 : decode cL_law 2141 = .ok (.iload 5, 2) := by decide +kernel
theorem dL_law_2143 : decode cL_law 2143 = .ok (.iconst 1, 1) := by decide +kernel
theorem dL_law_2144 : decode cL_law 2144 = .ok (.iadd, 1) := by decide +kernel
theorem dL_law_2145 : decode cL_law 2145 = .ok (.iaload, 1) := by decide +kernel
theorem dL_law_2146 : decode cL_law 2146 = .ok (.invokevirtual 303, 3) := by decide +kernel
theorem dL_law_2149 : decode cL_law 2149 = .ok (.istore 7, 2) := by decide +kernel
theorem dL_law_2151 : decode cL_law 2151 = .ok (.aload_n 2, 1) := by decide +kernel
theorem dL_law_2152 : decode cL_law 2152 = .ok (.invokevirtual 170, 3) := by decide +kernel
theorem dL_law_2155 : decode cL_law 2155 = .ok (.iload 6, 2) := by decide +kernel
theorem dL_law_2157 : decode cL_law 2157 = .ok (.if_icmp .eq 5, 3) := by decide +kernel
theorem dL_law_2160 : decode cL_law 2160 = .ok (.iconst 0, 1) := by decide +kernel
theorem dL_law_2161 : decode cL_law 2161 = .ok (.ireturn, 1) := by decide +kernel
theorem dL_law_2162 : decode cL_law 2162 = .ok (.iload 6, 2) := by decide +kernel
theorem dL_law_2164 : decode cL_law 2164 = .ok (.ifCond .ne 15, 3) := by decide +kernel
theorem dL_law_2167 : decode cL_law 2167 = .ok (.aload_n 3, 1) := by decide +kernel
theorem dL_law_2168 : decode cL_law 2168 = .ok (.iconst 0, 1) := by decide +kernel
theorem dL_law_2169 : decode cL_law 2169 = .ok (.laload, 1) := by decide +kernel
theorem dL_law_2170 : decode cL_law 2170 = .ok (.iload 7, 2) := by decide +kernel
theorem dL_law_2172 : decode cL_law 2172 = .ok (.i2l, 1) := by decide +kernel
theorem dL_law_2173 : decode cL_law 2173 = .ok (.lcmp, 1) := by decide +kernel
theorem dL_law_2174 : decode cL_law 2174 = .ok (.ifCond .eq 5, 3) := by decide +kernel
theorem dL_law_2177 : decode cL_law 2177 = .ok (.iconst 0, 1) := by decide +kernel
theorem dL_law_2178 : decode cL_law 2178 = .ok (.ireturn, 1) := by decide +kernel
theorem dL_law_2179 : decode cL_law 2179 = .ok (.goto 1228, 3) := by decide +kernel
theorem dL_law_2182 : decode cL_law 2182 = .ok (.aload_n 1, 1) := by decide +kernel
theorem dL_law_2183 : decode cL_law 2183 = .ok (.aload_n 0, 1) := by decide +kernel
theorem dL_law_2184 : decode cL_law 2184 = .ok (.iload 5, 2) := by decide +kernel
theorem dL_law_2186 : decode cL_law 2186 = .ok (.iconst 1, 1) := by decide +kernel
theorem dL_law_2187 : decode cL_law 2187 = .ok (.iadd, 1) := by decide +kernel
theorem dL_law_2188 : decode cL_law 2188 = .ok (.iaload, 1) := by decide +kernel
theorem dL_law_2189 : decode cL_law 2189 = .ok (.aload_n 3, 1) := by decide +kernel
theorem dL_law_2190 : decode cL_law 2190 = .ok (.invokestatic 304, 3) := by decide +kernel
theorem dL_law_2193 : decode cL_law 2193 = .ok (.istore 6, 2) := by decide +kernel
theorem dL_law_2195 : decode cL_law 2195 = .ok (.aload_n 2, 1) := by decide +kernel
theorem dL_law_2196 : decode cL_law 2196 = .ok (.aload_n 0, 1) := by decide +kernel
theorem dL_law_2197 : decode cL_law 2197 = .ok (.iload 5, 2) := by decide +kernel
theorem dL_law_2199 : decode cL_law 2199 = .ok (.iconst 1, 1) := by decide +kernel
theorem dL_law_2200 : decode cL_law 2200 = .ok (.iadd, 1) := by decide +kernel
theorem dL_law_2201 : decode cL_law 2201 = .ok (.iaload, 1) := by decide +kernel
theorem dL_law_2202 : decode cL_law 2202 = .ok (.invokevirtual 306, 3) := by decide +kernel
theorem dL_law_2205 : decode cL_law 2205 = .ok (.istore 7, 2) := by decide +kernel
theorem dL_law_2207 : decode cL_law 2207 = .ok (.aload_n 2, 1) := by decide +kernel
theorem dL_law_2208 : decode cL_law 2208 = .ok (.invokevirtual 170, 3) := by decide +kernel
theorem dL_law_2211 : decode cL_law 2211 = .ok (.iload 6, 2) := by decide +kernel
theorem dL_law_2213 : decode cL_law 2213 = .ok (.if_icmp .eq 5, 3) := by decide +kernel
theorem dL_law_2216 : decode cL_law 2216 = .ok (.iconst 0, 1) := by decide +kernel
theorem dL_law_2217 : decode cL_law 2217 = .ok (.ireturn, 1) := by decide +kernel
theorem dL_law_2218 : decode cL_law 2218 = .ok (.iload 6, 2) := by decide +kernel
theorem dL_law_2220 : decode cL_law 2220 = .ok (.ifCond .ne 15, 3) := by decide +kernel
theorem dL_law_2223 : decode cL_law 2223 = .ok (.aload_n 3, 1) := by decide +kernel
theorem dL_law_2224 : decode cL_law 2224 = .ok (.iconst 0, 1) := by decide +kernel
theorem dL_law_2225 : decode cL_law 2225 = .ok (.laload, 1) := by decide +kernel
theorem dL_law_2226 : decode cL_law 2226 = .ok (.iload 7, 2) := by decide +kernel
theorem dL_law_2228 : decode cL_law 2228 = .ok (.i2l, 1) := by decide +kernel
theorem dL_law_2229 : decode cL_law 2229 = .ok (.lcmp, 1) := by decide +kernel
theorem dL_law_2230 : decode cL_law 2230 = .ok (.ifCond .eq 5, 3) := by decide +kernel
theorem dL_law_2233 : decode cL_law 2233 = .ok (.iconst 0, 1) := by decide +kernel
theorem dL_law_2234 : decode cL_law 2234 = .ok (.ireturn, 1) := by decide +kernel
theorem dL_law_2235 : decode cL_law 2235 = .ok (.goto 1172, 3) := by decide +kernel
theorem dL_law_2238 : decode cL_law 2238 = .ok (.aload_n 1, 1) := by decide +kernel
theorem dL_law_2239 : decode cL_law 2239 = .ok (.aload_n 0, 1) := by decide +kernel
theorem dL_law_2240 : decode cL_law 2240 = .ok (.iload 5, 2) := by decide +kernel
theorem dL_law_2242 : decode cL_law 2242 = .ok (.iconst 1, 1) := by decide +kernel
theorem dL_law_2243 : decode cL_law 2243 = .ok (.iadd, 1) := by decide +kernel
theorem dL_law_2244 : decode cL_law 2244 = .ok (.iaload, 1) := by decide +kernel
theorem dL_law_2245 : decode cL_law 2245 = .ok (.aload_n 3, 1) := by decide +kernel
theorem dL_law_2246 : decode cL_law 2246 = .ok (.invokestatic 307, 3) := by decide +kernel
theorem dL_law_2249 : decode cL_law 2249 = .ok (.istore 6, 2) := by decide +kernel
theorem dL_law_2251 : decode cL_law 2251 = .ok (.aload_n 2, 1) := by decide +kernel
theorem dL_law_2252 : decode cL_law 2252 = .ok (.aload_n 0, 1) := by decide +kernel
theorem dL_law_2253 : decode cL_law 2253 = .ok (.iload 5, 2) := by decide +kernel
theorem dL_law_2255 : decode cL_law 2255 = .ok (.iconst 1, 1) := by decide +kernel
theorem dL_law_2256 : decode cL_law 2256 = .ok (.iadd, 1) := by decide +kernel
theorem dL_law_2257 : decode cL_law 2257 = .ok (.iaload, 1) := by decide +kernel
theorem dL_law_2258 : decode cL_law 2258 = .ok (.invokevirtual 309, 3) := by decide +kernel
theorem dL_law_2261 : decode cL_law 2261 = .ok (.istore 7, 2) := by decide +kernel
theorem dL_law_2263 : decode cL_law 2263 = .ok (.aload_n 2, 1) := by decide +kernel
theorem dL_law_2264 : decode cL_law 2264 = .ok (.invokevirtual 170, 3) := by decide +kernel
theorem dL_law_2267 : decode cL_law 2267 = .ok (.iload 6, 2) := by decide +kernel
theorem dL_law_2269 : decode cL_law 2269 = .ok (.if_icmp .eq 5, 3) := by decide +kernel
theorem dL_law_2272 : decode cL_law 2272 = .ok (.iconst 0, 1) := by decide +kernel
theorem dL_law_2273 : decode cL_law 2273 = .ok (.ireturn, 1) := by decide +kernel
theorem dL_law_2274 : decode cL_law 2274 = .ok (.iload 6, 2) := by decide +kernel
theorem dL_law_2276 : decode cL_law 2276 = .ok (.ifCond .ne 15, 3) := by decide +kernel
theorem dL_law_2279 : decode cL_law 2279 = .ok (.aload_n 3, 1) := by decide +kernel
theorem dL_law_2280 : decode cL_law 2280 = .ok (.iconst 0, 1) := by decide +kernel
theorem dL_law_2281 : decode cL_law 2281 = .ok (.laload, 1) := by decide +kernel
theorem dL_law_2282 : decode cL_law 2282 = .ok (.iload 7, 2) := by decide +kernel
theorem dL_law_2284 : decode cL_law 2284 = .ok (.i2l, 1) := by decide +kernel
theorem dL_law_2285 : decode cL_law 2285 = .ok (.lcmp, 1) := by decide +kernel
theorem dL_law_2286 : decode cL_law 2286 = .ok (.ifCond .eq 5, 3) := by decide +kernel
theorem dL_law_2289 : decode cL_law 2289 = .ok (.iconst 0, 1) := by decide +kernel
theorem dL_law_2290 : decode cL_law 2290 = .ok (.ireturn, 1) := by decide +kernel
theorem dL_law_2291 : decode cL_law 2291 = .ok (.goto 1116, 3) := by decide +kernel
theorem dL_law_2294 : decode cL_law 2294 = .ok (.aload_n 1, 1) := by decide +kernel
theorem dL_law_2295 : decode cL_law 2295 = .ok (.aload_n 0, 1) := by decide +kernel
theorem dL_law_2296 : decode cL_law 2296 = .ok (.iload 5, 2) := by decide +kernel
theorem dL_law_2298 : decode cL_law 2298 = .ok (.iconst 1, 1) := by decide +kernel
theorem dL_law_2299 : decode cL_law 2299 = .ok (.iadd, 1) := by decide +kernel
theorem dL_law_2300 : decode cL_law 2300 = .ok (.iaload, 1) := by decide +kernel
theorem dL_law_2301 : decode cL_law 2301 = .ok (.aload_n 3, 1) := by decide +kernel
theorem dL_law_2302 : decode cL_law 2302 = .ok (.invokestatic 310, 3) := by decide +kernel
theorem dL_law_2305 : decode cL_law 2305 = .ok (.istore 6, 2) := by decide +kernel
theorem dL_law_2307 : decode cL_law 2307 = .ok (.aload_n 2, 1) := by decide +kernel
theorem dL_law_2308 : decode cL_law 2308 = .ok (.aload_n 0, 1) := by decide +kernel
theorem dL_law_2309 : decode cL_law 2309 = .ok (.iload 5, 2) := by decide +kernel
theorem dL_law_2311 : decode cL_law 2311 = .ok (.iconst 1, 1) := by decide +kernel
theorem dL_law_2312 : decode cL_law 2312 = .ok (.iadd, 1) := by decide +kernel
theorem dL_law_2313 : decode cL_law 2313 = .ok (.iaload, 1) := by decide +kernel
theorem dL_law_2314 : decode cL_law 2314 = .ok (.invokevirtual 312, 3) := by decide +kernel
theorem dL_law_2317 : decode cL_law 2317 = .ok (.istore 7, 2) := by decide +kernel
theorem dL_law_2319 : decode cL_law 2319 = .ok (.aload_n 2, 1) := by decide +kernel
theorem dL_law_2320 : decode cL_law 2320 = .ok (.invokevirtual 170, 3) := by decide +kernel
theorem dL_law_2323 : decode cL_law 2323 = .ok (.iload 6, 2) := by decide +kernel
theorem dL_law_2325 : decode cL_law 2325 = .ok (.if_icmp .eq 5, 3) := by decide +kernel
theorem dL_law_2328 : decode cL_law 2328 = .ok (.iconst 0, 1) := by decide +kernel
theorem dL_law_2329 : decode cL_law 2329 = .ok (.ireturn, 1) := by decide +kernel
theorem dL_law_2330 : decode cL_law 2330 = .ok (.iload 6, 2) := by decide +kernel
theorem dL_law_2332 : decode cL_law 2332 = .ok (.ifCond .ne 15, 3) := by decide +kernel
theorem dL_law_2335 : decode cL_law 2335 = .ok (.aload_n 3, 1) := by decide +kernel
theorem dL_law_2336 : decode cL_law 2336 = .ok (.iconst 0, 1) := by decide +kernel
theorem dL_law_2337 : decode cL_law 2337 = .ok (.laload, 1) := by decide +kernel
theorem dL_law_2338 : decode cL_law 2338 = .ok (.iload 7, 2) := by decide +kernel
theorem dL_law_2340 : decode cL_law 2340 = .ok (.i2l, 1) := by decide +kernel
theorem dL_law_2341 : decode cL_law 2341 = .ok (.lcmp, 1) := by decide +kernel
theorem dL_law_2342 : decode cL_law 2342 = .ok (.ifCond .eq 5, 3) := by decide +kernel
theorem dL_law_2345 : decode cL_law 2345 = .ok (.iconst 0, 1) := by decide +kernel
theorem dL_law_2346 : decode cL_law 2346 = .ok (.ireturn, 1) := by decide +kernel
theorem dL_law_2347 : decode cL_law 2347 = .ok (.goto 1060, 3) := by decide +kernel
theorem dL_law_2350 : decode cL_law 2350 = .ok (.aload_n 1, 1) := by decide +kernel
theorem dL_law_2351 : decode cL_law 2351 = .ok (.aload_n 0, 1) := by decide +kernel
theorem dL_law_2352 : decode cL_law 2352 = .ok (.iload 5, 2) := by decide +kernel
theorem dL_law_2354 : decode cL_law 2354 = .ok (.iconst 1, 1) := by decide +kernel
theorem dL_law_2355 : decode cL_law 2355 = .ok (.iadd, 1) := by decide +kernel
theorem dL_law_2356 : decode cL_law 2356 = .ok (.iaload, 1) := by decide +kernel
theorem dL_law_2357 : decode cL_law 2357 = .ok (.aload_n 0, 1) := by decide +kernel
theorem dL_law_2358 : decode cL_law 2358 = .ok (.iload 5, 2) := by decide +kernel
theorem dL_law_2360 : decode cL_law 2360 = .ok (.iconst 2, 1) := by decide +kernel
theorem dL_law_2361 : decode cL_law 2361 = .ok (.iadd, 1) := by decide +kernel
theorem dL_law_2362 : decode cL_law 2362 = .ok (.iaload, 1) := by decide +kernel
theorem dL_law_2363 : decode cL_law 2363 = .ok (.aload_n 3, 1) := by decide +kernel
theorem dL_law_2364 : decode cL_law 2364 = .ok (.invokestatic 313, 3) := by decide +kernel
theorem dL_law_2367 : decode cL_law 2367 = .ok (.istore 6, 2) := by decide +kernel
theorem dL_law_2369 : decode cL_law 2369 = .ok (.aload_n 2, 1) := by decide +kernel
theorem dL_law_2370 : decode cL_law 2370 = .ok (.aload_n 0, 1) := by decide +kernel
theorem dL_law_2371 : decode cL_law 2371 = .ok (.iload 5, 2) := by decide +kernel
theorem dL_law_2373 : decode cL_law 2373 = .ok (.iconst 1, 1) := by decide +kernel
theorem dL_law_2374 : decode cL_law 2374 = .ok (.iadd, 1) := by decide +kernel
theorem dL_law_2375 : decode cL_law 2375 = .ok (.iaload, 1) := by decide +kernel
theorem dL_law_2376 : decode cL_law 2376 = .ok (.aload_n 0, 1) := by decide +kernel
theorem dL_law_2377 : decode cL_law 2377 = .ok (.iload 5, 2) := by decide +kernel
theorem dL_law_2379 : decode cL_law 2379 = .ok (.iconst 2, 1) := by decide +kernel
theorem dL_law_2380 : decode cL_law 2380 = .ok (.iadd, 1) := by decide +kernel
theorem dL_law_2381 : decode cL_law 2381 = .ok (.iaload, 1) := by decide +kernel
theorem dL_law_2382 : decode cL_law 2382 = .ok (.invokevirtual 315, 3) := by decide +kernel
theorem dL_law_2385 : decode cL_law 2385 = .ok (.istore 7, 2) := by decide +kernel
theorem dL_law_2387 : decode cL_law 2387 = .ok (.aload_n 2, 1) := by decide +kernel
theorem dL_law_2388 : decode cL_law 2388 = .ok (.invokevirtual 170, 3) := by decide +kernel
theorem dL_law_2391 : decode cL_law 2391 = .ok (.iload 6, 2) := by decide +kernel
theorem dL_law_2393 : decode cL_law 2393 = .ok (.if_icmp .eq 5, 3) := by decide +kernel
theorem dL_law_2396 : decode cL_law 2396 = .ok (.iconst 0, 1) := by decide +kernel
theorem dL_law_2397 : decode cL_law 2397 = .ok (.ireturn, 1) := by decide +kernel
theorem dL_law_2398 : decode cL_law 2398 = .ok (.iload 6, 2) := by decide +kernel
theorem dL_law_2400 : decode cL_law 2400 = .ok (.ifCond .ne 15, 3) := by decide +kernel
theorem dL_law_2403 : decode cL_law 2403 = .ok (.aload_n 3, 1) := by decide +kernel
theorem dL_law_2404 : decode cL_law 2404 = .ok (.iconst 0, 1) := by decide +kernel
theorem dL_law_2405 : decode cL_law 2405 = .ok (.laload, 1) := by decide +kernel
theorem dL_law_2406 : decode cL_law 2406 = .ok (.iload 7, 2) := by decide +kernel
theorem dL_law_2408 : decode cL_law 2408 = .ok (.i2l, 1) := by decide +kernel
theorem dL_law_2409 : decode cL_law 2409 = .ok (.lcmp, 1) := by decide +kernel
theorem dL_law_2410 : decode cL_law 2410 = .ok (.ifCond .eq 5, 3) := by decide +kernel
theorem dL_law_2413 : decode cL_law 2413 = .ok (.iconst 0, 1) := by decide +kernel
theorem dL_law_2414 : decode cL_law 2414 = .ok (.ireturn, 1) := by decide +kernel
theorem dL_law_2415 : decode cL_law 2415 = .ok (.goto 992, 3) := by decide +kernel
theorem dL_law_2418 : decode cL_law 2418 = .ok (.aload_n 1, 1) := by decide +kernel
theorem dL_law_2419 : decode cL_law 2419 = .ok (.aload_n 0, 1) := by decide +kernel
theorem dL_law_2420 : decode cL_law 2420 = .ok (.iload 5, 2) := by decide +kernel
theorem dL_law_2422 : decode cL_law 2422 = .ok (.iconst 1, 1) := by decide +kernel
theorem dL_law_2423 : decode cL_law 2423 = .ok (.iadd, 1) := by decide +kernel
theorem dL_law_2424 : decode cL_law 2424 = .ok (.iaload, 1) := by decide +kernel
theorem dL_law_2425 : decode cL_law 2425 = .ok (.aload_n 0, 1) := by decide +kernel
theorem dL_law_2426 : decode cL_law 2426 = .ok (.iload 5, 2) := by decide +kernel
theorem dL_law_2428 : decode cL_law 2428 = .ok (.iconst 2, 1) := by decide +kernel
theorem dL_law_2429 : decode cL_law 2429 = .ok (.iadd, 1) := by decide +kernel
theorem dL_law_2430 : decode cL_law 2430 = .ok (.iaload, 1) := by decide +kernel
theorem dL_law_2431 : decode cL_law 2431 = .ok (.aload_n 3, 1) := by decide +kernel
theorem dL_law_2432 : decode cL_law 2432 = .ok (.invokestatic 316, 3) := by decide +kernel
theorem dL_law_2435 : decode cL_law 2435 = .ok (.istore 6, 2) := by decide +kernel
theorem dL_law_2437 : decode cL_law 2437 = .ok (.aload_n 2, 1) := by decide +kernel
theorem dL_law_2438 : decode cL_law 2438 = .ok (.aload_n 0, 1) := by decide +kernel
theorem dL_law_2439 : decode cL_law 2439 = .ok (.iload 5, 2) := by decide +kernel
theorem dL_law_2441 : decode cL_law 2441 = .ok (.iconst 1, 1) := by decide +kernel
theorem dL_law_2442 : decode cL_law 2442 = .ok (.iadd, 1) := by decide +kernel
theorem dL_law_2443 : decode cL_law 2443 = .ok (.iaload, 1) := by decide +kernel
theorem dL_law_2444 : decode cL_law 2444 = .ok (.aload_n 0, 1) := by decide +kernel
theorem dL_law_2445 : decode cL_law 2445 = .ok (.iload 5, 2) := by decide +kernel
theorem dL_law_2447 : decode cL_law 2447 = .ok (.iconst 2, 1) := by decide +kernel
theorem dL_law_2448 : decode cL_law 2448 = .ok (.iadd, 1) := by decide +kernel
theorem dL_law_2449 : decode cL_law 2449 = .ok (.iaload, 1) := by decide +kernel
theorem dL_law_2450 : decode cL_law 2450 = .ok (.invokevirtual 318, 3) := by decide +kernel
theorem dL_law_2453 : decode cL_law 2453 = .ok (.istore 7, 2) := by decide +kernel
theorem dL_law_2455 : decode cL_law 2455 = .ok (.aload_n 2, 1) := by decide +kernel
theorem dL_law_2456 : decode cL_law 2456 = .ok (.invokevirtual 170, 3) := by decide +kernel
theorem dL_law_2459 : decode cL_law 2459 = .ok (.iload 6, 2) := by decide +kernel
theorem dL_law_2461 : decode cL_law 2461 = .ok (.if_icmp .eq 5, 3) := by decide +kernel
theorem dL_law_2464 : decode cL_law 2464 = .ok (.iconst 0, 1) := by decide +kernel
theorem dL_law_2465 : decode cL_law 2465 = .ok (.ireturn, 1) := by decide +kernel
theorem dL_law_2466 : decode cL_law 2466 = .ok (.iload 6, 2) := by decide +kernel
theorem dL_law_2468 : decode cL_law 2468 = .ok (.ifCond .ne 15, 3) := by decide +kernel
theorem dL_law_2471 : decode cL_law 2471 = .ok (.aload_n 3, 1) := by decide +kernel
theorem dL_law_2472 : decode cL_law 2472 = .ok (.iconst 0, 1) := by decide +kernel
theorem dL_law_2473 : decode cL_law 2473 = .ok (.laload, 1) := by decide +kernel
theorem dL_law_2474 : decode cL_law 2474 = .ok (.iload 7, 2) := by decide +kernel
theorem dL_law_2476 : decode cL_law 2476 = .ok (.i2l, 1) := by decide +kernel
theorem dL_law_2477 : decode cL_law 2477 = .ok (.lcmp, 1) := by decide +kernel
theorem dL_law_2478 : decode cL_law 2478 = .ok (.ifCond .eq 5, 3) := by decide +kernel
theorem dL_law_2481 : decode cL_law 2481 = .ok (.iconst 0, 1) := by decide +kernel
theorem dL_law_2482 : decode cL_law 2482 = .ok (.ireturn, 1) := by decide +kernel
theorem dL_law_2483 : decode cL_law 2483 = .ok (.goto 924, 3) := by decide +kernel
theorem dL_law_2486 : decode cL_law 2486 = .ok (.aload_n 1, 1) := by decide +kernel
theorem dL_law_2487 : decode cL_law 2487 = .ok (.aload_n 0, 1) := by decide +kernel
theorem dL_law_2488 : decode cL_law 2488 = .ok (.iload 5, 2) := by decide +kernel
theorem dL_law_2490 : decode cL_law 2490 = .ok (.iconst 1, 1) := by decide +kernel
theorem dL_law_2491 : decode cL_law 2491 = .ok (.iadd, 1) := by decide +kernel
theorem dL_law_2492 : decode cL_law 2492 = .ok (.iaload, 1) := by decide +kernel
theorem dL_law_2493 : decode cL_law 2493 = .ok (.aload_n 0, 1) := by decide +kernel
theorem dL_law_2494 : decode cL_law 2494 = .ok (.iload 5, 2) := by decide +kernel
theorem dL_law_2496 : decode cL_law 2496 = .ok (.iconst 2, 1) := by decide +kernel
theorem dL_law_2497 : decode cL_law 2497 = .ok (.iadd, 1) := by decide +kernel
theorem dL_law_2498 : decode cL_law 2498 = .ok (.iaload, 1) := by decide +kernel
theorem dL_law_2499 : decode cL_law 2499 = .ok (.aload_n 0, 1) := by decide +kernel
theorem dL_law_2500 : decode cL_law 2500 = .ok (.iload 5, 2) := by decide +kernel
theorem dL_law_2502 : decode cL_law 2502 = .ok (.iconst 3, 1) := by decide +kernel
theorem dL_law_2503 : decode cL_law 2503 = .ok (.iadd, 1) := by decide +kernel
theorem dL_law_2504 : decode cL_law 2504 = .ok (.iaload, 1) := by decide +kernel
theorem dL_law_2505 : decode cL_law 2505 = .ok (.aload_n 3, 1) := by decide +kernel
theorem dL_law_2506 : decode cL_law 2506 = .ok (.invokestatic 319, 3) := by decide +kernel
theorem dL_law_2509 : decode cL_law 2509 = .ok (.istore 6, 2) := by decide +kernel
theorem dL_law_2511 : decode cL_law 2511 = .ok (.aload_n 2, 1) := by decide +kernel
theorem dL_law_2512 : decode cL_law 2512 = .ok (.aload_n 0, 1) := by decide +kernel
theorem dL_law_2513 : decode cL_law 2513 = .ok (.iload 5, 2) := by decide +kernel
theorem dL_law_2515 : decode cL_law 2515 = .ok (.iconst 1, 1) := by decide +kernel
theorem dL_law_2516 : decode cL_law 2516 = .ok (.iadd, 1) := by decide +kernel
theorem dL_law_2517 : decode cL_law 2517 = .ok (.iaload, 1) := by decide +kernel
theorem dL_law_2518 : decode cL_law 2518 = .ok (.aload_n 0, 1) := by decide +kernel
theorem dL_law_2519 : decode cL_law 2519 = .ok (.iload 5, 2) := by decide +kernel
theorem dL_law_2521 : decode cL_law 2521 = .ok (.iconst 2, 1) := by decide +kernel
theorem dL_law_2522 : decode cL_law 2522 = .ok (.iadd, 1) := by decide +kernel
theorem dL_law_2523 : decode cL_law 2523 = .ok (.iaload, 1) := by decide +kernel
theorem dL_law_2524 : decode cL_law 2524 = .ok (.aload_n 0, 1) := by decide +kernel
theorem dL_law_2525 : decode cL_law 2525 = .ok (.iload 5, 2) := by decide +kernel
theorem dL_law_2527 : decode cL_law 2527 = .ok (.iconst 3, 1) := by decide +kernel
theorem dL_law_2528 : decode cL_law 2528 = .ok (.iadd, 1) := by decide +kernel
theorem dL_law_2529 : decode cL_law 2529 = .ok (.iaload, 1) := by decide +kernel
theorem dL_law_2530 : decode cL_law 2530 = .ok (.invokevirtual 321, 3) := by decide +kernel
theorem dL_law_2533 : decode cL_law 2533 = .ok (.istore 7, 2) := by decide +kernel
theorem dL_law_2535 : decode cL_law 2535 = .ok (.aload_n 2, 1) := by decide +kernel
theorem dL_law_2536 : decode cL_law 2536 = .ok (.invokevirtual 170, 3) := by decide +kernel
theorem dL_law_2539 : decode cL_law 2539 = .ok (.iload 6, 2) := by decide +kernel
theorem dL_law_2541 : decode cL_law 2541 = .ok (.if_icmp .eq 5, 3) := by decide +kernel
theorem dL_law_2544 : decode cL_law 2544 = .ok (.iconst 0, 1) := by decide +kernel
theorem dL_law_2545 : decode cL_law 2545 = .ok (.ireturn, 1) := by decide +kernel
theorem dL_law_2546 : decode cL_law 2546 = .ok (.iload 6, 2) := by decide +kernel
theorem dL_law_2548 : decode cL_law 2548 = .ok (.ifCond .ne 15, 3) := by decide +kernel
theorem dL_law_2551 : decode cL_law 2551 = .ok (.aload_n 3, 1) := by decide +kernel
theorem dL_law_2552 : decode cL_law 2552 = .ok (.iconst 0, 1) := by decide +kernel
theorem dL_law_2553 : decode cL_law 2553 = .ok (.laload, 1) := by decide +kernel
theorem dL_law_2554 : decode cL_law 2554 = .ok (.iload 7, 2) := by decide +kernel
theorem dL_law_2556 : decode cL_law 2556 = .ok (.i2l, 1) := by decide +kernel
theorem dL_law_2557 : decode cL_law 2557 = .ok (.lcmp, 1) := by decide +kernel
theorem dL_law_2558 : decode cL_law 2558 = .ok (.ifCond .eq 5, 3) := by decide +kernel
theorem dL_law_2561 : decode cL_law 2561 = .ok (.iconst 0, 1) := by decide +kernel
theorem dL_law_2562 : decode cL_law 2562 = .ok (.ireturn, 1) := by decide +kernel
theorem dL_law_2563 : decode cL_law 2563 = .ok (.goto 844, 3) := by decide +kernel
theorem dL_law_2566 : decode cL_law 2566 = .ok (.aload_n 1, 1) := by decide +kernel
theorem dL_law_2567 : decode cL_law 2567 = .ok (.aload_n 0, 1) := by decide +kernel
theorem dL_law_2568 : decode cL_law 2568 = .ok (.iload 5, 2) := by decide +kernel
theorem dL_law_2570 : decode cL_law 2570 = .ok (.iconst 1, 1) := by decide +kernel
theorem dL_law_2571 : decode cL_law 2571 = .ok (.iadd, 1) := by decide +kernel
theorem dL_law_2572 : decode cL_law 2572 = .ok (.iaload, 1) := by decide +kernel
theorem dL_law_2573 : decode cL_law 2573 = .ok (.aload_n 0, 1) := by decide +kernel
theorem dL_law_2574 : decode cL_law 2574 = .ok (.iload 5, 2) := by decide +kernel
theorem dL_law_2576 : decode cL_law 2576 = .ok (.iconst 2, 1) := by decide +kernel
theorem dL_law_2577 : decode cL_law 2577 = .ok (.iadd, 1) := by decide +kernel
theorem dL_law_2578 : decode cL_law 2578 = .ok (.iaload, 1) := by decide +kernel
theorem dL_law_2579 : decode cL_law 2579 = .ok (.aload_n 3, 1) := by decide +kernel
theorem dL_law_2580 : decode cL_law 2580 = .ok (.invokestatic 322, 3) := by decide +kernel
theorem dL_law_2583 : decode cL_law 2583 = .ok (.istore 6, 2) := by decide +kernel
theorem dL_law_2585 : decode cL_law 2585 = .ok (.aload_n 2, 1) := by decide +kernel
theorem dL_law_2586 : decode cL_law 2586 = .ok (.aload_n 0, 1) := by decide +kernel
theorem dL_law_2587 : decode cL_law 2587 = .ok (.iload 5, 2) := by decide +kernel
theorem dL_law_2589 : decode cL_law 2589 = .ok (.iconst 1, 1) := by decide +kernel
theorem dL_law_2590 : decode cL_law 2590 = .ok (.iadd, 1) := by decide +kernel
theorem dL_law_2591 : decode cL_law 2591 = .ok (.iaload, 1) := by decide +kernel
theorem dL_law_2592 : decode cL_law 2592 = .ok (.aload_n 0, 1) := by decide +kernel
theorem dL_law_2593 : decode cL_law 2593 = .ok (.iload 5, 2) := by decide +kernel
theorem dL_law_2595 : decode cL_law 2595 = .ok (.iconst 2, 1) := by decide +kernel
theorem dL_law_2596 : decode cL_law 2596 = .ok (.iadd, 1) := by decide +kernel
theorem dL_law_2597 : decode cL_law 2597 = .ok (.iaload, 1) := by decide +kernel
theorem dL_law_2598 : decode cL_law 2598 = .ok (.invokevirtual 324, 3) := by decide +kernel
theorem dL_law_2601 : decode cL_law 2601 = .ok (.istore 7, 2) := by decide +kernel
theorem dL_law_2603 : decode cL_law 2603 = .ok (.aload_n 2, 1) := by decide +kernel
theorem dL_law_2604 : decode cL_law 2604 = .ok (.invokevirtual 170, 3) := by decide +kernel
theorem dL_law_2607 : decode cL_law 2607 = .ok (.iload 6, 2) := by decide +kernel
theorem dL_law_2609 : decode cL_law 2609 = .ok (.if_icmp .eq 5, 3) := by decide +kernel
theorem dL_law_2612 : decode cL_law 2612 = .ok (.iconst 0, 1) := by decide +kernel
theorem dL_law_2613 : decode cL_law 2613 = .ok (.ireturn, 1) := by decide +kernel
theorem dL_law_2614 : decode cL_law 2614 = .ok (.iload 6, 2) := by decide +kernel
theorem dL_law_2616 : decode cL_law 2616 = .ok (.ifCond .ne 15, 3) := by decide +kernel
theorem dL_law_2619 : decode cL_law 2619 = .ok (.aload_n 3, 1) := by decide +kernel
theorem dL_law_2620 : decode cL_law 2620 = .ok (.iconst 0, 1) := by decide +kernel
theorem dL_law_2621 : decode cL_law 2621 = .ok (.laload, 1) := by decide +kernel
theorem dL_law_2622 : decode cL_law 2622 = .ok (.iload 7, 2) := by decide +kernel
theorem dL_law_2624 : decode cL_law 2624 = .ok (.i2l, 1) := by decide +kernel
theorem dL_law_2625 : decode cL_law 2625 = .ok (.lcmp, 1) := by decide +kernel
theorem dL_law_2626 : decode cL_law 2626 = .ok (.ifCond .eq 5, 3) := by decide +kernel
theorem dL_law_2629 : decode cL_law 2629 = .ok (.iconst 0, 1) := by decide +kernel
theorem dL_law_2630 : decode cL_law 2630 = .ok (.ireturn, 1) := by decide +kernel
theorem dL_law_2631 : decode cL_law 2631 = .ok (.goto 776, 3) := by decide +kernel
theorem dL_law_2634 : decode cL_law 2634 = .ok (.aload_n 1, 1) := by decide +kernel
theorem dL_law_2635 : decode cL_law 2635 = .ok (.invokevirtual 325, 3) := by decide +kernel
theorem dL_law_2638 : decode cL_law 2638 = .ok (.aload_n 2, 1) := by decide +kernel
theorem dL_law_2639 : decode cL_law 2639 = .ok (.invokevirtual 328, 3) := by decide +kernel
theorem dL_law_2642 : decode cL_law 2642 = .ok (.if_icmp .eq 765, 3) := by decide +kernel
theorem dL_law_2645 : decode cL_law 2645 = .ok (.iconst 0, 1) := by decide +kernel
theorem dL_law_2646 : decode cL_law 2646 = .ok (.ireturn, 1) := by decide +kernel
theorem dL_law_2647 : decode cL_law 2647 = .ok (.aload_n 1, 1) := by decide +kernel
theorem dL_law_2648 : decode cL_law 2648 = .ok (.invokevirtual 329, 3) := by decide +kernel
theorem dL_law_2651 : decode cL_law 2651 = .ok (.aload_n 2, 1) := by decide +kernel
theorem dL_law_2652 : decode cL_law 2652 = .ok (.invokevirtual 332, 3) := by decide +kernel
theorem dL_law_2655 : decode cL_law 2655 = .ok (.if_icmp .eq 752, 3) := by decide +kernel
theorem dL_law_2658 : decode cL_law 2658 = .ok (.iconst 0, 1) := by decide +kernel
theorem dL_law_2659 : decode cL_law 2659 = .ok (.ireturn, 1) := by decide +kernel
theorem dL_law_2660 : decode cL_law 2660 = .ok (.aload_n 1, 1) := by decide +kernel
theorem dL_law_2661 : decode cL_law 2661 = .ok (.invokevirtual 333, 3) := by decide +kernel
theorem dL_law_2664 : decode cL_law 2664 = .ok (.aload_n 2, 1) := by decide +kernel
theorem dL_law_2665 : decode cL_law 2665 = .ok (.invokevirtual 336, 3) := by decide +kernel
theorem dL_law_2668 : decode cL_law 2668 = .ok (.if_icmp .eq 739, 3) := by decide +kernel
theorem dL_law_2671 : decode cL_law 2671 = .ok (.iconst 0, 1) := by decide +kernel
theorem dL_law_2672 : decode cL_law 2672 = .ok (.ireturn, 1) := by decide +kernel
theorem dL_law_2673 : decode cL_law 2673 = .ok (.aload_n 1, 1) := by decide +kernel
theorem dL_law_2674 : decode cL_law 2674 = .ok (.invokevirtual 337, 3) := by decide +kernel
theorem dL_law_2677 : decode cL_law 2677 = .ok (.f2d, 1) := by decide +kernel
theorem dL_law_2678 : decode cL_law 2678 = .ok (.dstore 6, 2) := by decide +kernel
theorem dL_law_2680 : decode cL_law 2680 = .ok (.aload_n 2, 1) := by decide +kernel
theorem dL_law_2681 : decode cL_law 2681 = .ok (.invokevirtual 341, 3) := by decide +kernel
theorem dL_law_2684 : decode cL_law 2684 = .ok (.f2d, 1) := by decide +kernel
theorem dL_law_2685 : decode cL_law 2685 = .ok (.dstore 8, 2) := by decide +kernel
theorem dL_law_2687 : decode cL_law 2687 = .ok (.dload 6, 2) := by decide +kernel
theorem dL_law_2689 : decode cL_law 2689 = .ok (.dload 8, 2) := by decide +kernel
theorem dL_law_2691 : decode cL_law 2691 = .ok (.dcmp .l, 1) := by decide +kernel
theorem dL_law_2692 : decode cL_law 2692 = .ok (.ifCond .eq 21, 3) := by decide +kernel
theorem dL_law_2695 : decode cL_law 2695 = .ok (.dload 6, 2) := by decide +kernel
theorem dL_law_2697 : decode cL_law 2697 = .ok (.dload 6, 2) := by decide +kernel
theorem dL_law_2699 : decode cL_law 2699 = .ok (.dcmp .l, 1) := by decide +kernel
theorem dL_law_2700 : decode cL_law 2700 = .ok (.ifCond .eq 11, 3) := by decide +kernel
theorem dL_law_2703 : decode cL_law 2703 = .ok (.dload 8, 2) := by decide +kernel
theorem dL_law_2705 : decode cL_law 2705 = .ok (.dload 8, 2) := by decide +kernel
theorem dL_law_2707 : decode cL_law 2707 = .ok (.dcmp .l, 1) := by decide +kernel
theorem dL_law_2708 : decode cL_law 2708 = .ok (.ifCond .ne 5, 3) := by decide +kernel
theorem dL_law_2711 : decode cL_law 2711 = .ok (.iconst 0, 1) := by decide +kernel
theorem dL_law_2712 : decode cL_law 2712 = .ok (.ireturn, 1) := by decide +kernel
theorem dL_law_2713 : decode cL_law 2713 = .ok (.goto 694, 3) := by decide +kernel
theorem dL_law_2716 : decode cL_law 2716 = .ok (.aload_n 1, 1) := by decide +kernel
theorem dL_law_2717 : decode cL_law 2717 = .ok (.aload_n 0, 1) := by decide +kernel
theorem dL_law_2718 : decode cL_law 2718 = .ok (.iload 5, 2) := by decide +kernel
theorem dL_law_2720 : decode cL_law 2720 = .ok (.iconst 1, 1) := by decide +kernel
theorem dL_law_2721 : decode cL_law 2721 = .ok (.iadd, 1) := by decide +kernel
theorem dL_law_2722 : decode cL_law 2722 = .ok (.iaload, 1) := by decide +kernel
theorem dL_law_2723 : decode cL_law 2723 = .ok (.aload_n 0, 1) := by decide +kernel
theorem dL_law_2724 : decode cL_law 2724 = .ok (.iload 5, 2) := by decide +kernel
theorem dL_law_2726 : decode cL_law 2726 = .ok (.iconst 2, 1) := by decide +kernel
theorem dL_law_2727 : decode cL_law 2727 = .ok (.iadd, 1) := by decide +kernel
theorem dL_law_2728 : decode cL_law 2728 = .ok (.iaload, 1) := by decide +kernel
theorem dL_law_2729 : decode cL_law 2729 = .ok (.aload_n 0, 1) := by decide +kernel
theorem dL_law_2730 : decode cL_law 2730 = .ok (.iload 5, 2) := by decide +kernel
theorem dL_law_2732 : decode cL_law 2732 = .ok (.iconst 3, 1) := by decide +kernel
theorem dL_law_2733 : decode cL_law 2733 = .ok (.iadd, 1) := by decide +kernel
theorem dL_law_2734 : decode cL_law 2734 = .ok (.iaload, 1) := by decide +kernel
theorem dL_law_2735 : decode cL_law 2735 = .ok (.aload_n 3, 1) := by decide +kernel
theorem dL_law_2736 : decode cL_law 2736 = .ok (.invokestatic 342, 3) := by decide +kernel
theorem dL_law_2739 : decode cL_law 2739 = .ok (.istore 6, 2) := by decide +kernel
theorem dL_law_2741 : decode cL_law 2741 = .ok (.aload_n 2, 1) := by decide +kernel
theorem dL_law_2742 : decode cL_law 2742 = .ok (.aload_n 0, 1) := by decide +kernel
theorem dL_law_2743 : decode cL_law 2743 = .ok (.iload 5, 2) := by decide +kernel
theorem dL_law_2745 : decode cL_law 2745 = .ok (.iconst 1, 1) := by decide +kernel
theorem dL_law_2746 : decode cL_law 2746 = .ok (.iadd, 1) := by decide +kernel
theorem dL_law_2747 : decode cL_law 2747 = .ok (.iaload, 1) := by decide +kernel
theorem dL_law_2748 : decode cL_law 2748 = .ok (.aload_n 0, 1) := by decide +kernel
theorem dL_law_2749 : decode cL_law 2749 = .ok (.iload 5, 2) := by decide +kernel
theorem dL_law_2751 : decode cL_law 2751 = .ok (.iconst 2, 1) := by decide +kernel
theorem dL_law_2752 : decode cL_law 2752 = .ok (.iadd, 1) := by decide +kernel
theorem dL_law_2753 : decode cL_law 2753 = .ok (.iaload, 1) := by decide +kernel
theorem dL_law_2754 : decode cL_law 2754 = .ok (.aload_n 0, 1) := by decide +kernel
theorem dL_law_2755 : decode cL_law 2755 = .ok (.iload 5, 2) := by decide +kernel
theorem dL_law_2757 : decode cL_law 2757 = .ok (.iconst 3, 1) := by decide +kernel
theorem dL_law_2758 : decode cL_law 2758 = .ok (.iadd, 1) := by decide +kernel
theorem dL_law_2759 : decode cL_law 2759 = .ok (.iaload, 1) := by decide +kernel
theorem dL_law_2760 : decode cL_law 2760 = .ok (.invokevirtual 344, 3) := by decide +kernel
theorem dL_law_2763 : decode cL_law 2763 = .ok (.istore 7, 2) := by decide +kernel
theorem dL_law_2765 : decode cL_law 2765 = .ok (.aload_n 2, 1) := by decide +kernel
theorem dL_law_2766 : decode cL_law 2766 = .ok (.invokevirtual 170, 3) := by decide +kernel
theorem dL_law_2769 : decode cL_law 2769 = .ok (.iload 6, 2) := by decide +kernel
theorem dL_law_2771 : decode cL_law 2771 = .ok (.if_icmp .eq 5, 3) := by decide +kernel
theorem dL_law_2774 : decode cL_law 2774 = .ok (.iconst 0, 1) := by decide +kernel
theorem dL_law_2775 : decode cL_law 2775 = .ok (.ireturn, 1) := by decide +kernel
theorem dL_law_2776 : decode cL_law 2776 = .ok (.iload 6, 2) := by decide +kernel
theorem dL_law_2778 : decode cL_law 2778 = .ok (.ifCond .ne 15, 3) := by decide +kernel
theorem dL_law_2781 : decode cL_law 2781 = .ok (.aload_n 3, 1) := by decide +kernel
theorem dL_law_2782 : decode cL_law 2782 = .ok (.iconst 0, 1) := by decide +kernel
theorem dL_law_2783 : decode cL_law 2783 = .ok (.laload, 1) := by decide +kernel
theorem dL_law_2784 : decode cL_law 2784 = .ok (.iload 7, 2) := by decide +kernel
theorem dL_law_2786 : decode cL_law 2786 = .ok (.i2l, 1) := by decide +kernel
theorem dL_law_2787 : decode cL_law 2787 = .ok (.lcmp, 1) := by decide +kernel
theorem dL_law_2788 : decode cL_law 2788 = .ok (.ifCond .eq 5, 3) := by decide +kernel
theorem dL_law_2791 : decode cL_law 2791 = .ok (.iconst 0, 1) := by decide +kernel
theorem dL_law_2792 : decode cL_law 2792 = .ok (.ireturn, 1) := by decide +kernel
theorem dL_law_2793 : decode cL_law 2793 = .ok (.goto 614, 3) := by decide +kernel
theorem dL_law_2796 : decode cL_law 2796 = .ok (.aload_n 1, 1) := by decide +kernel
theorem dL_law_2797 : decode cL_law 2797 = .ok (.invokevirtual 345, 3) := by decide +kernel
theorem dL_law_2800 : decode cL_law 2800 = .ok (.aload_n 2, 1) := by decide +kernel
theorem dL_law_2801 : decode cL_law 2801 = .ok (.invokevirtual 348, 3) := by decide +kernel
theorem dL_law_2804 : decode cL_law 2804 = .ok (.if_icmp .eq 603, 3) := by decide +kernel
theorem dL_law_2807 : decode cL_law 2807 = .ok (.iconst 0, 1) := by decide +kernel
theorem dL_law_2808 : decode cL_law 2808 = .ok (.ireturn, 1) := by decide +kernel
theorem dL_law_2809 : decode cL_law 2809 = .ok (.aload_n 1, 1) := by decide +kernel
theorem dL_law_2810 : decode cL_law 2810 = .ok (.aload_n 3, 1) := by decide +kernel
theorem dL_law_2811 : decode cL_law 2811 = .ok (.invokestatic 349, 3) := by decide +kernel
theorem dL_law_2814 : decode cL_law 2814 = .ok (.istore 6, 2) := by decide +kernel
theorem dL_law_2816 : decode cL_law 2816 = .ok (.aload_n 2, 1) := by decide +kernel
theorem dL_law_2817 : decode cL_law 2817 = .ok (.invokevirtual 351, 3) := by decide +kernel
theorem dL_law_2820 : decode cL_law 2820 = .ok (.istore 7, 2) := by decide +kernel
theorem dL_law_2822 : decode cL_law 2822 = .ok (.aload_n 2, 1) := by decide +kernel
theorem dL_law_2823 : decode cL_law 2823 = .ok (.invokevirtual 170, 3) := by decide +kernel
theorem dL_law_2826 : decode cL_law 2826 = .ok (.iload 6, 2) := by decide +kernel
theorem dL_law_2828 : decode cL_law 2828 = .ok (.if_icmp .eq 5, 3) := by decide +kernel
theorem dL_law_2831 : decode cL_law 2831 = .ok (.iconst 0, 1) := by decide +kernel
theorem dL_law_2832 : decode cL_law 2832 = .ok (.ireturn, 1) := by decide +kernel
theorem dL_law_2833 : decode cL_law 2833 = .ok (.iload 6, 2) := by decide +kernel
theorem dL_law_2835 : decode cL_law 2835 = .ok (.ifCond .ne 15, 3) := by decide +kernel
theorem dL_law_2838 : decode cL_law 2838 = .ok (.aload_n 3, 1) := by decide +kernel
theorem dL_law_2839 : decode cL_law 2839 = .ok (.iconst 0, 1) := by decide +kernel
theorem dL_law_2840 : decode cL_law 2840 = .ok (.laload, 1) := by decide +kernel
theorem dL_law_2841 : decode cL_law 2841 = .ok (.iload 7, 2) := by decide +kernel
theorem dL_law_2843 : decode cL_law 2843 = .ok (.i2l, 1) := by decide +kernel
theorem dL_law_2844 : decode cL_law 2844 = .ok (.lcmp, 1) := by decide +kernel
theorem dL_law_2845 : decode cL_law 2845 = .ok (.ifCond .eq 5, 3) := by decide +kernel
theorem dL_law_2848 : decode cL_law 2848 = .ok (.iconst 0, 1) := by decide +kernel
theorem dL_law_2849 : decode cL_law 2849 = .ok (.ireturn, 1) := by decide +kernel
theorem dL_law_2850 : decode cL_law 2850 = .ok (.goto 557, 3) := by decide +kernel
theorem dL_law_2853 : decode cL_law 2853 = .ok (.aload_n 1, 1) := by decide +kernel
theorem dL_law_2854 : decode cL_law 2854 = .ok (.aload_n 0, 1) := by decide +kernel
theorem dL_law_2855 : decode cL_law 2855 = .ok (.iload 5, 2) := by decide +kernel
theorem dL_law_2857 : decode cL_law 2857 = .ok (.iconst 1, 1) := by decide +kernel
theorem dL_law_2858 : decode cL_law 2858 = .ok (.iadd, 1) := by decide +kernel
theorem dL_law_2859 : decode cL_law 2859 = .ok (.iaload, 1) := by decide +kernel
theorem dL_law_2860 : decode cL_law 2860 = .ok (.aload_n 3, 1) := by decide +kernel
theorem dL_law_2861 : decode cL_law 2861 = .ok (.invokestatic 352, 3) := by decide +kernel
theorem dL_law_2864 : decode cL_law 2864 = .ok (.istore 6, 2) := by decide +kernel
theorem dL_law_2866 : decode cL_law 2866 = .ok (.aload_n 2, 1) := by decide +kernel
theorem dL_law_2867 : decode cL_law 2867 = .ok (.aload_n 0, 1) := by decide +kernel
theorem dL_law_2868 : decode cL_law 2868 = .ok (.iload 5, 2) := by decide +kernel
theorem dL_law_2870 : decode cL_law 2870 = .ok (.iconst 1, 1) := by decide +kernel
theorem dL_law_2871 : decode cL_law 2871 = .ok (.iadd, 1) := by decide +kernel
theorem dL_law_2872 : decode cL_law 2872 = .ok (.iaload, 1) := by decide +kernel
theorem dL_law_2873 : decode cL_law 2873 = .ok (.invokevirtual 354, 3) := by decide +kernel
theorem dL_law_2876 : decode cL_law 2876 = .ok (.istore 7, 2) := by decide +kernel
theorem dL_law_2878 : decode cL_law 2878 = .ok (.aload_n 2, 1) := by decide +kernel
theorem dL_law_2879 : decode cL_law 2879 = .ok (.invokevirtual 170, 3) := by decide +kernel
theorem dL_law_2882 : decode cL_law 2882 = .ok (.iload 6, 2) := by decide +kernel
theorem dL_law_2884 : decode cL_law 2884 = .ok (.if_icmp .eq 5, 3) := by decide +kernel
theorem dL_law_2887 : decode cL_law 2887 = .ok (.iconst 0, 1) := by decide +kernel
theorem dL_law_2888 : decode cL_law 2888 = .ok (.ireturn, 1) := by decide +kernel
theorem dL_law_2889 : decode cL_law 2889 = .ok (.iload 6, 2) := by decide +kernel
theorem dL_law_2891 : decode cL_law 2891 = .ok (.ifCond .ne 15, 3) := by decide +kernel
theorem dL_law_2894 : decode cL_law 2894 = .ok (.aload_n 3, 1) := by decide +kernel
theorem dL_law_2895 : decode cL_law 2895 = .ok (.iconst 0, 1) := by decide +kernel
theorem dL_law_2896 : decode cL_law 2896 = .ok (.laload, 1) := by decide +kernel
theorem dL_law_2897 : decode cL_law 2897 = .ok (.iload 7, 2) := by decide +kernel
theorem dL_law_2899 : decode cL_law 2899 = .ok (.i2l, 1) := by decide +kernel
theorem dL_law_2900 : decode cL_law 2900 = .ok (.lcmp, 1) := by decide +kernel
theorem dL_law_2901 : decode cL_law 2901 = .ok (.ifCond .eq 5, 3) := by decide +kernel
theorem dL_law_2904 : decode cL_law 2904 = .ok (.iconst 0, 1) := by decide +kernel
theorem dL_law_2905 : decode cL_law 2905 = .ok (.ireturn, 1) := by decide +kernel
theorem dL_law_2906 : decode cL_law 2906 = .ok (.goto 501, 3) := by decide +kernel
theorem dL_law_2909 : decode cL_law 2909 = .ok (.aload_n 1, 1) := by decide +kernel
theorem dL_law_2910 : decode cL_law 2910 = .ok (.aload_n 0, 1) := by decide +kernel
theorem dL_law_2911 : decode cL_law 2911 = .ok (.iload 5, 2) := by decide +kernel
theorem dL_law_2913 : decode cL_law 2913 = .ok (.iconst 1, 1) := by decide +kernel
theorem dL_law_2914 : decode cL_law 2914 = .ok (.iadd, 1) := by decide +kernel
theorem dL_law_2915 : decode cL_law 2915 = .ok (.iaload, 1) := by decide +kernel
theorem dL_law_2916 : decode cL_law 2916 = .ok (.aload_n 0, 1) := by decide +kernel
theorem dL_law_2917 : decode cL_law 2917 = .ok (.iload 5, 2) := by decide +kernel
theorem dL_law_2919 : decode cL_law 2919 = .ok (.iconst 2, 1) := by decide +kernel
theorem dL_law_2920 : decode cL_law 2920 = .ok (.iadd, 1) := by decide +kernel
theorem dL_law_2921 : decode cL_law 2921 = .ok (.iaload, 1) := by decide +kernel
theorem dL_law_2922 : decode cL_law 2922 = .ok (.aload_n 0, 1) := by decide +kernel
theorem dL_law_2923 : decode cL_law 2923 = .ok (.iload 5, 2) := by decide +kernel
theorem dL_law_2925 : decode cL_law 2925 = .ok (.iconst 3, 1) := by decide +kernel
theorem dL_law_2926 : decode cL_law 2926 = .ok (.iadd, 1) := by decide +kernel
theorem dL_law_2927 : decode cL_law 2927 = .ok (.iaload, 1) := by decide +kernel
theorem dL_law_2928 : decode cL_law 2928 = .ok (.aload_n 3, 1) := by decide +kernel
theorem dL_law_2929 : decode cL_law 2929 = .ok (.invokestatic 355, 3) := by decide +kernel
theorem dL_law_2932 : decode cL_law 2932 = .ok (.istore 6, 2) := by decide +kernel
theorem dL_law_2934 : decode cL_law 2934 = .ok (.aload_n 2, 1) := by decide +kernel
theorem dL_law_2935 : decode cL_law 2935 = .ok (.aload_n 0, 1) := by decide +kernel
theorem dL_law_2936 : decode cL_law 2936 = .ok (.iload 5, 2) := by decide +kernel
theorem dL_law_2938 : decode cL_law 2938 = .ok (.iconst 1, 1) := by decide +kernel
theorem dL_law_2939 : decode cL_law 2939 = .ok (.iadd, 1) := by decide +kernel
theorem dL_law_2940 : decode cL_law 2940 = .ok (.iaload, 1) := by decide +kernel
theorem dL_law_2941 : decode cL_law 2941 = .ok (.aload_n 0, 1) := by decide +kernel
theorem dL_law_2942 : decode cL_law 2942 = .ok (.iload 5, 2) := by decide +kernel
theorem dL_law_2944 : decode cL_law 2944 = .ok (.iconst 2, 1) := by decide +kernel
theorem dL_law_2945 : decode cL_law 2945 = .ok (.iadd, 1) := by decide +kernel
theorem dL_law_2946 : decode cL_law 2946 = .ok (.iaload, 1) := by decide +kernel
theorem dL_law_2947 : decode cL_law 2947 = .ok (.aload_n 0, 1) := by decide +kernel
theorem dL_law_2948 : decode cL_law 2948 = .ok (.iload 5, 2) := by decide +kernel
theorem dL_law_2950 : decode cL_law 2950 = .ok (.iconst 3, 1) := by decide +kernel
theorem dL_law_2951 : decode cL_law 2951 = .ok (.iadd, 1) := by decide +kernel
theorem dL_law_2952 : decode cL_law 2952 = .ok (.iaload, 1) := by decide +kernel
theorem dL_law_2953 : decode cL_law 2953 = .ok (.invokevirtual 357, 3) := by decide +kernel
theorem dL_law_2956 : decode cL_law 2956 = .ok (.istore 7, 2) := by decide +kernel
theorem dL_law_2958 : decode cL_law 2958 = .ok (.aload_n 2, 1) := by decide +kernel
theorem dL_law_2959 : decode cL_law 2959 = .ok (.invokevirtual 170, 3) := by decide +kernel
theorem dL_law_2962 : decode cL_law 2962 = .ok (.iload 6, 2) := by decide +kernel
theorem dL_law_2964 : decode cL_law 2964 = .ok (.if_icmp .eq 5, 3) := by decide +kernel
theorem dL_law_2967 : decode cL_law 2967 = .ok (.iconst 0, 1) := by decide +kernel
theorem dL_law_2968 : decode cL_law 2968 = .ok (.ireturn, 1) := by decide +kernel
theorem dL_law_2969 : decode cL_law 2969 = .ok (.iload 6, 2) := by decide +kernel
theorem dL_law_2971 : decode cL_law 2971 = .ok (.ifCond .ne 15, 3) := by decide +kernel
theorem dL_law_2974 : decode cL_law 2974 = .ok (.aload_n 3, 1) := by decide +kernel
theorem dL_law_2975 : decode cL_law 2975 = .ok (.iconst 0, 1) := by decide +kernel
theorem dL_law_2976 : decode cL_law 2976 = .ok (.laload, 1) := by decide +kernel
theorem dL_law_2977 : decode cL_law 2977 = .ok (.iload 7, 2) := by decide +kernel
theorem dL_law_2979 : decode cL_law 2979 = .ok (.i2l, 1) := by decide +kernel
theorem dL_law_2980 : decode cL_law 2980 = .ok (.lcmp, 1) := by decide +kernel
theorem dL_law_2981 : decode cL_law 2981 = .ok (.ifCond .eq 5, 3) := by decide +kernel
theorem dL_law_2984 : decode cL_law 2984 = .ok (.iconst 0, 1) := by decide +kernel
theorem dL_law_2985 : decode cL_law 2985 = .ok (.ireturn, 1) := by decide +kernel
theorem dL_law_2986 : decode cL_law 2986 = .ok (.goto 421, 3) := by decide +kernel
theorem dL_law_2989 : decode cL_law 2989 = .ok (.aload_n 1, 1) := by decide +kernel
theorem dL_law_2990 : decode cL_law 2990 = .ok (.aload_n 0, 1) := by decide +kernel
theorem dL_law_2991 : decode cL_law 2991 = .ok (.iload 5, 2) := by decide +kernel
theorem dL_law_2993 : decode cL_law 2993 = .ok (.iconst 1, 1) := by decide +kernel
theorem dL_law_2994 : decode cL_law 2994 = .ok (.iadd, 1) := by decide +kernel
theorem dL_law_2995 : decode cL_law 2995 = .ok (.iaload, 1) := by decide +kernel
theorem dL_law_2996 : decode cL_law 2996 = .ok (.aload_n 3, 1) := by decide +kernel
theorem dL_law_2997 : decode cL_law 2997 = .ok (.invokestatic 358, 3) := by decide +kernel
theorem dL_law_3000 : decode cL_law 3000 = .ok (.istore 6, 2) := by decide +kernel
theorem dL_law_3002 : decode cL_law 3002 = .ok (.aload_n 2, 1) := by decide +kernel
theorem dL_law_3003 : decode cL_law 3003 = .ok (.aload_n 0, 1) := by decide +kernel
theorem dL_law_3004 : decode cL_law 3004 = .ok (.iload 5, 2) := by decide +kernel
theorem dL_law_3006 : decode cL_law 3006 = .ok (.iconst 1, 1) := by decide +kernel
theorem dL_law_3007 : decode cL_law 3007 = .ok (.iadd, 1) := by decide +kernel
theorem dL_law_3008 : decode cL_law 3008 = .ok (.iaload, 1) := by decide +kernel
theorem dL_law_3009 : decode cL_law 3009 = .ok (.invokevirtual 360, 3) := by decide +kernel
theorem dL_law_3012 : decode cL_law 3012 = .ok (.istore 7, 2) := by decide +kernel
theorem dL_law_3014 : decode cL_law 3014 = .ok (.aload_n 2, 1) := by decide +kernel
theorem dL_law_3015 : decode cL_law 3015 = .ok (.invokevirtual 170, 3) := by decide +kernel
theorem dL_law_3018 : decode cL_law 3018 = .ok (.iload 6, 2) := by decide +kernel
theorem dL_law_3020 : decode cL_law 3020 = .ok (.if_icmp .eq 5, 3) := by decide +kernel
theorem dL_law_3023 : decode cL_law 3023 = .ok (.iconst 0, 1) := by decide +kernel
theorem dL_law_3024 : decode cL_law 3024 = .ok (.ireturn, 1) := by decide +kernel
theorem dL_law_3025 : decode cL_law 3025 = .ok (.iload 6, 2) := by decide +kernel
theorem dL_law_3027 : decode cL_law 3027 = .ok (.ifCond .ne 15, 3) := by decide +kernel
theorem dL_law_3030 : decode cL_law 3030 = .ok (.aload_n 3, 1) := by decide +kernel
theorem dL_law_3031 : decode cL_law 3031 = .ok (.iconst 0, 1) := by decide +kernel
theorem dL_law_3032 : decode cL_law 3032 = .ok (.laload, 1) := by decide +kernel
theorem dL_law_3033 : decode cL_law 3033 = .ok (.iload 7, 2) := by decide +kernel
theorem dL_law_3035 : decode cL_law 3035 = .ok (.i2l, 1) := by decide +kernel
theorem dL_law_3036 : decode cL_law 3036 = .ok (.lcmp, 1) := by decide +kernel
theorem dL_law_3037 : decode cL_law 3037 = .ok (.ifCond .eq 5, 3) := by decide +kernel
theorem dL_law_3040 : decode cL_law 3040 = .ok (.iconst 0, 1) := by decide +kernel
theorem dL_law_3041 : decode cL_law 3041 = .ok (.ireturn, 1) := by decide +kernel
theorem dL_law_3042 : decode cL_law 3042 = .ok (.goto 365, 3) := by decide +kernel
theorem dL_law_3045 : decode cL_law 3045 = .ok (.aload_n 1, 1) := by decide +kernel
theorem dL_law_3046 : decode cL_law 3046 = .ok (.aload_n 0, 1) := by decide +kernel
theorem dL_law_3047 : decode cL_law 3047 = .ok (.iload 5, 2) := by decide +kernel
theorem dL_law_3049 : decode cL_law 3049 = .ok (.iconst 1, 1) := by decide +kernel
theorem dL_law_3050 : decode cL_law 3050 = .ok (.iadd, 1) := by decide +kernel
theorem dL_law_3051 : decode cL_law 3051 = .ok (.iaload, 1) := by decide +kernel
theorem dL_law_3052 : decode cL_law 3052 = .ok (.aload_n 0, 1) := by decide +kernel
theorem dL_law_3053 : decode cL_law 3053 = .ok (.iload 5, 2) := by decide +kernel
theorem dL_law_3055 : decode cL_law 3055 = .ok (.iconst 2, 1) := by decide +kernel
theorem dL_law_3056 : decode cL_law 3056 = .ok (.iadd, 1) := by decide +kernel
theorem dL_law_3057 : decode cL_law 3057 = .ok (.iaload, 1) := by decide +kernel
theorem dL_law_3058 : decode cL_law 3058 = .ok (.aload_n 3, 1) := by decide +kernel
theorem dL_law_3059 : decode cL_law 3059 = .ok (.invokestatic 361, 3) := by decide +kernel
theorem dL_law_3062 : decode cL_law 3062 = .ok (.istore 6, 2) := by decide +kernel
theorem dL_law_3064 : decode cL_law 3064 = .ok (.aload_n 2, 1) := by decide +kernel
theorem dL_law_3065 : decode cL_law 3065 = .ok (.aload_n 0, 1) := by decide +kernel
theorem dL_law_3066 : decode cL_law 3066 = .ok (.iload 5, 2) := by decide +kernel
theorem dL_law_3068 : decode cL_law 3068 = .ok (.iconst 1, 1) := by decide +kernel
theorem dL_law_3069 : decode cL_law 3069 = .ok (.iadd, 1) := by decide +kernel
theorem dL_law_3070 : decode cL_law 3070 = .ok (.iaload, 1) := by decide +kernel
theorem dL_law_3071 : decode cL_law 3071 = .ok (.aload_n 0, 1) := by decide +kernel
theorem dL_law_3072 : decode cL_law 3072 = .ok (.iload 5, 2) := by decide +kernel
theorem dL_law_3074 : decode cL_law 3074 = .ok (.iconst 2, 1) := by decide +kernel
theorem dL_law_3075 : decode cL_law 3075 = .ok (.iadd, 1) := by decide +kernel
theorem dL_law_3076 : decode cL_law 3076 = .ok (.iaload, 1) := by decide +kernel
theorem dL_law_3077 : decode cL_law 3077 = .ok (.invokevirtual 363, 3) := by decide +kernel
theorem dL_law_3080 : decode cL_law 3080 = .ok (.istore 7, 2) := by decide +kernel
theorem dL_law_3082 : decode cL_law 3082 = .ok (.aload_n 2, 1) := by decide +kernel
theorem dL_law_3083 : decode cL_law 3083 = .ok (.invokevirtual 170, 3) := by decide +kernel
theorem dL_law_3086 : decode cL_law 3086 = .ok (.iload 6, 2) := by decide +kernel
theorem dL_law_3088 : decode cL_law 3088 = .ok (.if_icmp .eq 5, 3) := by decide +kernel
theorem dL_law_3091 : decode cL_law 3091 = .ok (.iconst 0, 1) := by decide +kernel
theorem dL_law_3092 : decode cL_law 3092 = .ok (.ireturn, 1) := by decide +kernel
theorem dL_law_3093 : decode cL_law 3093 = .ok (.iload 6, 2) := by decide +kernel
theorem dL_law_3095 : decode cL_law 3095 = .ok (.ifCond .ne 15, 3) := by decide +kernel
theorem dL_law_3098 : decode cL_law 3098 = .ok (.aload_n 3, 1) := by decide +kernel
theorem dL_law_3099 : decode cL_law 3099 = .ok (.iconst 0, 1) := by decide +kernel
theorem dL_law_3100 : decode cL_law 3100 = .ok (.laload, 1) := by decide +kernel
theorem dL_law_3101 : decode cL_law 3101 = .ok (.iload 7, 2) := by decide +kernel
theorem dL_law_3103 : decode cL_law 3103 = .ok (.i2l, 1) := by decide +kernel
theorem dL_law_3104 : decode cL_law 3104 = .ok (.lcmp, 1) := by decide +kernel
theorem dL_law_3105 : decode cL_law 3105 = .ok (.ifCond .eq 5, 3) := by decide +kernel
theorem dL_law_3108 : decode cL_law 3108 = .ok (.iconst 0, 1) := by decide +kernel
theorem dL_law_3109 : decode cL_law 3109 = .ok (.ireturn, 1) := by decide +kernel
theorem dL_law_3110 : decode cL_law 3110 = .ok (.goto 297, 3) := by decide +kernel
theorem dL_law_3113 : decode cL_law 3113 = .ok (.aload_n 1, 1) := by decide +kernel
theorem dL_law_3114 : decode cL_law 3114 = .ok (.invokevirtual 364, 3) := by decide +kernel
theorem dL_law_3117 : decode cL_law 3117 = .ok (.aload_n 2, 1) := by decide +kernel
theorem dL_law_3118 : decode cL_law 3118 = .ok (.invokevirtual 367, 3) := by decide +kernel
theorem dL_law_3121 : decode cL_law 3121 = .ok (.if_icmp .eq 286, 3) := by decide +kernel
theorem dL_law_3124 : decode cL_law 3124 = .ok (.iconst 0, 1) := by decide +kernel
theorem dL_law_3125 : decode cL_law 3125 = .ok (.ireturn, 1) := by decide +kernel
theorem dL_law_3126 : decode cL_law 3126 = .ok (.aload_n 1, 1) := by decide +kernel
theorem dL_law_3127 : decode cL_law 3127 = .ok (.aload_n 0, 1) := by decide +kernel
theorem dL_law_3128 : decode cL_law 3128 = .ok (.iload 5, 2) := by decide +kernel
theorem dL_law_3130 : decode cL_law 3130 = .ok (.iconst 1, 1) := by decide +kernel
theorem dL_law_3131 : decode cL_law 3131 = .ok (.iadd, 1) := by decide +kernel
theorem dL_law_3132 : decode cL_law 3132 = .ok (.iaload, 1) := by decide +kernel
theorem dL_law_3133 : decode cL_law 3133 = .ok (.aload_n 3, 1) := by decide +kernel
theorem dL_law_3134 : decode cL_law 3134 = .ok (.invokestatic 368, 3) := by decide +kernel
theorem dL_law_3137 : decode cL_law 3137 = .ok (.istore 6, 2) := by decide +kernel
theorem dL_law_3139 : decode cL_law 3139 = .ok (.aload_n 2, 1) := by decide +kernel
theorem dL_law_3140 : decode cL_law 3140 = .ok (.aload_n 0, 1) := by decide +kernel
theorem dL_law_3141 : decode cL_law 3141 = .ok (.iload 5, 2) := by decide +kernel
theorem dL_law_3143 : decode cL_law 3143 = .ok (.iconst 1, 1) := by decide +kernel
theorem dL_law_3144 : decode cL_law 3144 = .ok (.iadd, 1) := by decide +kernel
theorem dL_law_3145 : decode cL_law 3145 = .ok (.iaload, 1) := by decide +kernel
theorem dL_law_3146 : decode cL_law 3146 = .ok (.invokevirtual 370, 3) := by decide +kernel
theorem dL_law_3149 : decode cL_law 3149 = .ok (.istore 7, 2) := by decide +kernel
theorem dL_law_3151 : decode cL_law 3151 = .ok (.aload_n 2, 1) := by decide +kernel
theorem dL_law_3152 : decode cL_law 3152 = .ok (.invokevirtual 170, 3) := by decide +kernel
theorem dL_law_3155 : decode cL_law 3155 = .ok (.iload 6, 2) := by decide +kernel
theorem dL_law_3157 : decode cL_law 3157 = .ok (.if_icmp .eq 5, 3) := by decide +kernel
theorem dL_law_3160 : decode cL_law 3160 = .ok (.iconst 0, 1) := by decide +kernel
theorem dL_law_3161 : decode cL_law 3161 = .ok (.ireturn, 1) := by decide +kernel
theorem dL_law_3162 : decode cL_law 3162 = .ok (.iload 6, 2) := by decide +kernel
theorem dL_law_3164 : decode cL_law 3164 = .ok (.ifCond .ne 15, 3) := by decide +kernel
theorem dL_law_3167 : decode cL_law 3167 = .ok (.aload_n 3, 1) := by decide +kernel
theorem dL_law_3168 : decode cL_law 3168 = .ok (.iconst 0, 1) := by decide +kernel
theorem dL_law_3169 : decode cL_law 3169 = .ok (.laload, 1) := by decide +kernel
theorem dL_law_3170 : decode cL_law 3170 = .ok (.iload 7, 2) := by decide +kernel
theorem dL_law_3172 : decode cL_law 3172 = .ok (.i2l, 1) := by decide +kernel
theorem dL_law_3173 : decode cL_law 3173 = .ok (.lcmp, 1) := by decide +kernel
theorem dL_law_3174 : decode cL_law 3174 = .ok (.ifCond .eq 5, 3) := by decide +kernel
theorem dL_law_3177 : decode cL_law 3177 = .ok (.iconst 0, 1) := by decide +kernel
theorem dL_law_3178 : decode cL_law 3178 = .ok (.ireturn, 1) := by decide +kernel
theorem dL_law_3179 : decode cL_law 3179 = .ok (.goto 228, 3) := by decide +kernel
theorem dL_law_3182 : decode cL_law 3182 = .ok (.aload_n 1, 1) := by decide +kernel
theorem dL_law_3183 : decode cL_law 3183 = .ok (.aload_n 0, 1) := by decide +kernel
theorem dL_law_3184 : decode cL_law 3184 = .ok (.iload 5, 2) := by decide +kernel
theorem dL_law_3186 : decode cL_law 3186 = .ok (.iconst 1, 1) := by decide +kernel
theorem dL_law_3187 : decode cL_law 3187 = .ok (.iadd, 1) := by decide +kernel
theorem dL_law_3188 : decode cL_law 3188 = .ok (.iaload, 1) := by decide +kernel
theorem dL_law_3189 : decode cL_law 3189 = .ok (.aload_n 3, 1) := by decide +kernel
theorem dL_law_3190 : decode cL_law 3190 = .ok (.invokestatic 371, 3) := by decide +kernel
theorem dL_law_3193 : decode cL_law 3193 = .ok (.istore 6, 2) := by decide +kernel
theorem dL_law_3195 : decode cL_law 3195 = .ok (.aload_n 2, 1) := by decide +kernel
theorem dL_law_3196 : decode cL_law 3196 = .ok (.aload_n 0, 1) := by decide +kernel
theorem dL_law_3197 : decode cL_law 3197 = .ok (.iload 5, 2) := by decide +kernel
theorem dL_law_3199 : decode cL_law 3199 = .ok (.iconst 1, 1) := by decide +kernel
theorem dL_law_3200 : decode cL_law 3200 = .ok (.iadd, 1) := by decide +kernel
theorem dL_law_3201 : decode cL_law 3201 = .ok (.iaload, 1) := by decide +kernel
theorem dL_law_3202 : decode cL_law 3202 = .ok (.invokevirtual 373, 3) := by decide +kernel
theorem dL_law_3205 : decode cL_law 3205 = .ok (.istore 7, 2) := by decide +kernel
theorem dL_law_3207 : decode cL_law 3207 = .ok (.aload_n 2, 1) := by decide +kernel
theorem dL_law_3208 : decode cL_law 3208 = .ok (.invokevirtual 170, 3) := by decide +kernel
theorem dL_law_3211 : decode cL_law 3211 = .ok (.iload 6, 2) := by decide +kernel
theorem dL_law_3213 : decode cL_law 3213 = .ok (.if_icmp .eq 5, 3) := by decide +kernel
theorem dL_law_3216 : decode cL_law 3216 = .ok (.iconst 0, 1) := by decide +kernel
theorem dL_law_3217 : decode cL_law 3217 = .ok (.ireturn, 1) := by decide +kernel
theorem dL_law_3218 : decode cL_law 3218 = .ok (.iload 6, 2) := by decide +kernel
theorem dL_law_3220 : decode cL_law 3220 = .ok (.ifCond .ne 15, 3) := by decide +kernel
theorem dL_law_3223 : decode cL_law 3223 = .ok (.aload_n 3, 1) := by decide +kernel
theorem dL_law_3224 : decode cL_law 3224 = .ok (.iconst 0, 1) := by decide +kernel
theorem dL_law_3225 : decode cL_law 3225 = .ok (.laload, 1) := by decide +kernel
theorem dL_law_3226 : decode cL_law 3226 = .ok (.iload 7, 2) := by decide +kernel
theorem dL_law_3228 : decode cL_law 3228 = .ok (.i2l, 1) := by decide +kernel
theorem dL_law_3229 : decode cL_law 3229 = .ok (.lcmp, 1) := by decide +kernel
theorem dL_law_3230 : decode cL_law 3230 = .ok (.ifCond .eq 5, 3) := by decide +kernel
theorem dL_law_3233 : decode cL_law 3233 = .ok (.iconst 0, 1) := by decide +kernel
theorem dL_law_3234 : decode cL_law 3234 = .ok (.ireturn, 1) := by decide +kernel
theorem dL_law_3235 : decode cL_law 3235 = .ok (.goto 172, 3) := by decide +kernel
theorem dL_law_3238 : decode cL_law 3238 = .ok (.aload_n 1, 1) := by decide +kernel
theorem dL_law_3239 : decode cL_law 3239 = .ok (.aload_n 0, 1) := by decide +kernel
theorem dL_law_3240 : decode cL_law 3240 = .ok (.iload 5, 2) := by decide +kernel
theorem dL_law_3242 : decode cL_law 3242 = .ok (.iconst 1, 1) := by decide +kernel
theorem dL_law_3243 : decode cL_law 3243 = .ok (.iadd, 1) := by decide +kernel
theorem dL_law_3244 : decode cL_law 3244 = .ok (.iaload, 1) := by decide +kernel
theorem dL_law_3245 : decode cL_law 3245 = .ok (.aload_n 3, 1) := by decide +kernel
theorem dL_law_3246 : decode cL_law 3246 = .ok (.invokestatic 374, 3) := by decide +kernel
theorem dL_law_3249 : decode cL_law 3249 = .ok (.istore 6, 2) := by decide +kernel
theorem dL_law_3251 : decode cL_law 3251 = .ok (.aload_n 2, 1) := by decide +kernel
theorem dL_law_3252 : decode cL_law 3252 = .ok (.aload_n 0, 1) := by decide +kernel
theorem dL_law_3253 : decode cL_law 3253 = .ok (.iload 5, 2) := by decide +kernel
theorem dL_law_3255 : decode cL_law 3255 = .ok (.iconst 1, 1) := by decide +kernel
theorem dL_law_3256 : decode cL_law 3256 = .ok (.iadd, 1) := by decide +kernel
theorem dL_law_3257 : decode cL_law 3257 = .ok (.iaload, 1) := by decide +kernel
theorem dL_law_3258 : decode cL_law 3258 = .ok (.invokevirtual 376, 3) := by decide +kernel
theorem dL_law_3261 : decode cL_law 3261 = .ok (.istore 7, 2) := by decide +kernel
theorem dL_law_3263 : decode cL_law 3263 = .ok (.aload_n 2, 1) := by decide +kernel
theorem dL_law_3264 : decode cL_law 3264 = .ok (.invokevirtual 170, 3) := by decide +kernel
theorem dL_law_3267 : decode cL_law 3267 = .ok (.iload 6, 2) := by decide +kernel
theorem dL_law_3269 : decode cL_law 3269 = .ok (.if_icmp .eq 5, 3) := by decide +kernel
theorem dL_law_3272 : decode cL_law 3272 = .ok (.iconst 0, 1) := by decide +kernel
theorem dL_law_3273 : decode cL_law 3273 = .ok (.ireturn, 1) := by decide +kernel
theorem dL_law_3274 : decode cL_law 3274 = .ok (.iload 6, 2) := by decide +kernel
theorem dL_law_3276 : decode cL_law 3276 = .ok (.ifCond .ne 15, 3) := by decide +kernel
theorem dL_law_3279 : decode cL_law 3279 = .ok (.aload_n 3, 1) := by decide +kernel
theorem dL_law_3280 : decode cL_law 3280 = .ok (.iconst 0, 1) := by decide +kernel
theorem dL_law_3281 : decode cL_law 3281 = .ok (.laload, 1) := by decide +kernel
theorem dL_law_3282 : decode cL_law 3282 = .ok (.iload 7, 2) := by decide +kernel
theorem dL_law_3284 : decode cL_law 3284 = .ok (.i2l, 1) := by decide +kernel
theorem dL_law_3285 : decode cL_law 3285 = .ok (.lcmp, 1) := by decide +kernel
theorem dL_law_3286 : decode cL_law 3286 = .ok (.ifCond .eq 5, 3) := by decide +kernel
theorem dL_law_3289 : decode cL_law 3289 = .ok (.iconst 0, 1) := by decide +kernel
theorem dL_law_3290 : decode cL_law 3290 = .ok (.ireturn, 1) := by decide +kernel
theorem dL_law_3291 : decode cL_law 3291 = .ok (.goto 116, 3) := by decide +kernel
theorem dL_law_3294 : decode cL_law 3294 = .ok (.aload_n 1, 1) := by decide +kernel
theorem dL_law_3295 : decode cL_law 3295 = .ok (.aload_n 0, 1) := by decide +kernel
theorem dL_law_3296 : decode cL_law 3296 = .ok (.iload 5, 2) := by decide +kernel
theorem dL_law_3298 : decode cL_law 3298 = .ok (.iconst 1, 1) := by decide +kernel
theorem dL_law_3299 : decode cL_law 3299 = .ok (.iadd, 1) := by decide +kernel
theorem dL_law_3300 : decode cL_law 3300 = .ok (.iaload, 1) := by decide +kernel
theorem dL_law_3301 : decode cL_law 3301 = .ok (.aload_n 3, 1) := by decide +kernel
theorem dL_law_3302 : decode cL_law 3302 = .ok (.invokestatic 377, 3) := by decide +kernel
theorem dL_law_3305 : decode cL_law 3305 = .ok (.istore 6, 2) := by decide +kernel
theorem dL_law_3307 : decode cL_law 3307 = .ok (.aload_n 2, 1) := by decide +kernel
theorem dL_law_3308 : decode cL_law 3308 = .ok (.aload_n 0, 1) := by decide +kernel
theorem dL_law_3309 : decode cL_law 3309 = .ok (.iload 5, 2) := by decide +kernel
theorem dL_law_3311 : decode cL_law 3311 = .ok (.iconst 1, 1) := by decide +kernel
theorem dL_law_3312 : decode cL_law 3312 = .ok (.iadd, 1) := by decide +kernel
theorem dL_law_3313 : decode cL_law 3313 = .ok (.iaload, 1) := by decide +kernel
theorem dL_law_3314 : decode cL_law 3314 = .ok (.invokevirtual 379, 3) := by decide +kernel
theorem dL_law_3317 : decode cL_law 3317 = .ok (.istore 7, 2) := by decide +kernel
theorem dL_law_3319 : decode cL_law 3319 = .ok (.aload_n 2, 1) := by decide +kernel
theorem dL_law_3320 : decode cL_law 3320 = .ok (.invokevirtual 170, 3) := by decide +kernel
theorem dL_law_3323 : decode cL_law 3323 = .ok (.iload 6, 2) := by decide +kernel
theorem dL_law_3325 : decode cL_law 3325 = .ok (.if_icmp .eq 5, 3) := by decide +kernel
theorem dL_law_3328 : decode cL_law 3328 = .ok (.iconst 0, 1) := by decide +kernel
theorem dL_law_3329 : decode cL_law 3329 = .ok (.ireturn, 1) := by decide +kernel
theorem dL_law_3330 : decode cL_law 3330 = .ok (.iload 6, 2) := by decide +kernel
theorem dL_law_3332 : decode cL_law 3332 = .ok (.ifCond .ne 15, 3) := by decide +kernel
theorem dL_law_3335 : decode cL_law 3335 = .ok (.aload_n 3, 1) := by decide +kernel
theorem dL_law_3336 : decode cL_law 3336 = .ok (.iconst 0, 1) := by decide +kernel
theorem dL_law_3337 : decode cL_law 3337 = .ok (.laload, 1) := by decide +kernel
theorem dL_law_3338 : decode cL_law 3338 = .ok (.iload 7, 2) := by decide +kernel
theorem dL_law_3340 : decode cL_law 3340 = .ok (.i2l, 1) := by decide +kernel
theorem dL_law_3341 : decode cL_law 3341 = .ok (.lcmp, 1) := by decide +kernel
theorem dL_law_3342 : decode cL_law 3342 = .ok (.ifCond .eq 5, 3) := by decide +kernel
theorem dL_law_3345 : decode cL_law 3345 = .ok (.iconst 0, 1) := by decide +kernel
theorem dL_law_3346 : decode cL_law 3346 = .ok (.ireturn, 1) := by decide +kernel
theorem dL_law_3347 : decode cL_law 3347 = .ok (.goto 60, 3) := by decide +kernel
theorem dL_law_3350 : decode cL_law 3350 = .ok (.aload_n 1, 1) := by decide +kernel
theorem dL_law_3351 : decode cL_law 3351 = .ok (.aload_n 3, 1) := by decide +kernel
theorem dL_law_3352 : decode cL_law 3352 = .ok (.invokestatic 380, 3) := by decide +kernel
theorem dL_law_3355 : decode cL_law 3355 = .ok (.istore 6, 2) := by decide +kernel
theorem dL_law_3357 : decode cL_law 3357 = .ok (.aload_n 2, 1) := by decide +kernel
theorem dL_law_3358 : decode cL_law 3358 = .ok (.invokevirtual 382, 3) := by decide +kernel
theorem dL_law_3361 : decode cL_law 3361 = .ok (.istore 7, 2) := by decide +kernel
theorem dL_law_3363 : decode cL_law 3363 = .ok (.aload_n 2, 1) := by decide +kernel
theorem dL_law_3364 : decode cL_law 3364 = .ok (.invokevirtual 170, 3) := by decide +kernel
theorem dL_law_3367 : decode cL_law 3367 = .ok (.iload 6, 2) := by decide +kernel
theorem dL_law_3369 : decode cL_law 3369 = .ok (.if_icmp .eq 5, 3) := by decide +kernel
theorem dL_law_3372 : decode cL_law 3372 = .ok (.iconst 0, 1) := by decide +kernel
theorem dL_law_3373 : decode cL_law 3373 = .ok (.ireturn, 1) := by decide +kernel
theorem dL_law_3374 : decode cL_law 3374 = .ok (.iload 6, 2) := by decide +kernel
theorem dL_law_3376 : decode cL_law 3376 = .ok (.ifCond .ne 15, 3) := by decide +kernel
theorem dL_law_3379 : decode cL_law 3379 = .ok (.aload_n 3, 1) := by decide +kernel
theorem dL_law_3380 : decode cL_law 3380 = .ok (.iconst 0, 1) := by decide +kernel
theorem dL_law_3381 : decode cL_law 3381 = .ok (.laload, 1) := by decide +kernel
theorem dL_law_3382 : decode cL_law 3382 = .ok (.iload 7, 2) := by decide +kernel
theorem dL_law_3384 : decode cL_law 3384 = .ok (.i2l, 1) := by decide +kernel
theorem dL_law_3385 : decode cL_law 3385 = .ok (.lcmp, 1) := by decide +kernel
theorem dL_law_3386 : decode cL_law 3386 = .ok (.ifCond .eq 5, 3) := by decide +kernel
theorem dL_law_3389 : decode cL_law 3389 = .ok (.iconst 0, 1) := by decide +kernel
theorem dL_law_3390 : decode cL_law 3390 = .ok (.ireturn, 1) := by decide +kernel
theorem dL_law_3391 : decode cL_law 3391 = .ok (.goto 16, 3) := by decide +kernel
theorem dL_law_3394 : decode cL_law 3394 = .ok (.aload_n 1, 1) := by decide +kernel
theorem dL_law_3395 : decode cL_law 3395 = .ok (.invokevirtual 383, 3) := by decide +kernel
theorem dL_law_3398 : decode cL_law 3398 = .ok (.aload_n 2, 1) := by decide +kernel
theorem dL_law_3399 : decode cL_law 3399 = .ok (.invokevirtual 386, 3) := by decide +kernel
theorem dL_law_3402 : decode cL_law 3402 = .ok (.if_icmp .eq 5, 3) := by decide +kernel
theorem dL_law_3405 : decode cL_law 3405 = .ok (.iconst 0, 1) := by decide +kernel
theorem dL_law_3406 : decode cL_law 3406 = .ok (.ireturn, 1) := by decide +kernel
theorem dL_law_3407 : decode cL_law 3407 = .ok (.iinc 5 6, 3) := by decide +kernel
theorem dL_law_3410 : decode cL_law 3410 = .ok (.goto (-3382), 3) := by decide +kernel
theorem dL_law_3413 : decode cL_law 3413 = .ok (.iconst 1, 1) := by decide +kernel
theorem dL_law_3414 : decode cL_law 3414 = .ok (.ireturn, 1) := by decide +kernel
abbrev vwCl : List vw_C := [(RX0, TX0, 3), (RX1, TX1, 3), (RX2, TX2, 7), (RX3, TX3, 3), (RX4, TX4, 3), (RX5, TX5, 5), (RX6, TX6, 3), (RX7, TX7, 3), (RX8, TX8, 2), (RX9, TX9, 5), (RX10, TX10, 8), (RX11, TX11, 21)]
