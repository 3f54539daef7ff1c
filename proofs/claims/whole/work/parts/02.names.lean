def RX0 : String := "EveryNinth$Almanac"
def TX0 : u_T := fun k => match k with
  | 0 => ("EveryNinth$Almanac", "rota", "LEveryNinth$Rota;", true)
  | 1 => ("EveryNinth$Almanac", "texts", "[LEveryNinth$Text;", true)
  | 2 => ("EveryNinth$Almanac", "reckoner", "LEveryNinth$Reckoner;", true)
  | 3 => ("EveryNinth$Almanac", "shifted", "LEveryNinth$Thing;", true)
  | 4 => ("EveryNinth$Almanac", "comers", "[I", true)
  | _ => ("EveryNinth$Almanac", "holidays", "I", false)
def tyX0 : Nat → FieldType := fun k => match k with
  | 0 => .object "EveryNinth$Rota"
  | 1 => .array (.object "EveryNinth$Text")
  | 2 => .object "EveryNinth$Reckoner"
  | 3 => .object "EveryNinth$Thing"
  | 4 => .array .int
  | _ => .int
abbrev wsX00 : List Cond := u_ws RX0 TX0 6
theorem nmX0 : ∀ a, a < 6 → ∀ b, b < 6 → a ≠ b → (TX0 a).2.1 ≠ (TX0 b).2.1 := by decide +kernel
theorem tyX0_ok : ∀ k, k < 6 → parseFieldDescriptor (TX0 k).2.2.1 = some (tyX0 k) := by decide +kernel
abbrev cX0_init : ByteArray := prog_2_method_1_code
def yX0_init : MethodName := ⟨RX0, "<init>", "(LEveryNinth$Rota;[LEveryNinth$Text;)V"⟩
abbrev cX0_fill : ByteArray := prog_2_method_2_code
def yX0_fill : MethodName := ⟨RX0, "fill", "(I)V"⟩
abbrev cX0_putShifted : ByteArray := prog_2_method_3_code
def yX0_putShifted : MethodName := ⟨RX0, "putShifted", "(II)V"⟩
abbrev cX0_comesWithOthers : ByteArray := prog_2_method_4_code
def yX0_comesWithOthers : MethodName := ⟨RX0, "comesWithOthers", "(I)Z"⟩
abbrev cX0_costsOf : ByteArray := prog_2_method_5_code
def yX0_costsOf : MethodName := ⟨RX0, "costsOf", "(I)I"⟩
abbrev cX0_mindsOf : ByteArray := prog_2_method_6_code
def yX0_mindsOf : MethodName := ⟨RX0, "mindsOf", "(II)I"⟩
abbrev cX0_rule : ByteArray := prog_2_method_7_code
def yX0_rule : MethodName := ⟨RX0, "rule", "()LEveryNinth$Text;"⟩
abbrev cX0_restAhead : ByteArray := prog_2_method_8_code
def yX0_restAhead : MethodName := ⟨RX0, "restAhead", "(I)I"⟩
abbrev cX0_allCosts : ByteArray := prog_2_method_9_code
def yX0_allCosts : MethodName := ⟨RX0, "allCosts", "()I"⟩
abbrev cX0_daysWith : ByteArray := prog_2_method_10_code
def yX0_daysWith : MethodName := ⟨RX0, "daysWith", "(I)I"⟩
abbrev cX0_longestRest : ByteArray := prog_2_method_11_code
def yX0_longestRest : MethodName := ⟨RX0, "longestRest", "()I"⟩
abbrev cX0_restFrom : ByteArray := prog_2_method_12_code
def yX0_restFrom : MethodName := ⟨RX0, "restFrom", "(I)I"⟩
abbrev cX0_fullestWeek : ByteArray := prog_2_method_13_code
def yX0_fullestWeek : MethodName := ⟨RX0, "fullestWeek", "()I"⟩
abbrev cX0_comersInWeek : ByteArray := prog_2_method_14_code
def yX0_comersInWeek : MethodName := ⟨RX0, "comersInWeek", "(I)I"⟩
abbrev cX0_dearestDay : ByteArray := prog_2_method_15_code
def yX0_dearestDay : MethodName := ⟨RX0, "dearestDay", "()I"⟩
def RX1 : String := "EveryNinth$Diary"
def TX1 : u_T := fun k => match k with
  | 0 => ("EveryNinth$Diary", "days", "[I", true)
  | 1 => ("EveryNinth$Diary", "size", "I", false)
  | 2 => ("EveryNinth$Diary", "first", "I", false)
  | 3 => ("EveryNinth$Diary", "last", "I", false)
  | _ => ("EveryNinth$Diary", "isTold", "[Z", true)
def tyX1 : Nat → FieldType := fun k => match k with
  | 0 => .array .int
  | 1 => .int
  | 2 => .int
  | 3 => .int
  | _ => .array .boolean
abbrev wsX10 : List Cond := u_ws RX1 TX1 5
theorem nmX1 : ∀ a, a < 5 → ∀ b, b < 5 → a ≠ b → (TX1 a).2.1 ≠ (TX1 b).2.1 := by decide +kernel
theorem tyX1_ok : ∀ k, k < 5 → parseFieldDescriptor (TX1 k).2.2.1 = some (tyX1 k) := by decide +kernel
abbrev cX1_init : ByteArray := prog_3_method_1_code
def yX1_init : MethodName := ⟨RX1, "<init>", "()V"⟩
abbrev cX1_read : ByteArray := prog_3_method_2_code
def yX1_read : MethodName := ⟨RX1, "read", "(LEveryNinth$Sheet;)Z"⟩
abbrev cX1_clear : ByteArray := prog_3_method_3_code
def yX1_clear : MethodName := ⟨RX1, "clear", "()V"⟩
abbrev cX1_isOf : ByteArray := prog_3_method_4_code
def yX1_isOf : MethodName := ⟨RX1, "isOf", "(LEveryNinth$Thing;I)Z"⟩
abbrev cX1_periods : ByteArray := prog_3_method_5_code
def yX1_periods : MethodName := ⟨RX1, "periods", "()J"⟩
abbrev cX1_twoRounds : ByteArray := prog_3_method_6_code
def yX1_twoRounds : MethodName := ⟨RX1, "twoRounds", "()I"⟩
abbrev cX1_tellsRound : ByteArray := prog_3_method_7_code
def yX1_tellsRound : MethodName := ⟨RX1, "tellsRound", "(II)Z"⟩
abbrev cX1_secondRounds : ByteArray := prog_3_method_8_code
def yX1_secondRounds : MethodName := ⟨RX1, "secondRounds", "(I)I"⟩
abbrev cX1_firstOutside : ByteArray := prog_3_method_9_code
def yX1_firstOutside : MethodName := ⟨RX1, "firstOutside", "(I)I"⟩
abbrev cX1_areAll : ByteArray := prog_3_method_10_code
def yX1_areAll : MethodName := ⟨RX1, "areAll", "(III)Z"⟩
abbrev cX1_isBehind : ByteArray := prog_3_method_11_code
def yX1_isBehind : MethodName := ⟨RX1, "isBehind", "(III)Z"⟩
def RX2 : String := "EveryNinth$Meeting"
def TX2 : u_T := fun k => match k with
  | 0 => ("EveryNinth$Meeting", "first", "J", false)
  | _ => ("EveryNinth$Meeting", "step", "J", false)
def tyX2 : Nat → FieldType := fun k => match k with
  | 0 => .long
  | _ => .long
abbrev wsX20 : List Cond := u_ws RX2 TX2 2
theorem nmX2 : ∀ a, a < 2 → ∀ b, b < 2 → a ≠ b → (TX2 a).2.1 ≠ (TX2 b).2.1 := by decide +kernel
theorem tyX2_ok : ∀ k, k < 2 → parseFieldDescriptor (TX2 k).2.2.1 = some (tyX2 k) := by decide +kernel
abbrev cX2_init : ByteArray := prog_4_method_1_code
def yX2_init : MethodName := ⟨RX2, "<init>", "()V"⟩
abbrev cX2_start : ByteArray := prog_4_method_2_code
def yX2_start : MethodName := ⟨RX2, "start", "()V"⟩
abbrev cX2_takeIn : ByteArray := prog_4_method_3_code
def yX2_takeIn : MethodName := ⟨RX2, "takeIn", "(LEveryNinth$Thing;)Z"⟩
abbrev cX2_notAhead : ByteArray := prog_4_method_4_code
def yX2_notAhead : MethodName := ⟨RX2, "notAhead", "(JI)J"⟩
def RX3 : String := "EveryNinth$Reader"
def TX3 : u_T := fun k => match k with
  | 0 => ("EveryNinth$Reader", "tape", "[I", true)
  | 1 => ("EveryNinth$Reader", "size", "I", false)
  | 2 => ("EveryNinth$Reader", "at", "I", false)
  | 3 => ("EveryNinth$Reader", "start", "I", false)
  | 4 => ("EveryNinth$Reader", "token", "I", false)
  | 5 => ("EveryNinth$Reader", "value", "I", false)
  | 6 => ("EveryNinth$Reader", "fault", "I", false)
  | _ => ("EveryNinth$Reader", "target", "LEveryNinth$Text;", false)
def tyX3 : Nat → FieldType := fun k => match k with
  | 0 => .array .int
  | 1 => .int
  | 2 => .int
  | 3 => .int
  | 4 => .int
  | 5 => .int
  | 6 => .int
  | _ => .object "EveryNinth$Text"
abbrev wsX30 : List Cond := u_ws RX3 TX3 8
theorem nmX3 : ∀ a, a < 8 → ∀ b, b < 8 → a ≠ b → (TX3 a).2.1 ≠ (TX3 b).2.1 := by decide +kernel
theorem tyX3_ok : ∀ k, k < 8 → parseFieldDescriptor (TX3 k).2.2.1 = some (tyX3 k) := by decide +kernel
abbrev cX3_init : ByteArray := prog_5_method_1_code
def yX3_init : MethodName := ⟨RX3, "<init>", "()V"⟩
abbrev cX3_add : ByteArray := prog_5_method_2_code
def yX3_add : MethodName := ⟨RX3, "add", "(I)I"⟩
abbrev cX3_clear : ByteArray := prog_5_method_3_code
def yX3_clear : MethodName := ⟨RX3, "clear", "()V"⟩
abbrev cX3_read : ByteArray := prog_5_method_4_code
def yX3_read : MethodName := ⟨RX3, "read", "(LEveryNinth$Text;)I"⟩
abbrev cX3_need : ByteArray := prog_5_method_5_code
def yX3_need : MethodName := ⟨RX3, "need", "(I)V"⟩
abbrev cX3_fail : ByteArray := prog_5_method_6_code
def yX3_fail : MethodName := ⟨RX3, "fail", "()V"⟩
abbrev cX3_readOrs : ByteArray := prog_5_method_7_code
def yX3_readOrs : MethodName := ⟨RX3, "readOrs", "(I)V"⟩
abbrev cX3_readAnds : ByteArray := prog_5_method_8_code
def yX3_readAnds : MethodName := ⟨RX3, "readAnds", "(I)V"⟩
abbrev cX3_readNot : ByteArray := prog_5_method_9_code
def yX3_readNot : MethodName := ⟨RX3, "readNot", "(I)V"⟩
abbrev cX3_readComparison : ByteArray := prog_5_method_10_code
def yX3_readComparison : MethodName := ⟨RX3, "readComparison", "(I)V"⟩
abbrev cX3_readSum : ByteArray := prog_5_method_11_code
def yX3_readSum : MethodName := ⟨RX3, "readSum", "(I)V"⟩
abbrev cX3_readTerm : ByteArray := prog_5_method_12_code
def yX3_readTerm : MethodName := ⟨RX3, "readTerm", "(I)V"⟩
abbrev cX3_readOne : ByteArray := prog_5_method_13_code
def yX3_readOne : MethodName := ⟨RX3, "readOne", "(I)V"⟩
abbrev cX3_advance : ByteArray := prog_5_method_14_code
def yX3_advance : MethodName := ⟨RX3, "advance", "()V"⟩
abbrev cX3_byteAt : ByteArray := prog_5_method_15_code
def yX3_byteAt : MethodName := ⟨RX3, "byteAt", "(I)I"⟩
abbrev cX3_isBlank : ByteArray := prog_5_method_16_code
def yX3_isBlank : MethodName := ⟨RX3, "isBlank", "(I)Z"⟩
abbrev cX3_takeWord : ByteArray := prog_5_method_17_code
def yX3_takeWord : MethodName := ⟨RX3, "takeWord", "()V"⟩
abbrev cX3_stands : ByteArray := prog_5_method_18_code
def yX3_stands : MethodName := ⟨RX3, "stands", "(Ljava/lang/String;)Z"⟩
abbrev cX3_spelling : ByteArray := prog_5_method_19_code
def yX3_spelling : MethodName := ⟨RX3, "spelling", "(I)Ljava/lang/String;"⟩
abbrev cX3_takeNumeral : ByteArray := prog_5_method_20_code
def yX3_takeNumeral : MethodName := ⟨RX3, "takeNumeral", "()V"⟩
def RX4 : String := "EveryNinth$Reckoner"
def TX4 : u_T := fun k => match k with
  | 0 => ("EveryNinth$Reckoner", "names", "[I", true)
  | 1 => ("EveryNinth$Reckoner", "stack", "[I", true)
  | _ => ("EveryNinth$Reckoner", "height", "I", false)
def tyX4 : Nat → FieldType := fun k => match k with
  | 0 => .array .int
  | 1 => .array .int
  | _ => .int
abbrev wsX40 : List Cond := u_ws RX4 TX4 3
theorem nmX4 : ∀ a, a < 3 → ∀ b, b < 3 → a ≠ b → (TX4 a).2.1 ≠ (TX4 b).2.1 := by decide +kernel
theorem tyX4_ok : ∀ k, k < 3 → parseFieldDescriptor (TX4 k).2.2.1 = some (tyX4 k) := by decide +kernel
abbrev cX4_init : ByteArray := prog_6_method_1_code
def yX4_init : MethodName := ⟨RX4, "<init>", "()V"⟩
abbrev cX4_nameDay : ByteArray := prog_6_method_2_code
def yX4_nameDay : MethodName := ⟨RX4, "nameDay", "(III)V"⟩
abbrev cX4_nameThing : ByteArray := prog_6_method_3_code
def yX4_nameThing : MethodName := ⟨RX4, "nameThing", "(III)V"⟩
abbrev cX4_tells : ByteArray := prog_6_method_4_code
def yX4_tells : MethodName := ⟨RX4, "tells", "(LEveryNinth$Text;I)I"⟩
abbrev cX4_take : ByteArray := prog_6_method_5_code
def yX4_take : MethodName := ⟨RX4, "take", "(I)V"⟩
abbrev cX4_push : ByteArray := prog_6_method_6_code
def yX4_push : MethodName := ⟨RX4, "push", "(I)V"⟩
abbrev cX4_change : ByteArray := prog_6_method_7_code
def yX4_change : MethodName := ⟨RX4, "change", "(I)V"⟩
abbrev cX4_combine : ByteArray := prog_6_method_8_code
def yX4_combine : MethodName := ⟨RX4, "combine", "(I)V"⟩
abbrev cX4_combined : ByteArray := prog_6_method_9_code
def yX4_combined : MethodName := ⟨RX4, "combined", "(III)I"⟩
def RX5 : String := "EveryNinth$Rota"
def TX5 : u_T := fun k => match k with
  | 0 => ("EveryNinth$Rota", "things", "[LEveryNinth$Thing;", true)
  | 1 => ("EveryNinth$Rota", "size", "I", false)
  | 2 => ("EveryNinth$Rota", "holidays", "I", false)
  | _ => ("EveryNinth$Rota", "rule", "I", false)
def tyX5 : Nat → FieldType := fun k => match k with
  | 0 => .array (.object "EveryNinth$Thing")
  | 1 => .int
  | 2 => .int
  | _ => .int
abbrev wsX50 : List Cond := u_ws RX5 TX5 4
theorem nmX5 : ∀ a, a < 4 → ∀ b, b < 4 → a ≠ b → (TX5 a).2.1 ≠ (TX5 b).2.1 := by decide +kernel
theorem tyX5_ok : ∀ k, k < 4 → parseFieldDescriptor (TX5 k).2.2.1 = some (tyX5 k) := by decide +kernel
abbrev cX5_init : ByteArray := prog_7_method_1_code
def yX5_init : MethodName := ⟨RX5, "<init>", "()V"⟩
abbrev cX5_has : ByteArray := prog_7_method_2_code
def yX5_has : MethodName := ⟨RX5, "has", "(I)Z"⟩
abbrev cX5_hasAll : ByteArray := prog_7_method_3_code
def yX5_hasAll : MethodName := ⟨RX5, "hasAll", "(I)Z"⟩
abbrev cX5_add : ByteArray := prog_7_method_4_code
def yX5_add : MethodName := ⟨RX5, "add", "(IIII)I"⟩
abbrev cX5_become : ByteArray := prog_7_method_5_code
def yX5_become : MethodName := ⟨RX5, "become", "(LEveryNinth$Rota;)V"⟩
abbrev cX5_comers : ByteArray := prog_7_method_6_code
def yX5_comers : MethodName := ⟨RX5, "comers", "(II)I"⟩
def RX6 : String := "EveryNinth$Sheet"
def TX6 : u_T := fun k => match k with
  | 0 => ("EveryNinth$Sheet", "sort", "I", false)
  | 1 => ("EveryNinth$Sheet", "size", "I", false)
  | _ => ("EveryNinth$Sheet", "items", "[I", true)
def tyX6 : Nat → FieldType := fun k => match k with
  | 0 => .int
  | 1 => .int
  | _ => .array .int
abbrev wsX60 : List Cond := u_ws RX6 TX6 3
theorem nmX6 : ∀ a, a < 3 → ∀ b, b < 3 → a ≠ b → (TX6 a).2.1 ≠ (TX6 b).2.1 := by decide +kernel
theorem tyX6_ok : ∀ k, k < 3 → parseFieldDescriptor (TX6 k).2.2.1 = some (tyX6 k) := by decide +kernel
abbrev cX6_init : ByteArray := prog_8_method_1_code
def yX6_init : MethodName := ⟨RX6, "<init>", "()V"⟩
abbrev cX6_isMissing : ByteArray := prog_8_method_2_code
def yX6_isMissing : MethodName := ⟨RX6, "isMissing", "()Z"⟩
abbrev cX6_become : ByteArray := prog_8_method_3_code
def yX6_become : MethodName := ⟨RX6, "become", "(II)V"⟩
abbrev cX6_hasItems : ByteArray := prog_8_method_4_code
def yX6_hasItems : MethodName := ⟨RX6, "hasItems", "(II)Z"⟩
abbrev cX6_put : ByteArray := prog_8_method_5_code
def yX6_put : MethodName := ⟨RX6, "put", "(II)V"⟩
def RX7 : String := "EveryNinth$Text"
def TX7 : u_T := fun k => match k with
  | 0 => ("EveryNinth$Text", "steps", "[I", true)
  | 1 => ("EveryNinth$Text", "ends", "[I", true)
  | _ => ("EveryNinth$Text", "size", "I", false)
def tyX7 : Nat → FieldType := fun k => match k with
  | 0 => .array .int
  | 1 => .array .int
  | _ => .int
abbrev wsX70 : List Cond := u_ws RX7 TX7 3
theorem nmX7 : ∀ a, a < 3 → ∀ b, b < 3 → a ≠ b → (TX7 a).2.1 ≠ (TX7 b).2.1 := by decide +kernel
theorem tyX7_ok : ∀ k, k < 3 → parseFieldDescriptor (TX7 k).2.2.1 = some (tyX7 k) := by decide +kernel
abbrev cX7_init : ByteArray := prog_9_method_1_code
def yX7_init : MethodName := ⟨RX7, "<init>", "()V"⟩
abbrev cX7_clear : ByteArray := prog_9_method_2_code
def yX7_clear : MethodName := ⟨RX7, "clear", "()V"⟩
abbrev cX7_add : ByteArray := prog_9_method_3_code
def yX7_add : MethodName := ⟨RX7, "add", "(I)V"⟩
abbrev cX7_endPart : ByteArray := prog_9_method_4_code
def yX7_endPart : MethodName := ⟨RX7, "endPart", "(I)V"⟩
abbrev cX7_startOf : ByteArray := prog_9_method_5_code
def yX7_startOf : MethodName := ⟨RX7, "startOf", "(I)I"⟩
abbrev cX7_endOf : ByteArray := prog_9_method_6_code
def yX7_endOf : MethodName := ⟨RX7, "endOf", "(I)I"⟩
def RX8 : String := "EveryNinth$Thing"
def TX8 : u_T := fun k => match k with
  | 0 => ("EveryNinth$Thing", "kind", "I", false)
  | 1 => ("EveryNinth$Thing", "number", "I", false)
  | 2 => ("EveryNinth$Thing", "period", "I", false)
  | _ => ("EveryNinth$Thing", "begin", "I", false)
def tyX8 : Nat → FieldType := fun k => match k with
  | 0 => .int
  | 1 => .int
  | 2 => .int
  | _ => .int
abbrev wsX80 : List Cond := u_ws RX8 TX8 4
theorem nmX8 : ∀ a, a < 4 → ∀ b, b < 4 → a ≠ b → (TX8 a).2.1 ≠ (TX8 b).2.1 := by decide +kernel
theorem tyX8_ok : ∀ k, k < 4 → parseFieldDescriptor (TX8 k).2.2.1 = some (tyX8 k) := by decide +kernel
abbrev cX8_init : ByteArray := prog_10_method_1_code
def yX8_init : MethodName := ⟨RX8, "<init>", "()V"⟩
abbrev cX8_become : ByteArray := prog_10_method_2_code
def yX8_become : MethodName := ⟨RX8, "become", "(LEveryNinth$Thing;)V"⟩
abbrev cX8_becomeShifted : ByteArray := prog_10_method_3_code
def yX8_becomeShifted : MethodName := ⟨RX8, "becomeShifted", "(LEveryNinth$Thing;I)V"⟩
abbrev cX8_fact : ByteArray := prog_10_method_4_code
def yX8_fact : MethodName := ⟨RX8, "fact", "(I)I"⟩
abbrev cX8_change : ByteArray := prog_10_method_5_code
def yX8_change : MethodName := ⟨RX8, "change", "(II)V"⟩
abbrev cX8_comes : ByteArray := prog_10_method_6_code
def yX8_comes : MethodName := ⟨RX8, "comes", "(II)Z"⟩
abbrev cX8_inRound : ByteArray := prog_10_method_7_code
def yX8_inRound : MethodName := ⟨RX8, "inRound", "(I)Z"⟩
abbrev cX8_lasts : ByteArray := prog_10_method_8_code
def yX8_lasts : MethodName := ⟨RX8, "lasts", "(I)Z"⟩
abbrev cX8_isPutOffTo : ByteArray := prog_10_method_9_code
def yX8_isPutOffTo : MethodName := ⟨RX8, "isPutOffTo", "(II)Z"⟩
abbrev cX8_spends : ByteArray := prog_10_method_10_code
def yX8_spends : MethodName := ⟨RX8, "spends", "(I)I"⟩
abbrev cX8_lastingSpends : ByteArray := prog_10_method_11_code
def yX8_lastingSpends : MethodName := ⟨RX8, "lastingSpends", "(I)I"⟩
abbrev cX8_isUnder : ByteArray := prog_10_method_12_code
def yX8_isUnder : MethodName := ⟨RX8, "isUnder", "(I)Z"⟩
abbrev cX8_kindAbove : ByteArray := prog_10_method_13_code
def yX8_kindAbove : MethodName := ⟨RX8, "kindAbove", "(I)I"⟩
abbrev cX8_sharesDayWith : ByteArray := prog_10_method_14_code
def yX8_sharesDayWith : MethodName := ⟨RX8, "sharesDayWith", "(LEveryNinth$Thing;)Z"⟩
def RX9 : String := "EveryNinth"
def TX9 : u_T := fun k => match k with
  | 0 => ("EveryNinth", "rota", "LEveryNinth$Rota;", true)
  | 1 => ("EveryNinth", "kept", "LEveryNinth$Rota;", true)
  | 2 => ("EveryNinth", "hasImage", "Z", false)
  | 3 => ("EveryNinth", "texts", "[LEveryNinth$Text;", true)
  | 4 => ("EveryNinth", "textCount", "I", false)
  | 5 => ("EveryNinth", "reader", "LEveryNinth$Reader;", true)
  | 6 => ("EveryNinth", "almanac", "LEveryNinth$Almanac;", true)
  | 7 => ("EveryNinth", "meeting", "LEveryNinth$Meeting;", true)
  | 8 => ("EveryNinth", "pages", "LEveryNinth$Diary;", true)
  | 9 => ("EveryNinth", "probe", "LEveryNinth$Thing;", true)
  | _ => ("EveryNinth", "sheets", "[LEveryNinth$Sheet;", true)
def tyX9 : Nat → FieldType := fun k => match k with
  | 0 => .object "EveryNinth$Rota"
  | 1 => .object "EveryNinth$Rota"
  | 2 => .boolean
  | 3 => .array (.object "EveryNinth$Text")
  | 4 => .int
  | 5 => .object "EveryNinth$Reader"
  | 6 => .object "EveryNinth$Almanac"
  | 7 => .object "EveryNinth$Meeting"
  | 8 => .object "EveryNinth$Diary"
  | 9 => .object "EveryNinth$Thing"
  | _ => .array (.object "EveryNinth$Sheet")
abbrev wsX90 : List Cond := u_ws RX9 TX9 11
theorem nmX9 : ∀ a, a < 11 → ∀ b, b < 11 → a ≠ b → (TX9 a).2.1 ≠ (TX9 b).2.1 := by decide +kernel
theorem tyX9_ok : ∀ k, k < 11 → parseFieldDescriptor (TX9 k).2.2.1 = some (tyX9 k) := by decide +kernel
abbrev cX9_init : ByteArray := prog_1_method_1_code
def yX9_init : MethodName := ⟨RX9, "<init>", "()V"⟩
abbrev cX9_set : ByteArray := prog_1_method_2_code
def yX9_set : MethodName := ⟨RX9, "set", "(III)I"⟩
abbrev cX9_setHolidays : ByteArray := prog_1_method_3_code
def yX9_setHolidays : MethodName := ⟨RX9, "setHolidays", "(I)I"⟩
abbrev cX9_thing : ByteArray := prog_1_method_4_code
def yX9_thing : MethodName := ⟨RX9, "thing", "(III)I"⟩
abbrev cX9_told : ByteArray := prog_1_method_5_code
def yX9_told : MethodName := ⟨RX9, "told", "(II)I"⟩
abbrev cX9_feed : ByteArray := prog_1_method_6_code
def yX9_feed : MethodName := ⟨RX9, "feed", "(I)I"⟩
abbrev cX9_text : ByteArray := prog_1_method_7_code
def yX9_text : MethodName := ⟨RX9, "text", "()I"⟩
abbrev cX9_force : ByteArray := prog_1_method_8_code
def yX9_force : MethodName := ⟨RX9, "force", "(I)I"⟩
abbrev cX9_day : ByteArray := prog_1_method_9_code
def yX9_day : MethodName := ⟨RX9, "day", "(II)I"⟩
abbrev cX9_when : ByteArray := prog_1_method_10_code
def yX9_when : MethodName := ⟨RX9, "when", "(II)I"⟩
abbrev cX9_nextComing : ByteArray := prog_1_method_11_code
def yX9_nextComing : MethodName := ⟨RX9, "nextComing", "(LEveryNinth$Thing;I)I"⟩
abbrev cX9_often : ByteArray := prog_1_method_12_code
def yX9_often : MethodName := ⟨RX9, "often", "(II)I"⟩
abbrev cX9_year : ByteArray := prog_1_method_13_code
def yX9_year : MethodName := ⟨RX9, "year", "(I)I"⟩
abbrev cX9_meet : ByteArray := prog_1_method_14_code
def yX9_meet : MethodName := ⟨RX9, "meet", "(I)J"⟩
abbrev cX9_every : ByteArray := prog_1_method_15_code
def yX9_every : MethodName := ⟨RX9, "every", "(I)J"⟩
abbrev cX9_findMeeting : ByteArray := prog_1_method_16_code
def yX9_findMeeting : MethodName := ⟨RX9, "findMeeting", "(I)Z"⟩
abbrev cX9_why : ByteArray := prog_1_method_17_code
def yX9_why : MethodName := ⟨RX9, "why", "(I)I"⟩
abbrev cX9_neverMeet : ByteArray := prog_1_method_18_code
def yX9_neverMeet : MethodName := ⟨RX9, "neverMeet", "(II)Z"⟩
abbrev cX9_full : ByteArray := prog_1_method_19_code
def yX9_full : MethodName := ⟨RX9, "full", "(I)J"⟩
abbrev cX9_shift : ByteArray := prog_1_method_20_code
def yX9_shift : MethodName := ⟨RX9, "shift", "(I)I"⟩
abbrev cX9_join : ByteArray := prog_1_method_21_code
def yX9_join : MethodName := ⟨RX9, "join", "(II)I"⟩
abbrev cX9_goodShift : ByteArray := prog_1_method_22_code
def yX9_goodShift : MethodName := ⟨RX9, "goodShift", "(II)I"⟩
abbrev cX9_diary : ByteArray := prog_1_method_23_code
def yX9_diary : MethodName := ⟨RX9, "diary", "(III)I"⟩
abbrev cX9_thingsOfPages : ByteArray := prog_1_method_24_code
def yX9_thingsOfPages : MethodName := ⟨RX9, "thingsOfPages", "()I"⟩
abbrev cX9_kindsOfPages : ByteArray := prog_1_method_25_code
def yX9_kindsOfPages : MethodName := ⟨RX9, "kindsOfPages", "(I)I"⟩
abbrev cX9_rounds : ByteArray := prog_1_method_26_code
def yX9_rounds : MethodName := ⟨RX9, "rounds", "(II)J"⟩
abbrev cX9_film : ByteArray := prog_1_method_27_code
def yX9_film : MethodName := ⟨RX9, "film", "(III)I"⟩
abbrev cX9_drawn : ByteArray := prog_1_method_28_code
def yX9_drawn : MethodName := ⟨RX9, "drawn", "(I)I"⟩
abbrev cX9_chance : ByteArray := prog_1_method_29_code
def yX9_chance : MethodName := ⟨RX9, "chance", "(III)J"⟩
abbrev cX9_drawnHolidays : ByteArray := prog_1_method_30_code
def yX9_drawnHolidays : MethodName := ⟨RX9, "drawnHolidays", "(I)I"⟩
abbrev cX9_image : ByteArray := prog_1_method_31_code
def yX9_image : MethodName := ⟨RX9, "image", "()I"⟩
abbrev cX9_back : ByteArray := prog_1_method_32_code
def yX9_back : MethodName := ⟨RX9, "back", "()I"⟩
abbrev cX9_count : ByteArray := prog_1_method_33_code
def yX9_count : MethodName := ⟨RX9, "count", "(I)I"⟩
abbrev cX9_sheet : ByteArray := prog_1_method_34_code
def yX9_sheet : MethodName := ⟨RX9, "sheet", "(III)I"⟩
abbrev cX9_cell : ByteArray := prog_1_method_35_code
def yX9_cell : MethodName := ⟨RX9, "cell", "(III)I"⟩
abbrev cX9_copy : ByteArray := prog_1_method_36_code
def yX9_copy : MethodName := ⟨RX9, "copy", "(IIIII)I"⟩
abbrev cX9_things : ByteArray := prog_1_method_37_code
def yX9_things : MethodName := ⟨RX9, "things", "(IIII)I"⟩
abbrev cX9_taken : ByteArray := prog_1_method_38_code
def yX9_taken : MethodName := ⟨RX9, "taken", "(II)I"⟩
abbrev cX9_within : ByteArray := prog_1_method_39_code
def yX9_within : MethodName := ⟨RX9, "within", "(III)Z"⟩
abbrev cX9_hasBit : ByteArray := prog_1_method_40_code
def yX9_hasBit : MethodName := ⟨RX9, "hasBit", "(II)Z"⟩
abbrev cX9_isDay : ByteArray := prog_1_method_41_code
def yX9_isDay : MethodName := ⟨RX9, "isDay", "(I)Z"⟩
abbrev cX9_isSheet : ByteArray := prog_1_method_42_code
def yX9_isSheet : MethodName := ⟨RX9, "isSheet", "(I)Z"⟩
abbrev cX9_isHoliday : ByteArray := prog_1_method_43_code
def yX9_isHoliday : MethodName := ⟨RX9, "isHoliday", "(II)Z"⟩
abbrev cX9_mayBe : ByteArray := prog_1_method_44_code
def yX9_mayBe : MethodName := ⟨RX9, "mayBe", "(II)Z"⟩
abbrev cX9_greatestDivisor : ByteArray := prog_1_method_45_code
def yX9_greatestDivisor : MethodName := ⟨RX9, "greatestDivisor", "(JJ)J"⟩
abbrev cX9_inLowestTerms : ByteArray := prog_1_method_46_code
def yX9_inLowestTerms : MethodName := ⟨RX9, "inLowestTerms", "(JJI)J"⟩
def RX10 : String := "EveryNinthModel"
def TX10 : u_T := fun k => match k with
  | 0 => ("EveryNinthModel", "thrown", "I", false)
  | 1 => ("EveryNinthModel", "texts", "[I", true)
  | 2 => ("EveryNinthModel", "textSize", "[I", true)
  | 3 => ("EveryNinthModel", "textCount", "I", false)
  | 4 => ("EveryNinthModel", "rule", "I", false)
  | 5 => ("EveryNinthModel", "tape", "[I", true)
  | 6 => ("EveryNinthModel", "taped", "I", false)
  | 7 => ("EveryNinthModel", "holidays", "I", false)
  | 8 => ("EveryNinthModel", "kinds", "[I", true)
  | 9 => ("EveryNinthModel", "numbers", "[I", true)
  | 10 => ("EveryNinthModel", "periods", "[I", true)
  | 11 => ("EveryNinthModel", "begins", "[I", true)
  | 12 => ("EveryNinthModel", "thingMany", "I", false)
  | 13 => ("EveryNinthModel", "ofDay", "I", false)
  | 14 => ("EveryNinthModel", "ofThing", "I", false)
  | 15 => ("EveryNinthModel", "ofMany", "I", false)
  | 16 => ("EveryNinthModel", "ofPeriod", "I", false)
  | 17 => ("EveryNinthModel", "ofRest", "I", false)
  | 18 => ("EveryNinthModel", "ofNumber", "I", false)
  | 19 => ("EveryNinthModel", "from", "I", false)
  | 20 => ("EveryNinthModel", "size", "I", false)
  | 21 => ("EveryNinthModel", "here", "I", false)
  | 22 => ("EveryNinthModel", "token", "I", false)
  | 23 => ("EveryNinthModel", "tokenAt", "I", false)
  | 24 => ("EveryNinthModel", "tokenWorth", "J", false)
  | 25 => ("EveryNinthModel", "open", "I", false)
  | 26 => ("EveryNinthModel", "bad", "Z", false)
  | 27 => ("EveryNinthModel", "fault", "I", false)
  | 28 => ("EveryNinthModel", "comeOn", "[I", true)
  | 29 => ("EveryNinthModel", "restAt", "[I", true)
  | 30 => ("EveryNinthModel", "costOn", "[I", true)
  | 31 => ("EveryNinthModel", "restFrom", "I", false)
  | 32 => ("EveryNinthModel", "restDay", "J", false)
  | 33 => ("EveryNinthModel", "everyDays", "J", false)
  | 34 => ("EveryNinthModel", "marked", "[Z", true)
  | 35 => ("EveryNinthModel", "kept", "[I", true)
  | 36 => ("EveryNinthModel", "manyKept", "I", false)
  | 37 => ("EveryNinthModel", "holidaysKept", "I", false)
  | 38 => ("EveryNinthModel", "ruleKept", "I", false)
  | 39 => ("EveryNinthModel", "isThere", "[Z", true)
  | 40 => ("EveryNinthModel", "sorts", "[I", true)
  | 41 => ("EveryNinthModel", "sheetSize", "[I", true)
  | _ => ("EveryNinthModel", "items", "[I", true)
def tyX10 : Nat → FieldType := fun k => match k with
  | 0 => .int
  | 1 => .array .int
  | 2 => .array .int
  | 3 => .int
  | 4 => .int
  | 5 => .array .int
  | 6 => .int
  | 7 => .int
  | 8 => .array .int
  | 9 => .array .int
  | 10 => .array .int
  | 11 => .array .int
  | 12 => .int
  | 13 => .int
  | 14 => .int
  | 15 => .int
  | 16 => .int
  | 17 => .int
  | 18 => .int
  | 19 => .int
  | 20 => .int
  | 21 => .int
  | 22 => .int
  | 23 => .int
  | 24 => .long
  | 25 => .int
  | 26 => .boolean
  | 27 => .int
  | 28 => .array .int
  | 29 => .array .int
  | 30 => .array .int
  | 31 => .int
  | 32 => .long
  | 33 => .long
  | 34 => .array .boolean
  | 35 => .array .int
  | 36 => .int
  | 37 => .int
  | 38 => .int
  | 39 => .array .boolean
  | 40 => .array .int
  | 41 => .array .int
  | _ => .array .int
abbrev wsX100 : List Cond := u_ws RX10 TX10 43
theorem nmX10 : ∀ a, a < 43 → ∀ b, b < 43 → a ≠ b → (TX10 a).2.1 ≠ (TX10 b).2.1 := by decide +kernel
theorem tyX10_ok : ∀ k, k < 43 → parseFieldDescriptor (TX10 k).2.2.1 = some (tyX10 k) := by decide +kernel
abbrev cX10_in : ByteArray := prog_12_method_2_code
def yX10_in : MethodName := ⟨RX10, "in", "(JJJ)Z"⟩
abbrev cX10_within : ByteArray := prog_12_method_3_code
def yX10_within : MethodName := ⟨RX10, "within", "(III)I"⟩
abbrev cX10_bitsOf : ByteArray := prog_12_method_4_code
def yX10_bitsOf : MethodName := ⟨RX10, "bitsOf", "(I)I"⟩
abbrev cX10_init : ByteArray := prog_12_method_5_code
def yX10_init : MethodName := ⟨RX10, "<init>", "()V"⟩
abbrev cX10_spell : ByteArray := prog_12_method_6_code
def yX10_spell : MethodName := ⟨RX10, "spell", "(IIIIIIIII)V"⟩
abbrev cX10_isThing : ByteArray := prog_12_method_7_code
def yX10_isThing : MethodName := ⟨RX10, "isThing", "(I)Z"⟩
abbrev cX10_isDay : ByteArray := prog_12_method_8_code
def yX10_isDay : MethodName := ⟨RX10, "isDay", "(I)Z"⟩
abbrev cX10_allThings : ByteArray := prog_12_method_9_code
def yX10_allThings : MethodName := ⟨RX10, "allThings", "()I"⟩
abbrev cX10_set : ByteArray := prog_12_method_10_code
def yX10_set : MethodName := ⟨RX10, "set", "(III)I"⟩
abbrev cX10_thing : ByteArray := prog_12_method_11_code
def yX10_thing : MethodName := ⟨RX10, "thing", "(III)I"⟩
abbrev cX10_told : ByteArray := prog_12_method_12_code
def yX10_told : MethodName := ⟨RX10, "told", "(II)I"⟩
abbrev cX10_isRound : ByteArray := prog_12_method_13_code
def yX10_isRound : MethodName := ⟨RX10, "isRound", "(II)Z"⟩
abbrev cX10_isHoliday : ByteArray := prog_12_method_14_code
def yX10_isHoliday : MethodName := ⟨RX10, "isHoliday", "(I)Z"⟩
abbrev cX10_lasts : ByteArray := prog_12_method_15_code
def yX10_lasts : MethodName := ⟨RX10, "lasts", "(II)Z"⟩
abbrev cX10_isPutOff : ByteArray := prog_12_method_16_code
def yX10_isPutOff : MethodName := ⟨RX10, "isPutOff", "(II)Z"⟩
abbrev cX10_comes : ByteArray := prog_12_method_17_code
def yX10_comes : MethodName := ⟨RX10, "comes", "(II)Z"⟩
abbrev cX10_feed : ByteArray := prog_12_method_18_code
def yX10_feed : MethodName := ⟨RX10, "feed", "(I)I"⟩
abbrev cX10_byteAt : ByteArray := prog_12_method_19_code
def yX10_byteAt : MethodName := ⟨RX10, "byteAt", "(I)I"⟩
abbrev cX10_next : ByteArray := prog_12_method_20_code
def yX10_next : MethodName := ⟨RX10, "next", "()V"⟩
abbrev cX10_fail : ByteArray := prog_12_method_21_code
def yX10_fail : MethodName := ⟨RX10, "fail", "()V"⟩
abbrev cX10_isLetter : ByteArray := prog_12_method_22_code
def yX10_isLetter : MethodName := ⟨RX10, "isLetter", "(II)Z"⟩
abbrev cX10_isWord : ByteArray := prog_12_method_23_code
def yX10_isWord : MethodName := ⟨RX10, "isWord", "(IIIIIIII)Z"⟩
abbrev cX10_isSign : ByteArray := prog_12_method_24_code
def yX10_isSign : MethodName := ⟨RX10, "isSign", "(I)Z"⟩
abbrev cX10_opens : ByteArray := prog_12_method_25_code
def yX10_opens : MethodName := ⟨RX10, "opens", "()Z"⟩
abbrev cX10_name : ByteArray := prog_12_method_26_code
def yX10_name : MethodName := ⟨RX10, "name", "()I"⟩
abbrev cX10_atom5 : ByteArray := prog_12_method_27_code
def yX10_atom5 : MethodName := ⟨RX10, "atom5", "()I"⟩
abbrev cX10_term5 : ByteArray := prog_12_method_28_code
def yX10_term5 : MethodName := ⟨RX10, "term5", "()I"⟩
abbrev cX10_added5 : ByteArray := prog_12_method_29_code
def yX10_added5 : MethodName := ⟨RX10, "added5", "()I"⟩
abbrev cX10_not5 : ByteArray := prog_12_method_30_code
def yX10_not5 : MethodName := ⟨RX10, "not5", "()I"⟩
abbrev cX10_both5 : ByteArray := prog_12_method_31_code
def yX10_both5 : MethodName := ⟨RX10, "both5", "()I"⟩
abbrev cX10_either5 : ByteArray := prog_12_method_32_code
def yX10_either5 : MethodName := ⟨RX10, "either5", "()I"⟩
abbrev cX10_atom4 : ByteArray := prog_12_method_33_code
def yX10_atom4 : MethodName := ⟨RX10, "atom4", "()I"⟩
abbrev cX10_term4 : ByteArray := prog_12_method_34_code
def yX10_term4 : MethodName := ⟨RX10, "term4", "()I"⟩
abbrev cX10_added4 : ByteArray := prog_12_method_35_code
def yX10_added4 : MethodName := ⟨RX10, "added4", "()I"⟩
abbrev cX10_not4 : ByteArray := prog_12_method_36_code
def yX10_not4 : MethodName := ⟨RX10, "not4", "()I"⟩
abbrev cX10_both4 : ByteArray := prog_12_method_37_code
def yX10_both4 : MethodName := ⟨RX10, "both4", "()I"⟩
abbrev cX10_either4 : ByteArray := prog_12_method_38_code
def yX10_either4 : MethodName := ⟨RX10, "either4", "()I"⟩
abbrev cX10_atom3 : ByteArray := prog_12_method_39_code
def yX10_atom3 : MethodName := ⟨RX10, "atom3", "()I"⟩
abbrev cX10_term3 : ByteArray := prog_12_method_40_code
def yX10_term3 : MethodName := ⟨RX10, "term3", "()I"⟩
abbrev cX10_added3 : ByteArray := prog_12_method_41_code
def yX10_added3 : MethodName := ⟨RX10, "added3", "()I"⟩
abbrev cX10_not3 : ByteArray := prog_12_method_42_code
def yX10_not3 : MethodName := ⟨RX10, "not3", "()I"⟩
abbrev cX10_both3 : ByteArray := prog_12_method_43_code
def yX10_both3 : MethodName := ⟨RX10, "both3", "()I"⟩
abbrev cX10_either3 : ByteArray := prog_12_method_44_code
def yX10_either3 : MethodName := ⟨RX10, "either3", "()I"⟩
abbrev cX10_atom2 : ByteArray := prog_12_method_45_code
def yX10_atom2 : MethodName := ⟨RX10, "atom2", "()I"⟩
abbrev cX10_term2 : ByteArray := prog_12_method_46_code
def yX10_term2 : MethodName := ⟨RX10, "term2", "()I"⟩
abbrev cX10_added2 : ByteArray := prog_12_method_47_code
def yX10_added2 : MethodName := ⟨RX10, "added2", "()I"⟩
abbrev cX10_not2 : ByteArray := prog_12_method_48_code
def yX10_not2 : MethodName := ⟨RX10, "not2", "()I"⟩
abbrev cX10_both2 : ByteArray := prog_12_method_49_code
def yX10_both2 : MethodName := ⟨RX10, "both2", "()I"⟩
abbrev cX10_either2 : ByteArray := prog_12_method_50_code
def yX10_either2 : MethodName := ⟨RX10, "either2", "()I"⟩
abbrev cX10_atom1 : ByteArray := prog_12_method_51_code
def yX10_atom1 : MethodName := ⟨RX10, "atom1", "()I"⟩
abbrev cX10_term1 : ByteArray := prog_12_method_52_code
def yX10_term1 : MethodName := ⟨RX10, "term1", "()I"⟩
abbrev cX10_added1 : ByteArray := prog_12_method_53_code
def yX10_added1 : MethodName := ⟨RX10, "added1", "()I"⟩
abbrev cX10_not1 : ByteArray := prog_12_method_54_code
def yX10_not1 : MethodName := ⟨RX10, "not1", "()I"⟩
abbrev cX10_both1 : ByteArray := prog_12_method_55_code
def yX10_both1 : MethodName := ⟨RX10, "both1", "()I"⟩
abbrev cX10_either1 : ByteArray := prog_12_method_56_code
def yX10_either1 : MethodName := ⟨RX10, "either1", "()I"⟩
abbrev cX10_atom0 : ByteArray := prog_12_method_57_code
def yX10_atom0 : MethodName := ⟨RX10, "atom0", "()I"⟩
abbrev cX10_term0 : ByteArray := prog_12_method_58_code
def yX10_term0 : MethodName := ⟨RX10, "term0", "()I"⟩
abbrev cX10_added0 : ByteArray := prog_12_method_59_code
def yX10_added0 : MethodName := ⟨RX10, "added0", "()I"⟩
abbrev cX10_not0 : ByteArray := prog_12_method_60_code
def yX10_not0 : MethodName := ⟨RX10, "not0", "()I"⟩
abbrev cX10_both0 : ByteArray := prog_12_method_61_code
def yX10_both0 : MethodName := ⟨RX10, "both0", "()I"⟩
abbrev cX10_either0 : ByteArray := prog_12_method_62_code
def yX10_either0 : MethodName := ⟨RX10, "either0", "()I"⟩
abbrev cX10_part : ByteArray := prog_12_method_63_code
def yX10_part : MethodName := ⟨RX10, "part", "(Z)I"⟩
abbrev cX10_read : ByteArray := prog_12_method_64_code
def yX10_read : MethodName := ⟨RX10, "read", "(II)I"⟩
abbrev cX10_text : ByteArray := prog_12_method_65_code
def yX10_text : MethodName := ⟨RX10, "text", "()I"⟩
abbrev cX10_force : ByteArray := prog_12_method_66_code
def yX10_force : MethodName := ⟨RX10, "force", "(I)I"⟩
abbrev cX10_says : ByteArray := prog_12_method_67_code
def yX10_says : MethodName := ⟨RX10, "says", "(IIIII)I"⟩
abbrev cX10_spendsOf : ByteArray := prog_12_method_68_code
def yX10_spendsOf : MethodName := ⟨RX10, "spendsOf", "(II)I"⟩
abbrev cX10_lives : ByteArray := prog_12_method_69_code
def yX10_lives : MethodName := ⟨RX10, "lives", "()V"⟩
abbrev cX10_costOf : ByteArray := prog_12_method_70_code
def yX10_costOf : MethodName := ⟨RX10, "costOf", "(I)I"⟩
abbrev cX10_spends : ByteArray := prog_12_method_71_code
def yX10_spends : MethodName := ⟨RX10, "spends", "()I"⟩
abbrev cX10_day : ByteArray := prog_12_method_72_code
def yX10_day : MethodName := ⟨RX10, "day", "(II)I"⟩
abbrev cX10_when : ByteArray := prog_12_method_73_code
def yX10_when : MethodName := ⟨RX10, "when", "(II)I"⟩
abbrev cX10_often : ByteArray := prog_12_method_74_code
def yX10_often : MethodName := ⟨RX10, "often", "(II)I"⟩
abbrev cX10_daysOf : ByteArray := prog_12_method_75_code
def yX10_daysOf : MethodName := ⟨RX10, "daysOf", "(I)I"⟩
abbrev cX10_longestRest : ByteArray := prog_12_method_76_code
def yX10_longestRest : MethodName := ⟨RX10, "longestRest", "()I"⟩
abbrev cX10_inWeek : ByteArray := prog_12_method_77_code
def yX10_inWeek : MethodName := ⟨RX10, "inWeek", "(I)I"⟩
abbrev cX10_year : ByteArray := prog_12_method_78_code
def yX10_year : MethodName := ⟨RX10, "year", "(I)I"⟩
abbrev cX10_meets : ByteArray := prog_12_method_79_code
def yX10_meets : MethodName := ⟨RX10, "meets", "(I)Z"⟩
abbrev cX10_common : ByteArray := prog_12_method_80_code
def yX10_common : MethodName := ⟨RX10, "common", "(JJ)J"⟩
abbrev cX10_meet : ByteArray := prog_12_method_81_code
def yX10_meet : MethodName := ⟨RX10, "meet", "(I)J"⟩
abbrev cX10_every : ByteArray := prog_12_method_82_code
def yX10_every : MethodName := ⟨RX10, "every", "(I)J"⟩
abbrev cX10_why : ByteArray := prog_12_method_83_code
def yX10_why : MethodName := ⟨RX10, "why", "(I)I"⟩
abbrev cX10_full : ByteArray := prog_12_method_84_code
def yX10_full : MethodName := ⟨RX10, "full", "(I)J"⟩
abbrev cX10_meetsNone : ByteArray := prog_12_method_85_code
def yX10_meetsNone : MethodName := ⟨RX10, "meetsNone", "(I)Z"⟩
abbrev cX10_shift : ByteArray := prog_12_method_86_code
def yX10_shift : MethodName := ⟨RX10, "shift", "(I)I"⟩
abbrev cX10_join : ByteArray := prog_12_method_87_code
def yX10_join : MethodName := ⟨RX10, "join", "(II)I"⟩
abbrev cX10_goodShift : ByteArray := prog_12_method_88_code
def yX10_goodShift : MethodName := ⟨RX10, "goodShift", "(II)I"⟩
abbrev cX10_diaryBad : ByteArray := prog_12_method_89_code
def yX10_diaryBad : MethodName := ⟨RX10, "diaryBad", "(I)I"⟩
abbrev cX10_isTold : ByteArray := prog_12_method_90_code
def yX10_isTold : MethodName := ⟨RX10, "isTold", "(II)Z"⟩
abbrev cX10_lastOf : ByteArray := prog_12_method_91_code
def yX10_lastOf : MethodName := ⟨RX10, "lastOf", "(I)I"⟩
abbrev cX10_comesSo : ByteArray := prog_12_method_92_code
def yX10_comesSo : MethodName := ⟨RX10, "comesSo", "(II)Z"⟩
abbrev cX10_diary : ByteArray := prog_12_method_93_code
def yX10_diary : MethodName := ⟨RX10, "diary", "(III)I"⟩
abbrev cX10_periodsOf : ByteArray := prog_12_method_94_code
def yX10_periodsOf : MethodName := ⟨RX10, "periodsOf", "(I)J"⟩
abbrev cX10_marks : ByteArray := prog_12_method_95_code
def yX10_marks : MethodName := ⟨RX10, "marks", "(III)Z"⟩
abbrev cX10_firstLeft : ByteArray := prog_12_method_96_code
def yX10_firstLeft : MethodName := ⟨RX10, "firstLeft", "(I)I"⟩
abbrev cX10_marksFirst : ByteArray := prog_12_method_97_code
def yX10_marksFirst : MethodName := ⟨RX10, "marksFirst", "(II)Z"⟩
abbrev cX10_twoOf : ByteArray := prog_12_method_98_code
def yX10_twoOf : MethodName := ⟨RX10, "twoOf", "(I)J"⟩
abbrev cX10_rounds : ByteArray := prog_12_method_99_code
def yX10_rounds : MethodName := ⟨RX10, "rounds", "(II)J"⟩
abbrev cX10_film : ByteArray := prog_12_method_100_code
def yX10_film : MethodName := ⟨RX10, "film", "(III)I"⟩
abbrev cX10_draws : ByteArray := prog_12_method_101_code
def yX10_draws : MethodName := ⟨RX10, "draws", "(I)I"⟩
abbrev cX10_drawn : ByteArray := prog_12_method_102_code
def yX10_drawn : MethodName := ⟨RX10, "drawn", "(I)I"⟩
abbrev cX10_chance : ByteArray := prog_12_method_103_code
def yX10_chance : MethodName := ⟨RX10, "chance", "(III)J"⟩
abbrev cX10_image : ByteArray := prog_12_method_104_code
def yX10_image : MethodName := ⟨RX10, "image", "()I"⟩
abbrev cX10_back : ByteArray := prog_12_method_105_code
def yX10_back : MethodName := ⟨RX10, "back", "()I"⟩
abbrev cX10_count : ByteArray := prog_12_method_106_code
def yX10_count : MethodName := ⟨RX10, "count", "(I)I"⟩
abbrev cX10_isSheet : ByteArray := prog_12_method_107_code
def yX10_isSheet : MethodName := ⟨RX10, "isSheet", "(I)Z"⟩
abbrev cX10_sheet : ByteArray := prog_12_method_108_code
def yX10_sheet : MethodName := ⟨RX10, "sheet", "(III)I"⟩
abbrev cX10_cell : ByteArray := prog_12_method_109_code
def yX10_cell : MethodName := ⟨RX10, "cell", "(III)I"⟩
abbrev cX10_copy : ByteArray := prog_12_method_110_code
def yX10_copy : MethodName := ⟨RX10, "copy", "(IIIII)I"⟩
abbrev cX10_things : ByteArray := prog_12_method_111_code
def yX10_things : MethodName := ⟨RX10, "things", "(IIII)I"⟩
abbrev cX10_over : ByteArray := prog_12_method_112_code
def yX10_over : MethodName := ⟨RX10, "over", "(I)I"⟩
abbrev cX10_taken : ByteArray := prog_12_method_113_code
def yX10_taken : MethodName := ⟨RX10, "taken", "(II)I"⟩
def RL : String := "EveryNinthLaw"
abbrev cL_law : ByteArray := code
def yL_law : MethodName := ⟨RL, "law", "([I)Z"⟩
theorem dX0_init_0 : decode cX0_init 0 = .ok (.aload_n 0, 1) := by decide +kernel
theorem dX0_init_1 : decode cX0_init 1 = .ok (.invokespecial 3, 3) := by decide +kernel
theorem dX0_init_4 : decode cX0_init 4 = .ok (.aload_n 0, 1) := by decide +kernel
theorem dX0_init_5 : decode cX0_init 5 = .ok (.new 9, 3) := by decide +kernel
theorem dX0_init_8 : decode cX0_init 8 = .ok (.dup, 1) := by decide +kernel
theorem dX0_init_9 : decode cX0_init 9 = .ok (.invokespecial 11, 3) := by decide +kernel
theorem dX0_init_12 : decode cX0_init 12 = .ok (.putfield 12, 3) := by decide +kernel
theorem dX0_init_15 : decode cX0_init 15 = .ok (.aload_n 0, 1) := by decide +kernel
theorem dX0_init_16 : decode cX0_init 16 = .ok (.new 18, 3) := by decide +kernel
theorem dX0_init_19 : decode cX0_init 19 = .ok (.dup, 1) := by decide +kernel
theorem dX0_init_20 : decode cX0_init 20 = .ok (.invokespecial 20, 3) := by decide +kernel
theorem dX0_init_23 : decode cX0_init 23 = .ok (.putfield 21, 3) := by decide +kernel
theorem dX0_init_26 : decode cX0_init 26 = .ok (.aload_n 0, 1) := by decide +kernel
theorem dX0_init_27 : decode cX0_init 27 = .ok (.sipush 400, 3) := by decide +kernel
theorem dX0_init_30 : decode cX0_init 30 = .ok (.newarray .int, 2) := by decide +kernel
theorem dX0_init_32 : decode cX0_init 32 = .ok (.putfield 25, 3) := by decide +kernel
theorem dX0_init_35 : decode cX0_init 35 = .ok (.aload_n 0, 1) := by decide +kernel
theorem dX0_init_36 : decode cX0_init 36 = .ok (.aload_n 1, 1) := by decide +kernel
theorem dX0_init_37 : decode cX0_init 37 = .ok (.putfield 29, 3) := by decide +kernel
theorem dX0_init_40 : decode cX0_init 40 = .ok (.aload_n 0, 1) := by decide +kernel
theorem dX0_init_41 : decode cX0_init 41 = .ok (.aload_n 2, 1) := by decide +kernel
theorem dX0_init_42 : decode cX0_init 42 = .ok (.putfield 33, 3) := by decide +kernel
theorem dX0_init_45 : decode cX0_init 45 = .ok (.return_, 1) := by decide +kernel
theorem dX0_fill_0 : decode cX0_fill 0 = .ok (.aload_n 0, 1) := by decide +kernel
theorem dX0_fill_1 : decode cX0_fill 1 = .ok (.iload_n 1, 1) := by decide +kernel
theorem dX0_fill_2 : decode cX0_fill 2 = .ok (.putfield 37, 3) := by decide +kernel
theorem dX0_fill_5 : decode cX0_fill 5 = .ok (.iconst 0, 1) := by decide +kernel
theorem dX0_fill_6 : decode cX0_fill 6 = .ok (.istore_n 2, 1) := by decide +kernel
theorem dX0_fill_7 : decode cX0_fill 7 = .ok (.iload_n 2, 1) := by decide +kernel
theorem dX0_fill_8 : decode cX0_fill 8 = .ok (.sipush 400, 3) := by decide +kernel
theorem dX0_fill_11 : decode cX0_fill 11 = .ok (.if_icmp .ge 27, 3) := by decide +kernel
theorem dX0_fill_14 : decode cX0_fill 14 = .ok (.aload_n 0, 1) := by decide +kernel
theorem dX0_fill_15 : decode cX0_fill 15 = .ok (.getfield 25, 3) := by decide +kernel
theorem dX0_fill_18 : decode cX0_fill 18 = .ok (.iload_n 2, 1) := by decide +kernel
theorem dX0_fill_19 : decode cX0_fill 19 = .ok (.aload_n 0, 1) := by decide +kernel
theorem dX0_fill_20 : decode cX0_fill 20 = .ok (.getfield 29, 3) := by decide +kernel
theorem dX0_fill_23 : decode cX0_fill 23 = .ok (.iload_n 2, 1) := by decide +kernel
theorem dX0_fill_24 : decode cX0_fill 24 = .ok (.aload_n 0, 1) := by decide +kernel
theorem dX0_fill_25 : decode cX0_fill 25 = .ok (.getfield 37, 3) := by decide +kernel
theorem dX0_fill_28 : decode cX0_fill 28 = .ok (.invokevirtual 41, 3) := by decide +kernel
theorem dX0_fill_31 : decode cX0_fill 31 = .ok (.iastore, 1) := by decide +kernel
theorem dX0_fill_32 : decode cX0_fill 32 = .ok (.iinc 2 1, 3) := by decide +kernel
theorem dX0_fill_35 : decode cX0_fill 35 = .ok (.goto (-28), 3) := by decide +kernel
theorem dX0_fill_38 : decode cX0_fill 38 = .ok (.return_, 1) := by decide +kernel
theorem dX0_putShifted_0 : decode cX0_putShifted 0 = .ok (.aload_n 0, 1) := by decide +kernel
theorem dX0_putShifted_1 : decode cX0_putShifted 1 = .ok (.getfield 29, 3) := by decide +kernel
theorem dX0_putShifted_4 : decode cX0_putShifted 4 = .ok (.iload_n 1, 1) := by decide +kernel
theorem dX0_putShifted_5 : decode cX0_putShifted 5 = .ok (.invokevirtual 46, 3) := by decide +kernel
theorem dX0_putShifted_8 : decode cX0_putShifted 8 = .ok (.ifCond .ne 4, 3) := by decide +kernel
theorem dX0_putShifted_11 : decode cX0_putShifted 11 = .ok (.return_, 1) := by decide +kernel
theorem dX0_putShifted_12 : decode cX0_putShifted 12 = .ok (.aload_n 0, 1) := by decide +kernel
theorem dX0_putShifted_13 : decode cX0_putShifted 13 = .ok (.getfield 21, 3) := by decide +kernel
theorem dX0_putShifted_16 : decode cX0_putShifted 16 = .ok (.aload_n 0, 1) := by decide +kernel
theorem dX0_putShifted_17 : decode cX0_putShifted 17 = .ok (.getfield 29, 3) := by decide +kernel
theorem dX0_putShifted_20 : decode cX0_putShifted 20 = .ok (.getfield 50, 3) := by decide +kernel
theorem dX0_putShifted_23 : decode cX0_putShifted 23 = .ok (.iload_n 1, 1) := by decide +kernel
theorem dX0_putShifted_24 : decode cX0_putShifted 24 = .ok (.aaload, 1) := by decide +kernel
theorem dX0_putShifted_25 : decode cX0_putShifted 25 = .ok (.iload_n 2, 1) := by decide +kernel
theorem dX0_putShifted_26 : decode cX0_putShifted 26 = .ok (.invokevirtual 54, 3) := by decide +kernel
theorem dX0_putShifted_29 : decode cX0_putShifted 29 = .ok (.iconst 1, 1) := by decide +kernel
theorem dX0_putShifted_30 : decode cX0_putShifted 30 = .ok (.iload_n 1, 1) := by decide +kernel
theorem dX0_putShifted_31 : decode cX0_putShifted 31 = .ok (.ishl, 1) := by decide +kernel
theorem dX0_putShifted_32 : decode cX0_putShifted 32 = .ok (.istore_n 3, 1) := by decide +kernel
theorem dX0_putShifted_33 : decode cX0_putShifted 33 = .ok (.iconst 0, 1) := by decide +kernel
theorem dX0_putShifted_34 : decode cX0_putShifted 34 = .ok (.istore 4, 2) := by decide +kernel
theorem dX0_putShifted_36 : decode cX0_putShifted 36 = .ok (.iload 4, 2) := by decide +kernel
theorem dX0_putShifted_38 : decode cX0_putShifted 38 = .ok (.sipush 400, 3) := by decide +kernel
theorem dX0_putShifted_41 : decode cX0_putShifted 41 = .ok (.if_icmp .ge 54, 3) := by decide +kernel
theorem dX0_putShifted_44 : decode cX0_putShifted 44 = .ok (.aload_n 0, 1) := by decide +kernel
theorem dX0_putShifted_45 : decode cX0_putShifted 45 = .ok (.getfield 25, 3) := by decide +kernel
theorem dX0_putShifted_48 : decode cX0_putShifted 48 = .ok (.iload 4, 2) := by decide +kernel
theorem dX0_putShifted_50 : decode cX0_putShifted 50 = .ok (.iaload, 1) := by decide +kernel
theorem dX0_putShifted_51 : decode cX0_putShifted 51 = .ok (.iload_n 3, 1) := by decide +kernel
theorem dX0_putShifted_52 : decode cX0_putShifted 52 = .ok (.iconst (-1), 1) := by decide +kernel
theorem dX0_putShifted_53 : decode cX0_putShifted 53 = .ok (.ixor, 1) := by decide +kernel
theorem dX0_putShifted_54 : decode cX0_putShifted 54 = .ok (.iand, 1) := by decide +kernel
theorem dX0_putShifted_55 : decode cX0_putShifted 55 = .ok (.istore 5, 2) := by decide +kernel
theorem dX0_putShifted_57 : decode cX0_putShifted 57 = .ok (.aload_n 0, 1) := by decide +kernel
theorem dX0_putShifted_58 : decode cX0_putShifted 58 = .ok (.getfield 25, 3) := by decide +kernel
theorem dX0_putShifted_61 : decode cX0_putShifted 61 = .ok (.iload 4, 2) := by decide +kernel
theorem dX0_putShifted_63 : decode cX0_putShifted 63 = .ok (.aload_n 0, 1) := by decide +kernel
theorem dX0_putShifted_64 : decode cX0_putShifted 64 = .ok (.getfield 21, 3) := by decide +kernel
theorem dX0_putShifted_67 : decode cX0_putShifted 67 = .ok (.iload 4, 2) := by decide +kernel
theorem dX0_putShifted_69 : decode cX0_putShifted 69 = .ok (.aload_n 0, 1) := by decide +kernel
theorem dX0_putShifted_70 : decode cX0_putShifted 70 = .ok (.getfield 37, 3) := by decide +kernel
theorem dX0_putShifted_73 : decode cX0_putShifted 73 = .ok (.invokevirtual 58, 3) := by decide +kernel
theorem dX0_putShifted_76 : decode cX0_putShifted 76 = .ok (.ifCond .eq 10, 3) := by decide +kernel
theorem dX0_putShifted_79 : decode cX0_putShifted 79 = .ok (.iload 5, 2) := by decide +kernel
theorem dX0_putShifted_81 : decode cX0_putShifted 81 = .ok (.iload_n 3, 1) := by decide +kernel
theorem dX0_putShifted_82 : decode cX0_putShifted 82 = .ok (.ior, 1) := by decide +kernel
theorem dX0_putShifted_83 : decode cX0_putShifted 83 = .ok (.goto 5, 3) := by decide +kernel
theorem dX0_putShifted_86 : decode cX0_putShifted 86 = .ok (.iload 5, 2) := by decide +kernel
theorem dX0_putShifted_88 : decode cX0_putShifted 88 = .ok (.iastore, 1) := by decide +kernel
theorem dX0_putShifted_89 : decode cX0_putShifted 89 = .ok (.iinc 4 1, 3) := by decide +kernel
theorem dX0_putShifted_92 : decode cX0_putShifted 92 = .ok (.goto (-56), 3) := by decide +kernel
theorem dX0_putShifted_95 : decode cX0_putShifted 95 = .ok (.return_, 1) := by decide +kernel
theorem dX0_comesWithOthers_0 : decode cX0_comesWithOthers 0 = .ok (.iconst 1, 1) := by decide +kernel
theorem dX0_comesWithOthers_1 : decode cX0_comesWithOthers 1 = .ok (.iload_n 1, 1) := by decide +kernel
theorem dX0_comesWithOthers_2 : decode cX0_comesWithOthers 2 = .ok (.ishl, 1) := by decide +kernel
theorem dX0_comesWithOthers_3 : decode cX0_comesWithOthers 3 = .ok (.istore_n 2, 1) := by decide +kernel
theorem dX0_comesWithOthers_4 : decode cX0_comesWithOthers 4 = .ok (.iconst 0, 1) := by decide +kernel
theorem dX0_comesWithOthers_5 : decode cX0_comesWithOthers 5 = .ok (.istore_n 3, 1) := by decide +kernel
theorem dX0_comesWithOthers_6 : decode cX0_comesWithOthers 6 = .ok (.iload_n 3, 1) := by decide +kernel
theorem dX0_comesWithOthers_7 : decode cX0_comesWithOthers 7 = .ok (.sipush 400, 3) := by decide +kernel
theorem dX0_comesWithOthers_10 : decode cX0_comesWithOthers 10 = .ok (.if_icmp .ge 32, 3) := by decide +kernel
theorem dX0_comesWithOthers_13 : decode cX0_comesWithOthers 13 = .ok (.aload_n 0, 1) := by decide +kernel
theorem dX0_comesWithOthers_14 : decode cX0_comesWithOthers 14 = .ok (.getfield 25, 3) := by decide +kernel
theorem dX0_comesWithOthers_17 : decode cX0_comesWithOthers 17 = .ok (.iload_n 3, 1) := by decide +kernel
theorem dX0_comesWithOthers_18 : decode cX0_comesWithOthers 18 = .ok (.iaload, 1) := by decide +kernel
theorem dX0_comesWithOthers_19 : decode cX0_comesWithOthers 19 = .ok (.iload_n 2, 1) := by decide +kernel
theorem dX0_comesWithOthers_20 : decode cX0_comesWithOthers 20 = .ok (.iand, 1) := by decide +kernel
theorem dX0_comesWithOthers_21 : decode cX0_comesWithOthers 21 = .ok (.ifCond .eq 15, 3) := by decide +kernel
theorem dX0_comesWithOthers_24 : decode cX0_comesWithOthers 24 = .ok (.aload_n 0, 1) := by decide +kernel
theorem dX0_comesWithOthers_25 : decode cX0_comesWithOthers 25 = .ok (.getfield 25, 3) := by decide +kernel
theorem dX0_comesWithOthers_28 : decode cX0_comesWithOthers 28 = .ok (.iload_n 3, 1) := by decide +kernel
theorem dX0_comesWithOthers_29 : decode cX0_comesWithOthers 29 = .ok (.iaload, 1) := by decide +kernel
theorem dX0_comesWithOthers_30 : decode cX0_comesWithOthers 30 = .ok (.iload_n 2, 1) := by decide +kernel
theorem dX0_comesWithOthers_31 : decode cX0_comesWithOthers 31 = .ok (.if_icmp .eq 5, 3) := by decide +kernel
theorem dX0_comesWithOthers_34 : decode cX0_comesWithOthers 34 = .ok (.iconst 1, 1) := by decide +kernel
theorem dX0_comesWithOthers_35 : decode cX0_comesWithOthers 35 = .ok (.ireturn, 1) := by decide +kernel
theorem dX0_comesWithOthers_36 : decode cX0_comesWithOthers 36 = .ok (.iinc 3 1, 3) := by decide +kernel
theorem dX0_comesWithOthers_39 : decode cX0_comesWithOthers 39 = .ok (.goto (-33), 3) := by decide +kernel
theorem dX0_comesWithOthers_42 : decode cX0_comesWithOthers 42 = .ok (.iconst 0, 1) := by decide +kernel
theorem dX0_comesWithOthers_43 : decode cX0_comesWithOthers 43 = .ok (.ireturn, 1) := by decide +kernel
theorem dX0_costsOf_0 : decode cX0_costsOf 0 = .ok (.iload_n 1, 1) := by decide +kernel
theorem dX0_costsOf_1 : decode cX0_costsOf 1 = .ok (.invokestatic 62, 3) := by decide +kernel
theorem dX0_costsOf_4 : decode cX0_costsOf 4 = .ok (.ifCond .eq 12, 3) := by decide +kernel
theorem dX0_costsOf_7 : decode cX0_costsOf 7 = .ok (.aload_n 0, 1) := by decide +kernel
theorem dX0_costsOf_8 : decode cX0_costsOf 8 = .ok (.getfield 25, 3) := by decide +kernel
theorem dX0_costsOf_11 : decode cX0_costsOf 11 = .ok (.iload_n 1, 1) := by decide +kernel
theorem dX0_costsOf_12 : decode cX0_costsOf 12 = .ok (.iaload, 1) := by decide +kernel
theorem dX0_costsOf_13 : decode cX0_costsOf 13 = .ok (.ifCond .ne 5, 3) := by decide +kernel
theorem dX0_costsOf_16 : decode cX0_costsOf 16 = .ok (.iconst 0, 1) := by decide +kernel
theorem dX0_costsOf_17 : decode cX0_costsOf 17 = .ok (.ireturn, 1) := by decide +kernel
theorem dX0_costsOf_18 : decode cX0_costsOf 18 = .ok (.aload_n 0, 1) := by decide +kernel
theorem dX0_costsOf_19 : decode cX0_costsOf 19 = .ok (.getfield 25, 3) := by decide +kernel
theorem dX0_costsOf_22 : decode cX0_costsOf 22 = .ok (.iload_n 1, 1) := by decide +kernel
theorem dX0_costsOf_23 : decode cX0_costsOf 23 = .ok (.iaload, 1) := by decide +kernel
theorem dX0_costsOf_24 : decode cX0_costsOf 24 = .ok (.istore_n 2, 1) := by decide +kernel
theorem dX0_costsOf_25 : decode cX0_costsOf 25 = .ok (.iload_n 2, 1) := by decide +kernel
theorem dX0_costsOf_26 : decode cX0_costsOf 26 = .ok (.invokestatic 65, 3) := by decide +kernel
theorem dX0_costsOf_29 : decode cX0_costsOf 29 = .ok (.istore_n 3, 1) := by decide +kernel
theorem dX0_costsOf_30 : decode cX0_costsOf 30 = .ok (.aload_n 0, 1) := by decide +kernel
theorem dX0_costsOf_31 : decode cX0_costsOf 31 = .ok (.invokevirtual 71, 3) := by decide +kernel
theorem dX0_costsOf_34 : decode cX0_costsOf 34 = .ok (.astore 4, 2) := by decide +kernel
theorem dX0_costsOf_36 : decode cX0_costsOf 36 = .ok (.aload_n 0, 1) := by decide +kernel
theorem dX0_costsOf_37 : decode cX0_costsOf 37 = .ok (.getfield 12, 3) := by decide +kernel
theorem dX0_costsOf_40 : decode cX0_costsOf 40 = .ok (.iload_n 1, 1) := by decide +kernel
theorem dX0_costsOf_41 : decode cX0_costsOf 41 = .ok (.iload_n 3, 1) := by decide +kernel
theorem dX0_costsOf_42 : decode cX0_costsOf 42 = .ok (.aload_n 0, 1) := by decide +kernel
theorem dX0_costsOf_43 : decode cX0_costsOf 43 = .ok (.iload_n 1, 1) := by decide +kernel
theorem dX0_costsOf_44 : decode cX0_costsOf 44 = .ok (.invokevirtual 75, 3) := by decide +kernel
theorem dX0_costsOf_47 : decode cX0_costsOf 47 = .ok (.invokevirtual 78, 3) := by decide +kernel
theorem dX0_costsOf_50 : decode cX0_costsOf 50 = .ok (.iconst 0, 1) := by decide +kernel
theorem dX0_costsOf_51 : decode cX0_costsOf 51 = .ok (.istore 5, 2) := by decide +kernel
theorem dX0_costsOf_53 : decode cX0_costsOf 53 = .ok (.iconst 0, 1) := by decide +kernel
theorem dX0_costsOf_54 : decode cX0_costsOf 54 = .ok (.istore 6, 2) := by decide +kernel
theorem dX0_costsOf_56 : decode cX0_costsOf 56 = .ok (.iload 6, 2) := by decide +kernel
theorem dX0_costsOf_58 : decode cX0_costsOf 58 = .ok (.bipush 6, 2) := by decide +kernel
theorem dX0_costsOf_60 : decode cX0_costsOf 60 = .ok (.if_icmp .ge 81, 3) := by decide +kernel
theorem dX0_costsOf_63 : decode cX0_costsOf 63 = .ok (.iload_n 2, 1) := by decide +kernel
theorem dX0_costsOf_64 : decode cX0_costsOf 64 = .ok (.iload 6, 2) := by decide +kernel
theorem dX0_costsOf_66 : decode cX0_costsOf 66 = .ok (.invokestatic 82, 3) := by decide +kernel
theorem dX0_costsOf_69 : decode cX0_costsOf 69 = .ok (.ifCond .eq 66, 3) := by decide +kernel
theorem dX0_costsOf_72 : decode cX0_costsOf 72 = .ok (.aload_n 0, 1) := by decide +kernel
theorem dX0_costsOf_73 : decode cX0_costsOf 73 = .ok (.getfield 29, 3) := by decide +kernel
theorem dX0_costsOf_76 : decode cX0_costsOf 76 = .ok (.iload 6, 2) := by decide +kernel
theorem dX0_costsOf_78 : decode cX0_costsOf 78 = .ok (.invokevirtual 46, 3) := by decide +kernel
theorem dX0_costsOf_81 : decode cX0_costsOf 81 = .ok (.ifCond .eq 54, 3) := by decide +kernel
theorem dX0_costsOf_84 : decode cX0_costsOf 84 = .ok (.aload_n 0, 1) := by decide +kernel
theorem dX0_costsOf_85 : decode cX0_costsOf 85 = .ok (.getfield 29, 3) := by decide +kernel
theorem dX0_costsOf_88 : decode cX0_costsOf 88 = .ok (.getfield 50, 3) := by decide +kernel
theorem dX0_costsOf_91 : decode cX0_costsOf 91 = .ok (.iload 6, 2) := by decide +kernel
theorem dX0_costsOf_93 : decode cX0_costsOf 93 = .ok (.aaload, 1) := by decide +kernel
theorem dX0_costsOf_94 : decode cX0_costsOf 94 = .ok (.astore 7, 2) := by decide +kernel
theorem dX0_costsOf_96 : decode cX0_costsOf 96 = .ok (.aload_n 0, 1) := by decide +kernel
theorem dX0_costsOf_97 : decode cX0_costsOf 97 = .ok (.getfield 12, 3) := by decide +kernel
theorem dX0_costsOf_100 : decode cX0_costsOf 100 = .ok (.iload 6, 2) := by decide +kernel
theorem dX0_costsOf_102 : decode cX0_costsOf 102 = .ok (.aload 7, 2) := by decide +kernel
theorem dX0_costsOf_104 : decode cX0_costsOf 104 = .ok (.getfield 85, 3) := by decide +kernel
theorem dX0_costsOf_107 : decode cX0_costsOf 107 = .ok (.aload 7, 2) := by decide +kernel
theorem dX0_costsOf_109 : decode cX0_costsOf 109 = .ok (.getfield 88, 3) := by decide +kernel
theorem dX0_costsOf_112 : decode cX0_costsOf 112 = .ok (.invokevirtual 91, 3) := by decide +kernel
theorem dX0_costsOf_115 : decode cX0_costsOf 115 = .ok (.iload 5, 2) := by decide +kernel
theorem dX0_costsOf_117 : decode cX0_costsOf 117 = .ok (.aload 7, 2) := by decide +kernel
theorem dX0_costsOf_119 : decode cX0_costsOf 119 = .ok (.aload_n 0, 1) := by decide +kernel
theorem dX0_costsOf_120 : decode cX0_costsOf 120 = .ok (.getfield 12, 3) := by decide +kernel
theorem dX0_costsOf_123 : decode cX0_costsOf 123 = .ok (.aload 4, 2) := by decide +kernel
theorem dX0_costsOf_125 : decode cX0_costsOf 125 = .ok (.iconst 0, 1) := by decide +kernel
theorem dX0_costsOf_126 : decode cX0_costsOf 126 = .ok (.invokevirtual 94, 3) := by decide +kernel
theorem dX0_costsOf_129 : decode cX0_costsOf 129 = .ok (.invokevirtual 98, 3) := by decide +kernel
theorem dX0_costsOf_132 : decode cX0_costsOf 132 = .ok (.iadd, 1) := by decide +kernel
theorem dX0_costsOf_133 : decode cX0_costsOf 133 = .ok (.istore 5, 2) := by decide +kernel
theorem dX0_costsOf_135 : decode cX0_costsOf 135 = .ok (.iinc 6 1, 3) := by decide +kernel
theorem dX0_costsOf_138 : decode cX0_costsOf 138 = .ok (.goto (-82), 3) := by decide +kernel
theorem dX0_costsOf_141 : decode cX0_costsOf 141 = .ok (.iload_n 3, 1) := by decide +kernel
theorem dX0_costsOf_142 : decode cX0_costsOf 142 = .ok (.iconst 2, 1) := by decide +kernel
theorem dX0_costsOf_143 : decode cX0_costsOf 143 = .ok (.if_icmp .lt 28, 3) := by decide +kernel
theorem dX0_costsOf_146 : decode cX0_costsOf 146 = .ok (.aload_n 0, 1) := by decide +kernel
theorem dX0_costsOf_147 : decode cX0_costsOf 147 = .ok (.getfield 12, 3) := by decide +kernel
theorem dX0_costsOf_150 : decode cX0_costsOf 150 = .ok (.iconst 0, 1) := by decide +kernel
theorem dX0_costsOf_151 : decode cX0_costsOf 151 = .ok (.iconst 0, 1) := by decide +kernel
theorem dX0_costsOf_152 : decode cX0_costsOf 152 = .ok (.iconst 0, 1) := by decide +kernel
theorem dX0_costsOf_153 : decode cX0_costsOf 153 = .ok (.invokevirtual 91, 3) := by decide +kernel
theorem dX0_costsOf_156 : decode cX0_costsOf 156 = .ok (.iload 5, 2) := by decide +kernel
theorem dX0_costsOf_158 : decode cX0_costsOf 158 = .ok (.aload_n 0, 1) := by decide +kernel
theorem dX0_costsOf_159 : decode cX0_costsOf 159 = .ok (.getfield 12, 3) := by decide +kernel
theorem dX0_costsOf_162 : decode cX0_costsOf 162 = .ok (.aload 4, 2) := by decide +kernel
theorem dX0_costsOf_164 : decode cX0_costsOf 164 = .ok (.iconst 1, 1) := by decide +kernel
theorem dX0_costsOf_165 : decode cX0_costsOf 165 = .ok (.invokevirtual 94, 3) := by decide +kernel
theorem dX0_costsOf_168 : decode cX0_costsOf 168 = .ok (.iadd, 1) := by decide +kernel
theorem dX0_costsOf_169 : decode cX0_costsOf 169 = .ok (.istore 5, 2) := by decide +kernel
theorem dX0_costsOf_171 : decode cX0_costsOf 171 = .ok (.iload 5, 2) := by decide +kernel
theorem dX0_costsOf_173 : decode cX0_costsOf 173 = .ok (.ireturn, 1) := by decide +kernel
theorem dX0_mindsOf_0 : decode cX0_mindsOf 0 = .ok (.aload_n 0, 1) := by decide +kernel
theorem dX0_mindsOf_1 : decode cX0_mindsOf 1 = .ok (.getfield 29, 3) := by decide +kernel
theorem dX0_mindsOf_4 : decode cX0_mindsOf 4 = .ok (.iload_n 1, 1) := by decide +kernel
theorem dX0_mindsOf_5 : decode cX0_mindsOf 5 = .ok (.invokevirtual 46, 3) := by decide +kernel
theorem dX0_mindsOf_8 : decode cX0_mindsOf 8 = .ok (.ifCond .ne 5, 3) := by decide +kernel
theorem dX0_mindsOf_11 : decode cX0_mindsOf 11 = .ok (.iconst 0, 1) := by decide +kernel
theorem dX0_mindsOf_12 : decode cX0_mindsOf 12 = .ok (.ireturn, 1) := by decide +kernel
theorem dX0_mindsOf_13 : decode cX0_mindsOf 13 = .ok (.aload_n 0, 1) := by decide +kernel
theorem dX0_mindsOf_14 : decode cX0_mindsOf 14 = .ok (.getfield 29, 3) := by decide +kernel
theorem dX0_mindsOf_17 : decode cX0_mindsOf 17 = .ok (.getfield 50, 3) := by decide +kernel
theorem dX0_mindsOf_20 : decode cX0_mindsOf 20 = .ok (.iload_n 1, 1) := by decide +kernel
theorem dX0_mindsOf_21 : decode cX0_mindsOf 21 = .ok (.aaload, 1) := by decide +kernel
theorem dX0_mindsOf_22 : decode cX0_mindsOf 22 = .ok (.astore_n 3, 1) := by decide +kernel
theorem dX0_mindsOf_23 : decode cX0_mindsOf 23 = .ok (.aload_n 0, 1) := by decide +kernel
theorem dX0_mindsOf_24 : decode cX0_mindsOf 24 = .ok (.getfield 12, 3) := by decide +kernel
theorem dX0_mindsOf_27 : decode cX0_mindsOf 27 = .ok (.iconst 0, 1) := by decide +kernel
theorem dX0_mindsOf_28 : decode cX0_mindsOf 28 = .ok (.iconst 0, 1) := by decide +kernel
theorem dX0_mindsOf_29 : decode cX0_mindsOf 29 = .ok (.iload_n 2, 1) := by decide +kernel
theorem dX0_mindsOf_30 : decode cX0_mindsOf 30 = .ok (.invokevirtual 78, 3) := by decide +kernel
theorem dX0_mindsOf_33 : decode cX0_mindsOf 33 = .ok (.aload_n 0, 1) := by decide +kernel
theorem dX0_mindsOf_34 : decode cX0_mindsOf 34 = .ok (.getfield 12, 3) := by decide +kernel
theorem dX0_mindsOf_37 : decode cX0_mindsOf 37 = .ok (.iload_n 1, 1) := by decide +kernel
theorem dX0_mindsOf_38 : decode cX0_mindsOf 38 = .ok (.aload_n 3, 1) := by decide +kernel
theorem dX0_mindsOf_39 : decode cX0_mindsOf 39 = .ok (.getfield 85, 3) := by decide +kernel
theorem dX0_mindsOf_42 : decode cX0_mindsOf 42 = .ok (.aload_n 3, 1) := by decide +kernel
theorem dX0_mindsOf_43 : decode cX0_mindsOf 43 = .ok (.getfield 88, 3) := by decide +kernel
theorem dX0_mindsOf_46 : decode cX0_mindsOf 46 = .ok (.invokevirtual 91, 3) := by decide +kernel
theorem dX0_mindsOf_49 : decode cX0_mindsOf 49 = .ok (.aload_n 0, 1) := by decide +kernel
theorem dX0_mindsOf_50 : decode cX0_mindsOf 50 = .ok (.getfield 12, 3) := by decide +kernel
theorem dX0_mindsOf_53 : decode cX0_mindsOf 53 = .ok (.aload_n 0, 1) := by decide +kernel
theorem dX0_mindsOf_54 : decode cX0_mindsOf 54 = .ok (.invokevirtual 71, 3) := by decide +kernel
theorem dX0_mindsOf_57 : decode cX0_mindsOf 57 = .ok (.iconst 2, 1) := by decide +kernel
theorem dX0_mindsOf_58 : decode cX0_mindsOf 58 = .ok (.invokevirtual 94, 3) := by decide +kernel
theorem dX0_mindsOf_61 : decode cX0_mindsOf 61 = .ok (.ireturn, 1) := by decide +kernel
theorem dX0_rule_0 : decode cX0_rule 0 = .ok (.aload_n 0, 1) := by decide +kernel
theorem dX0_rule_1 : decode cX0_rule 1 = .ok (.getfield 29, 3) := by decide +kernel
theorem dX0_rule_4 : decode cX0_rule 4 = .ok (.getfield 101, 3) := by decide +kernel
theorem dX0_rule_7 : decode cX0_rule 7 = .ok (.ifCond .lt 33, 3) := by decide +kernel
theorem dX0_rule_10 : decode cX0_rule 10 = .ok (.aload_n 0, 1) := by decide +kernel
theorem dX0_rule_11 : decode cX0_rule 11 = .ok (.getfield 29, 3) := by decide +kernel
theorem dX0_rule_14 : decode cX0_rule 14 = .ok (.getfield 101, 3) := by decide +kernel
theorem dX0_rule_17 : decode cX0_rule 17 = .ok (.aload_n 0, 1) := by decide +kernel
theorem dX0_rule_18 : decode cX0_rule 18 = .ok (.getfield 33, 3) := by decide +kernel
theorem dX0_rule_21 : decode cX0_rule 21 = .ok (.arraylength, 1) := by decide +kernel
theorem dX0_rule_22 : decode cX0_rule 22 = .ok (.if_icmp .ge 18, 3) := by decide +kernel
theorem dX0_rule_25 : decode cX0_rule 25 = .ok (.aload_n 0, 1) := by decide +kernel
theorem dX0_rule_26 : decode cX0_rule 26 = .ok (.getfield 33, 3) := by decide +kernel
theorem dX0_rule_29 : decode cX0_rule 29 = .ok (.aload_n 0, 1) := by decide +kernel
theorem dX0_rule_30 : decode cX0_rule 30 = .ok (.getfield 29, 3) := by decide +kernel
theorem dX0_rule_33 : decode cX0_rule 33 = .ok (.getfield 101, 3) := by decide +kernel
theorem dX0_rule_36 : decode cX0_rule 36 = .ok (.aaload, 1) := by decide +kernel
theorem dX0_rule_37 : decode cX0_rule 37 = .ok (.goto 9, 3) := by decide +kernel
theorem dX0_rule_40 : decode cX0_rule 40 = .ok (.aload_n 0, 1) := by decide +kernel
theorem dX0_rule_41 : decode cX0_rule 41 = .ok (.getfield 33, 3) := by decide +kernel
theorem dX0_rule_44 : decode cX0_rule 44 = .ok (.iconst 0, 1) := by decide +kernel
theorem dX0_rule_45 : decode cX0_rule 45 = .ok (.aaload, 1) := by decide +kernel
theorem dX0_rule_46 : decode cX0_rule 46 = .ok (.areturn, 1) := by decide +kernel
theorem dX0_restAhead_0 : decode cX0_restAhead 0 = .ok (.iconst 0, 1) := by decide +kernel
theorem dX0_restAhead_1 : decode cX0_restAhead 1 = .ok (.istore_n 2, 1) := by decide +kernel
theorem dX0_restAhead_2 : decode cX0_restAhead 2 = .ok (.iload_n 1, 1) := by decide +kernel
theorem dX0_restAhead_3 : decode cX0_restAhead 3 = .ok (.iconst 1, 1) := by decide +kernel
theorem dX0_restAhead_4 : decode cX0_restAhead 4 = .ok (.isub, 1) := by decide +kernel
theorem dX0_restAhead_5 : decode cX0_restAhead 5 = .ok (.istore_n 3, 1) := by decide +kernel
theorem dX0_restAhead_6 : decode cX0_restAhead 6 = .ok (.iload_n 3, 1) := by decide +kernel
theorem dX0_restAhead_7 : decode cX0_restAhead 7 = .ok (.ifCond .lt 21, 3) := by decide +kernel
theorem dX0_restAhead_10 : decode cX0_restAhead 10 = .ok (.aload_n 0, 1) := by decide +kernel
theorem dX0_restAhead_11 : decode cX0_restAhead 11 = .ok (.getfield 25, 3) := by decide +kernel
theorem dX0_restAhead_14 : decode cX0_restAhead 14 = .ok (.iload_n 3, 1) := by decide +kernel
theorem dX0_restAhead_15 : decode cX0_restAhead 15 = .ok (.iaload, 1) := by decide +kernel
theorem dX0_restAhead_16 : decode cX0_restAhead 16 = .ok (.ifCond .ne 12, 3) := by decide +kernel
theorem dX0_restAhead_19 : decode cX0_restAhead 19 = .ok (.iinc 2 1, 3) := by decide +kernel
theorem dX0_restAhead_22 : decode cX0_restAhead 22 = .ok (.iinc 3 (-1), 3) := by decide +kernel
theorem dX0_restAhead_25 : decode cX0_restAhead 25 = .ok (.goto (-19), 3) := by decide +kernel
theorem dX0_restAhead_28 : decode cX0_restAhead 28 = .ok (.iload_n 2, 1) := by decide +kernel
theorem dX0_restAhead_29 : decode cX0_restAhead 29 = .ok (.ireturn, 1) := by decide +kernel
theorem dX0_allCosts_0 : decode cX0_allCosts 0 = .ok (.iconst 0, 1) := by decide +kernel
theorem dX0_allCosts_1 : decode cX0_allCosts 1 = .ok (.istore_n 1, 1) := by decide +kernel
theorem dX0_allCosts_2 : decode cX0_allCosts 2 = .ok (.iconst 0, 1) := by decide +kernel
theorem dX0_allCosts_3 : decode cX0_allCosts 3 = .ok (.istore_n 2, 1) := by decide +kernel
theorem dX0_allCosts_4 : decode cX0_allCosts 4 = .ok (.iload_n 2, 1) := by decide +kernel
theorem dX0_allCosts_5 : decode cX0_allCosts 5 = .ok (.sipush 400, 3) := by decide +kernel
theorem dX0_allCosts_8 : decode cX0_allCosts 8 = .ok (.if_icmp .ge 17, 3) := by decide +kernel
theorem dX0_allCosts_11 : decode cX0_allCosts 11 = .ok (.iload_n 1, 1) := by decide +kernel
theorem dX0_allCosts_12 : decode cX0_allCosts 12 = .ok (.aload_n 0, 1) := by decide +kernel
theorem dX0_allCosts_13 : decode cX0_allCosts 13 = .ok (.iload_n 2, 1) := by decide +kernel
theorem dX0_allCosts_14 : decode cX0_allCosts 14 = .ok (.invokevirtual 103, 3) := by decide +kernel
theorem dX0_allCosts_17 : decode cX0_allCosts 17 = .ok (.iadd, 1) := by decide +kernel
theorem dX0_allCosts_18 : decode cX0_allCosts 18 = .ok (.istore_n 1, 1) := by decide +kernel
theorem dX0_allCosts_19 : decode cX0_allCosts 19 = .ok (.iinc 2 1, 3) := by decide +kernel
theorem dX0_allCosts_22 : decode cX0_allCosts 22 = .ok (.goto (-18), 3) := by decide +kernel
theorem dX0_allCosts_25 : decode cX0_allCosts 25 = .ok (.iload_n 1, 1) := by decide +kernel
theorem dX0_allCosts_26 : decode cX0_allCosts 26 = .ok (.ireturn, 1) := by decide +kernel
theorem dX0_daysWith_0 : decode cX0_daysWith 0 = .ok (.iconst 0, 1) := by decide +kernel
theorem dX0_daysWith_1 : decode cX0_daysWith 1 = .ok (.istore_n 2, 1) := by decide +kernel
theorem dX0_daysWith_2 : decode cX0_daysWith 2 = .ok (.iconst 0, 1) := by decide +kernel
theorem dX0_daysWith_3 : decode cX0_daysWith 3 = .ok (.istore_n 3, 1) := by decide +kernel
theorem dX0_daysWith_4 : decode cX0_daysWith 4 = .ok (.iload_n 3, 1) := by decide +kernel
theorem dX0_daysWith_5 : decode cX0_daysWith 5 = .ok (.sipush 400, 3) := by decide +kernel
theorem dX0_daysWith_8 : decode cX0_daysWith 8 = .ok (.if_icmp .ge 25, 3) := by decide +kernel
theorem dX0_daysWith_11 : decode cX0_daysWith 11 = .ok (.aload_n 0, 1) := by decide +kernel
theorem dX0_daysWith_12 : decode cX0_daysWith 12 = .ok (.getfield 25, 3) := by decide +kernel
theorem dX0_daysWith_15 : decode cX0_daysWith 15 = .ok (.iload_n 3, 1) := by decide +kernel
theorem dX0_daysWith_16 : decode cX0_daysWith 16 = .ok (.iaload, 1) := by decide +kernel
theorem dX0_daysWith_17 : decode cX0_daysWith 17 = .ok (.invokestatic 65, 3) := by decide +kernel
theorem dX0_daysWith_20 : decode cX0_daysWith 20 = .ok (.iload_n 1, 1) := by decide +kernel
theorem dX0_daysWith_21 : decode cX0_daysWith 21 = .ok (.if_icmp .lt 6, 3) := by decide +kernel
theorem dX0_daysWith_24 : decode cX0_daysWith 24 = .ok (.iinc 2 1, 3) := by decide +kernel
theorem dX0_daysWith_27 : decode cX0_daysWith 27 = .ok (.iinc 3 1, 3) := by decide +kernel
theorem dX0_daysWith_30 : decode cX0_daysWith 30 = .ok (.goto (-26), 3) := by decide +kernel
theorem dX0_daysWith_33 : decode cX0_daysWith 33 = .ok (.iload_n 2, 1) := by decide +kernel
theorem dX0_daysWith_34 : decode cX0_daysWith 34 = .ok (.ireturn, 1) := by decide +kernel
theorem dX0_longestRest_0 : decode cX0_longestRest 0 = .ok (.iconst (-1), 1) := by decide +kernel
theorem dX0_longestRest_1 : decode cX0_longestRest 1 = .ok (.istore_n 1, 1) := by decide +kernel
theorem dX0_longestRest_2 : decode cX0_longestRest 2 = .ok (.iconst 0, 1) := by decide +kernel
theorem dX0_longestRest_3 : decode cX0_longestRest 3 = .ok (.istore_n 2, 1) := by decide +kernel
theorem dX0_longestRest_4 : decode cX0_longestRest 4 = .ok (.iconst 0, 1) := by decide +kernel
theorem dX0_longestRest_5 : decode cX0_longestRest 5 = .ok (.istore_n 3, 1) := by decide +kernel
theorem dX0_longestRest_6 : decode cX0_longestRest 6 = .ok (.iconst 0, 1) := by decide +kernel
theorem dX0_longestRest_7 : decode cX0_longestRest 7 = .ok (.istore 4, 2) := by decide +kernel
theorem dX0_longestRest_9 : decode cX0_longestRest 9 = .ok (.iload 4, 2) := by decide +kernel
theorem dX0_longestRest_11 : decode cX0_longestRest 11 = .ok (.sipush 400, 3) := by decide +kernel
theorem dX0_longestRest_14 : decode cX0_longestRest 14 = .ok (.if_icmp .ge 41, 3) := by decide +kernel
theorem dX0_longestRest_17 : decode cX0_longestRest 17 = .ok (.aload_n 0, 1) := by decide +kernel
theorem dX0_longestRest_18 : decode cX0_longestRest 18 = .ok (.getfield 25, 3) := by decide +kernel
theorem dX0_longestRest_21 : decode cX0_longestRest 21 = .ok (.iload 4, 2) := by decide +kernel
theorem dX0_longestRest_23 : decode cX0_longestRest 23 = .ok (.iaload, 1) := by decide +kernel
theorem dX0_longestRest_24 : decode cX0_longestRest 24 = .ok (.ifCond .ne 9, 3) := by decide +kernel
theorem dX0_longestRest_27 : decode cX0_longestRest 27 = .ok (.iload_n 3, 1) := by decide +kernel
theorem dX0_longestRest_28 : decode cX0_longestRest 28 = .ok (.iconst 1, 1) := by decide +kernel
theorem dX0_longestRest_29 : decode cX0_longestRest 29 = .ok (.iadd, 1) := by decide +kernel
theorem dX0_longestRest_30 : decode cX0_longestRest 30 = .ok (.goto 4, 3) := by decide +kernel
theorem dX0_longestRest_33 : decode cX0_longestRest 33 = .ok (.iconst 0, 1) := by decide +kernel
theorem dX0_longestRest_34 : decode cX0_longestRest 34 = .ok (.istore_n 3, 1) := by decide +kernel
theorem dX0_longestRest_35 : decode cX0_longestRest 35 = .ok (.iload_n 3, 1) := by decide +kernel
theorem dX0_longestRest_36 : decode cX0_longestRest 36 = .ok (.iload_n 2, 1) := by decide +kernel
theorem dX0_longestRest_37 : decode cX0_longestRest 37 = .ok (.if_icmp .le 12, 3) := by decide +kernel
theorem dX0_longestRest_40 : decode cX0_longestRest 40 = .ok (.iload_n 3, 1) := by decide +kernel
theorem dX0_longestRest_41 : decode cX0_longestRest 41 = .ok (.istore_n 2, 1) := by decide +kernel
theorem dX0_longestRest_42 : decode cX0_longestRest 42 = .ok (.iload 4, 2) := by decide +kernel
theorem dX0_longestRest_44 : decode cX0_longestRest 44 = .ok (.iload_n 3, 1) := by decide +kernel
theorem dX0_longestRest_45 : decode cX0_longestRest 45 = .ok (.isub, 1) := by decide +kernel
theorem dX0_longestRest_46 : decode cX0_longestRest 46 = .ok (.iconst 1, 1) := by decide +kernel
theorem dX0_longestRest_47 : decode cX0_longestRest 47 = .ok (.iadd, 1) := by decide +kernel
theorem dX0_longestRest_48 : decode cX0_longestRest 48 = .ok (.istore_n 1, 1) := by decide +kernel
theorem dX0_longestRest_49 : decode cX0_longestRest 49 = .ok (.iinc 4 1, 3) := by decide +kernel
theorem dX0_longestRest_52 : decode cX0_longestRest 52 = .ok (.goto (-43), 3) := by decide +kernel
theorem dX0_longestRest_55 : decode cX0_longestRest 55 = .ok (.iload_n 1, 1) := by decide +kernel
theorem dX0_longestRest_56 : decode cX0_longestRest 56 = .ok (.ireturn, 1) := by decide +kernel
theorem dX0_restFrom_0 : decode cX0_restFrom 0 = .ok (.iload_n 1, 1) := by decide +kernel
theorem dX0_restFrom_1 : decode cX0_restFrom 1 = .ok (.ifCond .ge 5, 3) := by decide +kernel
theorem dX0_restFrom_4 : decode cX0_restFrom 4 = .ok (.iconst 0, 1) := by decide +kernel
theorem dX0_restFrom_5 : decode cX0_restFrom 5 = .ok (.ireturn, 1) := by decide +kernel
theorem dX0_restFrom_6 : decode cX0_restFrom 6 = .ok (.iconst 0, 1) := by decide +kernel
theorem dX0_restFrom_7 : decode cX0_restFrom 7 = .ok (.istore_n 2, 1) := by decide +kernel
theorem dX0_restFrom_8 : decode cX0_restFrom 8 = .ok (.iload_n 1, 1) := by decide +kernel
theorem dX0_restFrom_9 : decode cX0_restFrom 9 = .ok (.istore_n 3, 1) := by decide +kernel
theorem dX0_restFrom_10 : decode cX0_restFrom 10 = .ok (.iload_n 3, 1) := by decide +kernel
theorem dX0_restFrom_11 : decode cX0_restFrom 11 = .ok (.sipush 400, 3) := by decide +kernel
theorem dX0_restFrom_14 : decode cX0_restFrom 14 = .ok (.if_icmp .ge 21, 3) := by decide +kernel
theorem dX0_restFrom_17 : decode cX0_restFrom 17 = .ok (.aload_n 0, 1) := by decide +kernel
theorem dX0_restFrom_18 : decode cX0_restFrom 18 = .ok (.getfield 25, 3) := by decide +kernel
theorem dX0_restFrom_21 : decode cX0_restFrom 21 = .ok (.iload_n 3, 1) := by decide +kernel
theorem dX0_restFrom_22 : decode cX0_restFrom 22 = .ok (.iaload, 1) := by decide +kernel
theorem dX0_restFrom_23 : decode cX0_restFrom 23 = .ok (.ifCond .ne 12, 3) := by decide +kernel
theorem dX0_restFrom_26 : decode cX0_restFrom 26 = .ok (.iinc 2 1, 3) := by decide +kernel
theorem dX0_restFrom_29 : decode cX0_restFrom 29 = .ok (.iinc 3 1, 3) := by decide +kernel
theorem dX0_restFrom_32 : decode cX0_restFrom 32 = .ok (.goto (-22), 3) := by decide +kernel
theorem dX0_restFrom_35 : decode cX0_restFrom 35 = .ok (.iload_n 2, 1) := by decide +kernel
theorem dX0_restFrom_36 : decode cX0_restFrom 36 = .ok (.ireturn, 1) := by decide +kernel
theorem dX0_fullestWeek_0 : decode cX0_fullestWeek 0 = .ok (.iconst 0, 1) := by decide +kernel
theorem dX0_fullestWeek_1 : decode cX0_fullestWeek 1 = .ok (.istore_n 1, 1) := by decide +kernel
theorem dX0_fullestWeek_2 : decode cX0_fullestWeek 2 = .ok (.iconst 1, 1) := by decide +kernel
theorem dX0_fullestWeek_3 : decode cX0_fullestWeek 3 = .ok (.istore_n 2, 1) := by decide +kernel
theorem dX0_fullestWeek_4 : decode cX0_fullestWeek 4 = .ok (.iload_n 2, 1) := by decide +kernel
theorem dX0_fullestWeek_5 : decode cX0_fullestWeek 5 = .ok (.bipush 57, 2) := by decide +kernel
theorem dX0_fullestWeek_7 : decode cX0_fullestWeek 7 = .ok (.if_icmp .ge 24, 3) := by decide +kernel
theorem dX0_fullestWeek_10 : decode cX0_fullestWeek 10 = .ok (.aload_n 0, 1) := by decide +kernel
theorem dX0_fullestWeek_11 : decode cX0_fullestWeek 11 = .ok (.iload_n 2, 1) := by decide +kernel
theorem dX0_fullestWeek_12 : decode cX0_fullestWeek 12 = .ok (.invokevirtual 106, 3) := by decide +kernel
theorem dX0_fullestWeek_15 : decode cX0_fullestWeek 15 = .ok (.aload_n 0, 1) := by decide +kernel
theorem dX0_fullestWeek_16 : decode cX0_fullestWeek 16 = .ok (.iload_n 1, 1) := by decide +kernel
theorem dX0_fullestWeek_17 : decode cX0_fullestWeek 17 = .ok (.invokevirtual 106, 3) := by decide +kernel
theorem dX0_fullestWeek_20 : decode cX0_fullestWeek 20 = .ok (.if_icmp .le 5, 3) := by decide +kernel
theorem dX0_fullestWeek_23 : decode cX0_fullestWeek 23 = .ok (.iload_n 2, 1) := by decide +kernel
theorem dX0_fullestWeek_24 : decode cX0_fullestWeek 24 = .ok (.istore_n 1, 1) := by decide +kernel
theorem dX0_fullestWeek_25 : decode cX0_fullestWeek 25 = .ok (.iinc 2 1, 3) := by decide +kernel
theorem dX0_fullestWeek_28 : decode cX0_fullestWeek 28 = .ok (.goto (-24), 3) := by decide +kernel
theorem dX0_fullestWeek_31 : decode cX0_fullestWeek 31 = .ok (.iload_n 1, 1) := by decide +kernel
theorem dX0_fullestWeek_32 : decode cX0_fullestWeek 32 = .ok (.ireturn, 1) := by decide +kernel
theorem dX0_comersInWeek_0 : decode cX0_comersInWeek 0 = .ok (.iconst 0, 1) := by decide +kernel
theorem dX0_comersInWeek_1 : decode cX0_comersInWeek 1 = .ok (.istore_n 2, 1) := by decide +kernel
theorem dX0_comersInWeek_2 : decode cX0_comersInWeek 2 = .ok (.bipush 7, 2) := by decide +kernel
theorem dX0_comersInWeek_4 : decode cX0_comersInWeek 4 = .ok (.iload_n 1, 1) := by decide +kernel
theorem dX0_comersInWeek_5 : decode cX0_comersInWeek 5 = .ok (.imul, 1) := by decide +kernel
theorem dX0_comersInWeek_6 : decode cX0_comersInWeek 6 = .ok (.istore_n 3, 1) := by decide +kernel
theorem dX0_comersInWeek_7 : decode cX0_comersInWeek 7 = .ok (.iload_n 3, 1) := by decide +kernel
theorem dX0_comersInWeek_8 : decode cX0_comersInWeek 8 = .ok (.bipush 7, 2) := by decide +kernel
theorem dX0_comersInWeek_10 : decode cX0_comersInWeek 10 = .ok (.iload_n 1, 1) := by decide +kernel
theorem dX0_comersInWeek_11 : decode cX0_comersInWeek 11 = .ok (.imul, 1) := by decide +kernel
theorem dX0_comersInWeek_12 : decode cX0_comersInWeek 12 = .ok (.bipush 7, 2) := by decide +kernel
theorem dX0_comersInWeek_14 : decode cX0_comersInWeek 14 = .ok (.iadd, 1) := by decide +kernel
theorem dX0_comersInWeek_15 : decode cX0_comersInWeek 15 = .ok (.if_icmp .ge 32, 3) := by decide +kernel
theorem dX0_comersInWeek_18 : decode cX0_comersInWeek 18 = .ok (.iload_n 2, 1) := by decide +kernel
theorem dX0_comersInWeek_19 : decode cX0_comersInWeek 19 = .ok (.iload_n 3, 1) := by decide +kernel
theorem dX0_comersInWeek_20 : decode cX0_comersInWeek 20 = .ok (.invokestatic 62, 3) := by decide +kernel
theorem dX0_comersInWeek_23 : decode cX0_comersInWeek 23 = .ok (.ifCond .eq 15, 3) := by decide +kernel
theorem dX0_comersInWeek_26 : decode cX0_comersInWeek 26 = .ok (.aload_n 0, 1) := by decide +kernel
theorem dX0_comersInWeek_27 : decode cX0_comersInWeek 27 = .ok (.getfield 25, 3) := by decide +kernel
theorem dX0_comersInWeek_30 : decode cX0_comersInWeek 30 = .ok (.iload_n 3, 1) := by decide +kernel
theorem dX0_comersInWeek_31 : decode cX0_comersInWeek 31 = .ok (.iaload, 1) := by decide +kernel
theorem dX0_comersInWeek_32 : decode cX0_comersInWeek 32 = .ok (.invokestatic 65, 3) := by decide +kernel
theorem dX0_comersInWeek_35 : decode cX0_comersInWeek 35 = .ok (.goto 4, 3) := by decide +kernel
theorem dX0_comersInWeek_38 : decode cX0_comersInWeek 38 = .ok (.iconst 0, 1) := by decide +kernel
theorem dX0_comersInWeek_39 : decode cX0_comersInWeek 39 = .ok (.iadd, 1) := by decide +kernel
theorem dX0_comersInWeek_40 : decode cX0_comersInWeek 40 = .ok (.istore_n 2, 1) := by decide +kernel
theorem dX0_comersInWeek_41 : decode cX0_comersInWeek 41 = .ok (.iinc 3 1, 3) := by decide +kernel
theorem dX0_comersInWeek_44 : decode cX0_comersInWeek 44 = .ok (.goto (-37), 3) := by decide +kernel
theorem dX0_comersInWeek_47 : decode cX0_comersInWeek 47 = .ok (.iload_n 2, 1) := by decide +kernel
theorem dX0_comersInWeek_48 : decode cX0_comersInWeek 48 = .ok (.ireturn, 1) := by decide +kernel
theorem dX0_dearestDay_0 : decode cX0_dearestDay 0 = .ok (.iconst 0, 1) := by decide +kernel
theorem dX0_dearestDay_1 : decode cX0_dearestDay 1 = .ok (.istore_n 1, 1) := by decide +kernel
theorem dX0_dearestDay_2 : decode cX0_dearestDay 2 = .ok (.iconst 0, 1) := by decide +kernel
theorem dX0_dearestDay_3 : decode cX0_dearestDay 3 = .ok (.istore_n 2, 1) := by decide +kernel
theorem dX0_dearestDay_4 : decode cX0_dearestDay 4 = .ok (.iconst 0, 1) := by decide +kernel
theorem dX0_dearestDay_5 : decode cX0_dearestDay 5 = .ok (.istore_n 3, 1) := by decide +kernel
theorem dX0_dearestDay_6 : decode cX0_dearestDay 6 = .ok (.iload_n 3, 1) := by decide +kernel
theorem dX0_dearestDay_7 : decode cX0_dearestDay 7 = .ok (.sipush 400, 3) := by decide +kernel
theorem dX0_dearestDay_10 : decode cX0_dearestDay 10 = .ok (.if_icmp .ge 27, 3) := by decide +kernel
theorem dX0_dearestDay_13 : decode cX0_dearestDay 13 = .ok (.aload_n 0, 1) := by decide +kernel
theorem dX0_dearestDay_14 : decode cX0_dearestDay 14 = .ok (.iload_n 3, 1) := by decide +kernel
theorem dX0_dearestDay_15 : decode cX0_dearestDay 15 = .ok (.invokevirtual 103, 3) := by decide +kernel
theorem dX0_dearestDay_18 : decode cX0_dearestDay 18 = .ok (.istore 4, 2) := by decide +kernel
theorem dX0_dearestDay_20 : decode cX0_dearestDay 20 = .ok (.iload 4, 2) := by decide +kernel
theorem dX0_dearestDay_22 : decode cX0_dearestDay 22 = .ok (.iload_n 2, 1) := by decide +kernel
theorem dX0_dearestDay_23 : decode cX0_dearestDay 23 = .ok (.if_icmp .le 8, 3) := by decide +kernel
theorem dX0_dearestDay_26 : decode cX0_dearestDay 26 = .ok (.iload 4, 2) := by decide +kernel
theorem dX0_dearestDay_28 : decode cX0_dearestDay 28 = .ok (.istore_n 2, 1) := by decide +kernel
theorem dX0_dearestDay_29 : decode cX0_dearestDay 29 = .ok (.iload_n 3, 1) := by decide +kernel
theorem dX0_dearestDay_30 : decode cX0_dearestDay 30 = .ok (.istore_n 1, 1) := by decide +kernel
theorem dX0_dearestDay_31 : decode cX0_dearestDay 31 = .ok (.iinc 3 1, 3) := by decide +kernel
theorem dX0_dearestDay_34 : decode cX0_dearestDay 34 = .ok (.goto (-28), 3) := by decide +kernel
theorem dX0_dearestDay_37 : decode cX0_dearestDay 37 = .ok (.iload_n 1, 1) := by decide +kernel
theorem dX0_dearestDay_38 : decode cX0_dearestDay 38 = .ok (.ireturn, 1) := by decide +kernel
theorem dX1_init_0 : decode cX1_init 0 = .ok (.aload_n 0, 1) := by decide +kernel
theorem dX1_init_1 : decode cX1_init 1 = .ok (.invokespecial 3, 3) := by decide +kernel
theorem dX1_init_4 : decode cX1_init 4 = .ok (.aload_n 0, 1) := by decide +kernel
theorem dX1_init_5 : decode cX1_init 5 = .ok (.bipush 20, 2) := by decide +kernel
theorem dX1_init_7 : decode cX1_init 7 = .ok (.newarray .int, 2) := by decide +kernel
theorem dX1_init_9 : decode cX1_init 9 = .ok (.putfield 9, 3) := by decide +kernel
theorem dX1_init_12 : decode cX1_init 12 = .ok (.aload_n 0, 1) := by decide +kernel
theorem dX1_init_13 : decode cX1_init 13 = .ok (.sipush 400, 3) := by decide +kernel
theorem dX1_init_16 : decode cX1_init 16 = .ok (.newarray .boolean, 2) := by decide +kernel
theorem dX1_init_18 : decode cX1_init 18 = .ok (.putfield 15, 3) := by decide +kernel
theorem dX1_init_21 : decode cX1_init 21 = .ok (.return_, 1) := by decide +kernel
theorem dX1_read_0 : decode cX1_read 0 = .ok (.aload_n 1, 1) := by decide +kernel
theorem dX1_read_1 : decode cX1_read 1 = .ok (.getfield 19, 3) := by decide +kernel
theorem dX1_read_4 : decode cX1_read 4 = .ok (.iconst 1, 1) := by decide +kernel
theorem dX1_read_5 : decode cX1_read 5 = .ok (.if_icmp .lt 15, 3) := by decide +kernel
theorem dX1_read_8 : decode cX1_read 8 = .ok (.aload_n 1, 1) := by decide +kernel
theorem dX1_read_9 : decode cX1_read 9 = .ok (.getfield 19, 3) := by decide +kernel
theorem dX1_read_12 : decode cX1_read 12 = .ok (.aload_n 0, 1) := by decide +kernel
theorem dX1_read_13 : decode cX1_read 13 = .ok (.getfield 9, 3) := by decide +kernel
theorem dX1_read_16 : decode cX1_read 16 = .ok (.arraylength, 1) := by decide +kernel
theorem dX1_read_17 : decode cX1_read 17 = .ok (.if_icmp .le 5, 3) := by decide +kernel
theorem dX1_read_20 : decode cX1_read 20 = .ok (.iconst 0, 1) := by decide +kernel
theorem dX1_read_21 : decode cX1_read 21 = .ok (.ireturn, 1) := by decide +kernel
theorem dX1_read_22 : decode cX1_read 22 = .ok (.aload_n 0, 1) := by decide +kernel
theorem dX1_read_23 : decode cX1_read 23 = .ok (.invokevirtual 25, 3) := by decide +kernel
theorem dX1_read_26 : decode cX1_read 26 = .ok (.iconst 0, 1) := by decide +kernel
theorem dX1_read_27 : decode cX1_read 27 = .ok (.istore_n 2, 1) := by decide +kernel
theorem dX1_read_28 : decode cX1_read 28 = .ok (.iload_n 2, 1) := by decide +kernel
theorem dX1_read_29 : decode cX1_read 29 = .ok (.aload_n 1, 1) := by decide +kernel
theorem dX1_read_30 : decode cX1_read 30 = .ok (.getfield 19, 3) := by decide +kernel
theorem dX1_read_33 : decode cX1_read 33 = .ok (.if_icmp .ge 56, 3) := by decide +kernel
theorem dX1_read_36 : decode cX1_read 36 = .ok (.aload_n 1, 1) := by decide +kernel
theorem dX1_read_37 : decode cX1_read 37 = .ok (.getfield 28, 3) := by decide +kernel
theorem dX1_read_40 : decode cX1_read 40 = .ok (.iload_n 2, 1) := by decide +kernel
theorem dX1_read_41 : decode cX1_read 41 = .ok (.iaload, 1) := by decide +kernel
theorem dX1_read_42 : decode cX1_read 42 = .ok (.istore_n 3, 1) := by decide +kernel
theorem dX1_read_43 : decode cX1_read 43 = .ok (.iload_n 3, 1) := by decide +kernel
theorem dX1_read_44 : decode cX1_read 44 = .ok (.invokestatic 31, 3) := by decide +kernel
theorem dX1_read_47 : decode cX1_read 47 = .ok (.ifCond .eq 15, 3) := by decide +kernel
theorem dX1_read_50 : decode cX1_read 50 = .ok (.iload_n 2, 1) := by decide +kernel
theorem dX1_read_51 : decode cX1_read 51 = .ok (.ifCond .le 13, 3) := by decide +kernel
theorem dX1_read_54 : decode cX1_read 54 = .ok (.iload_n 3, 1) := by decide +kernel
theorem dX1_read_55 : decode cX1_read 55 = .ok (.aload_n 0, 1) := by decide +kernel
theorem dX1_read_56 : decode cX1_read 56 = .ok (.getfield 35, 3) := by decide +kernel
theorem dX1_read_59 : decode cX1_read 59 = .ok (.if_icmp .gt 5, 3) := by decide +kernel
theorem dX1_read_62 : decode cX1_read 62 = .ok (.iconst 0, 1) := by decide +kernel
theorem dX1_read_63 : decode cX1_read 63 = .ok (.ireturn, 1) := by decide +kernel
theorem dX1_read_64 : decode cX1_read 64 = .ok (.aload_n 0, 1) := by decide +kernel
theorem dX1_read_65 : decode cX1_read 65 = .ok (.getfield 9, 3) := by decide +kernel
theorem dX1_read_68 : decode cX1_read 68 = .ok (.iload_n 2, 1) := by decide +kernel
theorem dX1_read_69 : decode cX1_read 69 = .ok (.iload_n 3, 1) := by decide +kernel
theorem dX1_read_70 : decode cX1_read 70 = .ok (.iastore, 1) := by decide +kernel
theorem dX1_read_71 : decode cX1_read 71 = .ok (.aload_n 0, 1) := by decide +kernel
theorem dX1_read_72 : decode cX1_read 72 = .ok (.getfield 15, 3) := by decide +kernel
theorem dX1_read_75 : decode cX1_read 75 = .ok (.iload_n 3, 1) := by decide +kernel
theorem dX1_read_76 : decode cX1_read 76 = .ok (.iconst 1, 1) := by decide +kernel
theorem dX1_read_77 : decode cX1_read 77 = .ok (.bastore, 1) := by decide +kernel
theorem dX1_read_78 : decode cX1_read 78 = .ok (.aload_n 0, 1) := by decide +kernel
theorem dX1_read_79 : decode cX1_read 79 = .ok (.iload_n 3, 1) := by decide +kernel
theorem dX1_read_80 : decode cX1_read 80 = .ok (.putfield 35, 3) := by decide +kernel
theorem dX1_read_83 : decode cX1_read 83 = .ok (.iinc 2 1, 3) := by decide +kernel
theorem dX1_read_86 : decode cX1_read 86 = .ok (.goto (-58), 3) := by decide +kernel
theorem dX1_read_89 : decode cX1_read 89 = .ok (.aload_n 0, 1) := by decide +kernel
theorem dX1_read_90 : decode cX1_read 90 = .ok (.aload_n 0, 1) := by decide +kernel
theorem dX1_read_91 : decode cX1_read 91 = .ok (.getfield 9, 3) := by decide +kernel
theorem dX1_read_94 : decode cX1_read 94 = .ok (.iconst 0, 1) := by decide +kernel
theorem dX1_read_95 : decode cX1_read 95 = .ok (.iaload, 1) := by decide +kernel
theorem dX1_read_96 : decode cX1_read 96 = .ok (.putfield 38, 3) := by decide +kernel
theorem dX1_read_99 : decode cX1_read 99 = .ok (.aload_n 0, 1) := by decide +kernel
theorem dX1_read_100 : decode cX1_read 100 = .ok (.aload_n 1, 1) := by decide +kernel
theorem dX1_read_101 : decode cX1_read 101 = .ok (.getfield 19, 3) := by decide +kernel
theorem dX1_read_104 : decode cX1_read 104 = .ok (.putfield 41, 3) := by decide +kernel
theorem dX1_read_107 : decode cX1_read 107 = .ok (.iconst 1, 1) := by decide +kernel
theorem dX1_read_108 : decode cX1_read 108 = .ok (.ireturn, 1) := by decide +kernel
theorem dX1_clear_0 : decode cX1_clear 0 = .ok (.iconst 0, 1) := by decide +kernel
theorem dX1_clear_1 : decode cX1_clear 1 = .ok (.istore_n 1, 1) := by decide +kernel
theorem dX1_clear_2 : decode cX1_clear 2 = .ok (.iload_n 1, 1) := by decide +kernel
theorem dX1_clear_3 : decode cX1_clear 3 = .ok (.sipush 400, 3) := by decide +kernel
theorem dX1_clear_6 : decode cX1_clear 6 = .ok (.if_icmp .ge 16, 3) := by decide +kernel
theorem dX1_clear_9 : decode cX1_clear 9 = .ok (.aload_n 0, 1) := by decide +kernel
theorem dX1_clear_10 : decode cX1_clear 10 = .ok (.getfield 15, 3) := by decide +kernel
theorem dX1_clear_13 : decode cX1_clear 13 = .ok (.iload_n 1, 1) := by decide +kernel
theorem dX1_clear_14 : decode cX1_clear 14 = .ok (.iconst 0, 1) := by decide +kernel
theorem dX1_clear_15 : decode cX1_clear 15 = .ok (.bastore, 1) := by decide +kernel
theorem dX1_clear_16 : decode cX1_clear 16 = .ok (.iinc 1 1, 3) := by decide +kernel
theorem dX1_clear_19 : decode cX1_clear 19 = .ok (.goto (-17), 3) := by decide +kernel
theorem dX1_clear_22 : decode cX1_clear 22 = .ok (.return_, 1) := by decide +kernel
theorem dX1_isOf_0 : decode cX1_isOf 0 = .ok (.iconst 0, 1) := by decide +kernel
theorem dX1_isOf_1 : decode cX1_isOf 1 = .ok (.istore_n 3, 1) := by decide +kernel
theorem dX1_isOf_2 : decode cX1_isOf 2 = .ok (.iload_n 3, 1) := by decide +kernel
theorem dX1_isOf_3 : decode cX1_isOf 3 = .ok (.aload_n 0, 1) := by decide +kernel
theorem dX1_isOf_4 : decode cX1_isOf 4 = .ok (.getfield 35, 3) := by decide +kernel
theorem dX1_isOf_7 : decode cX1_isOf 7 = .ok (.if_icmp .gt 26, 3) := by decide +kernel
theorem dX1_isOf_10 : decode cX1_isOf 10 = .ok (.aload_n 0, 1) := by decide +kernel
theorem dX1_isOf_11 : decode cX1_isOf 11 = .ok (.getfield 15, 3) := by decide +kernel
theorem dX1_isOf_14 : decode cX1_isOf 14 = .ok (.iload_n 3, 1) := by decide +kernel
theorem dX1_isOf_15 : decode cX1_isOf 15 = .ok (.baload, 1) := by decide +kernel
theorem dX1_isOf_16 : decode cX1_isOf 16 = .ok (.aload_n 1, 1) := by decide +kernel
theorem dX1_isOf_17 : decode cX1_isOf 17 = .ok (.iload_n 3, 1) := by decide +kernel
theorem dX1_isOf_18 : decode cX1_isOf 18 = .ok (.iload_n 2, 1) := by decide +kernel
theorem dX1_isOf_19 : decode cX1_isOf 19 = .ok (.invokevirtual 42, 3) := by decide +kernel
theorem dX1_isOf_22 : decode cX1_isOf 22 = .ok (.if_icmp .eq 5, 3) := by decide +kernel
theorem dX1_isOf_25 : decode cX1_isOf 25 = .ok (.iconst 0, 1) := by decide +kernel
theorem dX1_isOf_26 : decode cX1_isOf 26 = .ok (.ireturn, 1) := by decide +kernel
theorem dX1_isOf_27 : decode cX1_isOf 27 = .ok (.iinc 3 1, 3) := by decide +kernel
theorem dX1_isOf_30 : decode cX1_isOf 30 = .ok (.goto (-28), 3) := by decide +kernel
theorem dX1_isOf_33 : decode cX1_isOf 33 = .ok (.iconst 1, 1) := by decide +kernel
theorem dX1_isOf_34 : decode cX1_isOf 34 = .ok (.ireturn, 1) := by decide +kernel
theorem dX1_periods_0 : decode cX1_periods 0 = .ok (.ldc2_w 48, 3) := by decide +kernel
theorem dX1_periods_3 : decode cX1_periods 3 = .ok (.lstore_n 1, 1) := by decide +kernel
theorem dX1_periods_4 : decode cX1_periods 4 = .ok (.aload_n 0, 1) := by decide +kernel
theorem dX1_periods_5 : decode cX1_periods 5 = .ok (.getfield 41, 3) := by decide +kernel
theorem dX1_periods_8 : decode cX1_periods 8 = .ok (.iconst 2, 1) := by decide +kernel
theorem dX1_periods_9 : decode cX1_periods 9 = .ok (.if_icmp .ge 5, 3) := by decide +kernel
theorem dX1_periods_12 : decode cX1_periods 12 = .ok (.lload_n 1, 1) := by decide +kernel
theorem dX1_periods_13 : decode cX1_periods 13 = .ok (.lreturn, 1) := by decide +kernel
theorem dX1_periods_14 : decode cX1_periods 14 = .ok (.aload_n 0, 1) := by decide +kernel
theorem dX1_periods_15 : decode cX1_periods 15 = .ok (.getfield 9, 3) := by decide +kernel
theorem dX1_periods_18 : decode cX1_periods 18 = .ok (.iconst 1, 1) := by decide +kernel
theorem dX1_periods_19 : decode cX1_periods 19 = .ok (.iaload, 1) := by decide +kernel
theorem dX1_periods_20 : decode cX1_periods 20 = .ok (.aload_n 0, 1) := by decide +kernel
theorem dX1_periods_21 : decode cX1_periods 21 = .ok (.getfield 38, 3) := by decide +kernel
theorem dX1_periods_24 : decode cX1_periods 24 = .ok (.isub, 1) := by decide +kernel
theorem dX1_periods_25 : decode cX1_periods 25 = .ok (.istore_n 3, 1) := by decide +kernel
theorem dX1_periods_26 : decode cX1_periods 26 = .ok (.iconst 2, 1) := by decide +kernel
theorem dX1_periods_27 : decode cX1_periods 27 = .ok (.istore 4, 2) := by decide +kernel
theorem dX1_periods_29 : decode cX1_periods 29 = .ok (.iload 4, 2) := by decide +kernel
theorem dX1_periods_31 : decode cX1_periods 31 = .ok (.aload_n 0, 1) := by decide +kernel
theorem dX1_periods_32 : decode cX1_periods 32 = .ok (.getfield 41, 3) := by decide +kernel
theorem dX1_periods_35 : decode cX1_periods 35 = .ok (.if_icmp .ge 32, 3) := by decide +kernel
theorem dX1_periods_38 : decode cX1_periods 38 = .ok (.aload_n 0, 1) := by decide +kernel
theorem dX1_periods_39 : decode cX1_periods 39 = .ok (.getfield 9, 3) := by decide +kernel
theorem dX1_periods_42 : decode cX1_periods 42 = .ok (.iload 4, 2) := by decide +kernel
theorem dX1_periods_44 : decode cX1_periods 44 = .ok (.iaload, 1) := by decide +kernel
theorem dX1_periods_45 : decode cX1_periods 45 = .ok (.aload_n 0, 1) := by decide +kernel
theorem dX1_periods_46 : decode cX1_periods 46 = .ok (.getfield 9, 3) := by decide +kernel
theorem dX1_periods_49 : decode cX1_periods 49 = .ok (.iload 4, 2) := by decide +kernel
theorem dX1_periods_51 : decode cX1_periods 51 = .ok (.iconst 1, 1) := by decide +kernel
theorem dX1_periods_52 : decode cX1_periods 52 = .ok (.isub, 1) := by decide +kernel
theorem dX1_periods_53 : decode cX1_periods 53 = .ok (.iaload, 1) := by decide +kernel
theorem dX1_periods_54 : decode cX1_periods 54 = .ok (.isub, 1) := by decide +kernel
theorem dX1_periods_55 : decode cX1_periods 55 = .ok (.iload_n 3, 1) := by decide +kernel
theorem dX1_periods_56 : decode cX1_periods 56 = .ok (.if_icmp .eq 5, 3) := by decide +kernel
theorem dX1_periods_59 : decode cX1_periods 59 = .ok (.lconst 0, 1) := by decide +kernel
theorem dX1_periods_60 : decode cX1_periods 60 = .ok (.lreturn, 1) := by decide +kernel
theorem dX1_periods_61 : decode cX1_periods 61 = .ok (.iinc 4 1, 3) := by decide +kernel
theorem dX1_periods_64 : decode cX1_periods 64 = .ok (.goto (-35), 3) := by decide +kernel
theorem dX1_periods_67 : decode cX1_periods 67 = .ok (.iload_n 3, 1) := by decide +kernel
theorem dX1_periods_68 : decode cX1_periods 68 = .ok (.iconst 1, 1) := by decide +kernel
theorem dX1_periods_69 : decode cX1_periods 69 = .ok (.bipush 60, 2) := by decide +kernel
theorem dX1_periods_71 : decode cX1_periods 71 = .ok (.invokestatic 50, 3) := by decide +kernel
theorem dX1_periods_74 : decode cX1_periods 74 = .ok (.ifCond .eq 11, 3) := by decide +kernel
theorem dX1_periods_77 : decode cX1_periods 77 = .ok (.lconst 1, 1) := by decide +kernel
theorem dX1_periods_78 : decode cX1_periods 78 = .ok (.iload_n 3, 1) := by decide +kernel
theorem dX1_periods_79 : decode cX1_periods 79 = .ok (.iconst 1, 1) := by decide +kernel
theorem dX1_periods_80 : decode cX1_periods 80 = .ok (.isub, 1) := by decide +kernel
theorem dX1_periods_81 : decode cX1_periods 81 = .ok (.lshl, 1) := by decide +kernel
theorem dX1_periods_82 : decode cX1_periods 82 = .ok (.goto 4, 3) := by decide +kernel
theorem dX1_periods_85 : decode cX1_periods 85 = .ok (.lconst 0, 1) := by decide +kernel
theorem dX1_periods_86 : decode cX1_periods 86 = .ok (.lreturn, 1) := by decide +kernel
theorem dX1_twoRounds_0 : decode cX1_twoRounds 0 = .ok (.iconst 0, 1) := by decide +kernel
theorem dX1_twoRounds_1 : decode cX1_twoRounds 1 = .ok (.istore_n 1, 1) := by decide +kernel
theorem dX1_twoRounds_2 : decode cX1_twoRounds 2 = .ok (.iconst 1, 1) := by decide +kernel
theorem dX1_twoRounds_3 : decode cX1_twoRounds 3 = .ok (.istore_n 2, 1) := by decide +kernel
theorem dX1_twoRounds_4 : decode cX1_twoRounds 4 = .ok (.iload_n 2, 1) := by decide +kernel
theorem dX1_twoRounds_5 : decode cX1_twoRounds 5 = .ok (.bipush 60, 2) := by decide +kernel
theorem dX1_twoRounds_7 : decode cX1_twoRounds 7 = .ok (.if_icmp .gt 29, 3) := by decide +kernel
theorem dX1_twoRounds_10 : decode cX1_twoRounds 10 = .ok (.aload_n 0, 1) := by decide +kernel
theorem dX1_twoRounds_11 : decode cX1_twoRounds 11 = .ok (.aload_n 0, 1) := by decide +kernel
theorem dX1_twoRounds_12 : decode cX1_twoRounds 12 = .ok (.getfield 38, 3) := by decide +kernel
theorem dX1_twoRounds_15 : decode cX1_twoRounds 15 = .ok (.iload_n 2, 1) := by decide +kernel
theorem dX1_twoRounds_16 : decode cX1_twoRounds 16 = .ok (.invokevirtual 54, 3) := by decide +kernel
theorem dX1_twoRounds_19 : decode cX1_twoRounds 19 = .ok (.ifCond .eq 11, 3) := by decide +kernel
theorem dX1_twoRounds_22 : decode cX1_twoRounds 22 = .ok (.iload_n 1, 1) := by decide +kernel
theorem dX1_twoRounds_23 : decode cX1_twoRounds 23 = .ok (.aload_n 0, 1) := by decide +kernel
theorem dX1_twoRounds_24 : decode cX1_twoRounds 24 = .ok (.iload_n 2, 1) := by decide +kernel
theorem dX1_twoRounds_25 : decode cX1_twoRounds 25 = .ok (.invokevirtual 57, 3) := by decide +kernel
theorem dX1_twoRounds_28 : decode cX1_twoRounds 28 = .ok (.iadd, 1) := by decide +kernel
theorem dX1_twoRounds_29 : decode cX1_twoRounds 29 = .ok (.istore_n 1, 1) := by decide +kernel
theorem dX1_twoRounds_30 : decode cX1_twoRounds 30 = .ok (.iinc 2 1, 3) := by decide +kernel
theorem dX1_twoRounds_33 : decode cX1_twoRounds 33 = .ok (.goto (-29), 3) := by decide +kernel
theorem dX1_twoRounds_36 : decode cX1_twoRounds 36 = .ok (.iload_n 1, 1) := by decide +kernel
theorem dX1_twoRounds_37 : decode cX1_twoRounds 37 = .ok (.ireturn, 1) := by decide +kernel
theorem dX1_tellsRound_0 : decode cX1_tellsRound 0 = .ok (.iload_n 1, 1) := by decide +kernel
theorem dX1_tellsRound_1 : decode cX1_tellsRound 1 = .ok (.istore_n 3, 1) := by decide +kernel
theorem dX1_tellsRound_2 : decode cX1_tellsRound 2 = .ok (.iload_n 2, 1) := by decide +kernel
theorem dX1_tellsRound_3 : decode cX1_tellsRound 3 = .ok (.ifCond .le 29, 3) := by decide +kernel
theorem dX1_tellsRound_6 : decode cX1_tellsRound 6 = .ok (.iload_n 3, 1) := by decide +kernel
theorem dX1_tellsRound_7 : decode cX1_tellsRound 7 = .ok (.aload_n 0, 1) := by decide +kernel
theorem dX1_tellsRound_8 : decode cX1_tellsRound 8 = .ok (.getfield 35, 3) := by decide +kernel
theorem dX1_tellsRound_11 : decode cX1_tellsRound 11 = .ok (.if_icmp .gt 21, 3) := by decide +kernel
theorem dX1_tellsRound_14 : decode cX1_tellsRound 14 = .ok (.aload_n 0, 1) := by decide +kernel
theorem dX1_tellsRound_15 : decode cX1_tellsRound 15 = .ok (.getfield 15, 3) := by decide +kernel
theorem dX1_tellsRound_18 : decode cX1_tellsRound 18 = .ok (.iload_n 3, 1) := by decide +kernel
theorem dX1_tellsRound_19 : decode cX1_tellsRound 19 = .ok (.baload, 1) := by decide +kernel
theorem dX1_tellsRound_20 : decode cX1_tellsRound 20 = .ok (.ifCond .ne 5, 3) := by decide +kernel
theorem dX1_tellsRound_23 : decode cX1_tellsRound 23 = .ok (.iconst 0, 1) := by decide +kernel
theorem dX1_tellsRound_24 : decode cX1_tellsRound 24 = .ok (.ireturn, 1) := by decide +kernel
theorem dX1_tellsRound_25 : decode cX1_tellsRound 25 = .ok (.iload_n 3, 1) := by decide +kernel
theorem dX1_tellsRound_26 : decode cX1_tellsRound 26 = .ok (.iload_n 2, 1) := by decide +kernel
theorem dX1_tellsRound_27 : decode cX1_tellsRound 27 = .ok (.iadd, 1) := by decide +kernel
theorem dX1_tellsRound_28 : decode cX1_tellsRound 28 = .ok (.istore_n 3, 1) := by decide +kernel
theorem dX1_tellsRound_29 : decode cX1_tellsRound 29 = .ok (.goto (-27), 3) := by decide +kernel
theorem dX1_tellsRound_32 : decode cX1_tellsRound 32 = .ok (.iconst 1, 1) := by decide +kernel
theorem dX1_tellsRound_33 : decode cX1_tellsRound 33 = .ok (.ireturn, 1) := by decide +kernel
theorem dX1_secondRounds_0 : decode cX1_secondRounds 0 = .ok (.aload_n 0, 1) := by decide +kernel
theorem dX1_secondRounds_1 : decode cX1_secondRounds 1 = .ok (.iload_n 1, 1) := by decide +kernel
theorem dX1_secondRounds_2 : decode cX1_secondRounds 2 = .ok (.invokevirtual 61, 3) := by decide +kernel
theorem dX1_secondRounds_5 : decode cX1_secondRounds 5 = .ok (.istore_n 2, 1) := by decide +kernel
theorem dX1_secondRounds_6 : decode cX1_secondRounds 6 = .ok (.iload_n 2, 1) := by decide +kernel
theorem dX1_secondRounds_7 : decode cX1_secondRounds 7 = .ok (.iconst (-1), 1) := by decide +kernel
theorem dX1_secondRounds_8 : decode cX1_secondRounds 8 = .ok (.if_icmp .ne 6, 3) := by decide +kernel
theorem dX1_secondRounds_11 : decode cX1_secondRounds 11 = .ok (.bipush 60, 2) := by decide +kernel
theorem dX1_secondRounds_13 : decode cX1_secondRounds 13 = .ok (.ireturn, 1) := by decide +kernel
theorem dX1_secondRounds_14 : decode cX1_secondRounds 14 = .ok (.iconst 0, 1) := by decide +kernel
theorem dX1_secondRounds_15 : decode cX1_secondRounds 15 = .ok (.istore_n 3, 1) := by decide +kernel
theorem dX1_secondRounds_16 : decode cX1_secondRounds 16 = .ok (.iconst 1, 1) := by decide +kernel
theorem dX1_secondRounds_17 : decode cX1_secondRounds 17 = .ok (.istore 4, 2) := by decide +kernel
theorem dX1_secondRounds_19 : decode cX1_secondRounds 19 = .ok (.iload 4, 2) := by decide +kernel
theorem dX1_secondRounds_21 : decode cX1_secondRounds 21 = .ok (.bipush 60, 2) := by decide +kernel
theorem dX1_secondRounds_23 : decode cX1_secondRounds 23 = .ok (.if_icmp .gt 33, 3) := by decide +kernel
theorem dX1_secondRounds_26 : decode cX1_secondRounds 26 = .ok (.aload_n 0, 1) := by decide +kernel
theorem dX1_secondRounds_27 : decode cX1_secondRounds 27 = .ok (.iload_n 2, 1) := by decide +kernel
theorem dX1_secondRounds_28 : decode cX1_secondRounds 28 = .ok (.iload 4, 2) := by decide +kernel
theorem dX1_secondRounds_30 : decode cX1_secondRounds 30 = .ok (.invokevirtual 54, 3) := by decide +kernel
theorem dX1_secondRounds_33 : decode cX1_secondRounds 33 = .ok (.ifCond .eq 17, 3) := by decide +kernel
theorem dX1_secondRounds_36 : decode cX1_secondRounds 36 = .ok (.aload_n 0, 1) := by decide +kernel
theorem dX1_secondRounds_37 : decode cX1_secondRounds 37 = .ok (.iload_n 1, 1) := by decide +kernel
theorem dX1_secondRounds_38 : decode cX1_secondRounds 38 = .ok (.iload_n 2, 1) := by decide +kernel
theorem dX1_secondRounds_39 : decode cX1_secondRounds 39 = .ok (.iload 4, 2) := by decide +kernel
theorem dX1_secondRounds_41 : decode cX1_secondRounds 41 = .ok (.invokevirtual 64, 3) := by decide +kernel
theorem dX1_secondRounds_44 : decode cX1_secondRounds 44 = .ok (.ifCond .eq 6, 3) := by decide +kernel
theorem dX1_secondRounds_47 : decode cX1_secondRounds 47 = .ok (.iinc 3 1, 3) := by decide +kernel
theorem dX1_secondRounds_50 : decode cX1_secondRounds 50 = .ok (.iinc 4 1, 3) := by decide +kernel
theorem dX1_secondRounds_53 : decode cX1_secondRounds 53 = .ok (.goto (-34), 3) := by decide +kernel
theorem dX1_secondRounds_56 : decode cX1_secondRounds 56 = .ok (.iload_n 3, 1) := by decide +kernel
theorem dX1_secondRounds_57 : decode cX1_secondRounds 57 = .ok (.ireturn, 1) := by decide +kernel
theorem dX1_firstOutside_0 : decode cX1_firstOutside 0 = .ok (.iconst 0, 1) := by decide +kernel
theorem dX1_firstOutside_1 : decode cX1_firstOutside 1 = .ok (.istore_n 2, 1) := by decide +kernel
theorem dX1_firstOutside_2 : decode cX1_firstOutside 2 = .ok (.iload_n 2, 1) := by decide +kernel
theorem dX1_firstOutside_3 : decode cX1_firstOutside 3 = .ok (.aload_n 0, 1) := by decide +kernel
theorem dX1_firstOutside_4 : decode cX1_firstOutside 4 = .ok (.getfield 41, 3) := by decide +kernel
theorem dX1_firstOutside_7 : decode cX1_firstOutside 7 = .ok (.if_icmp .ge 33, 3) := by decide +kernel
theorem dX1_firstOutside_10 : decode cX1_firstOutside 10 = .ok (.aload_n 0, 1) := by decide +kernel
theorem dX1_firstOutside_11 : decode cX1_firstOutside 11 = .ok (.getfield 9, 3) := by decide +kernel
theorem dX1_firstOutside_14 : decode cX1_firstOutside 14 = .ok (.iload_n 2, 1) := by decide +kernel
theorem dX1_firstOutside_15 : decode cX1_firstOutside 15 = .ok (.iaload, 1) := by decide +kernel
theorem dX1_firstOutside_16 : decode cX1_firstOutside 16 = .ok (.aload_n 0, 1) := by decide +kernel
theorem dX1_firstOutside_17 : decode cX1_firstOutside 17 = .ok (.getfield 38, 3) := by decide +kernel
theorem dX1_firstOutside_20 : decode cX1_firstOutside 20 = .ok (.iload_n 1, 1) := by decide +kernel
theorem dX1_firstOutside_21 : decode cX1_firstOutside 21 = .ok (.invokestatic 67, 3) := by decide +kernel
theorem dX1_firstOutside_24 : decode cX1_firstOutside 24 = .ok (.ifCond .ne 10, 3) := by decide +kernel
theorem dX1_firstOutside_27 : decode cX1_firstOutside 27 = .ok (.aload_n 0, 1) := by decide +kernel
theorem dX1_firstOutside_28 : decode cX1_firstOutside 28 = .ok (.getfield 9, 3) := by decide +kernel
theorem dX1_firstOutside_31 : decode cX1_firstOutside 31 = .ok (.iload_n 2, 1) := by decide +kernel
theorem dX1_firstOutside_32 : decode cX1_firstOutside 32 = .ok (.iaload, 1) := by decide +kernel
theorem dX1_firstOutside_33 : decode cX1_firstOutside 33 = .ok (.ireturn, 1) := by decide +kernel
theorem dX1_firstOutside_34 : decode cX1_firstOutside 34 = .ok (.iinc 2 1, 3) := by decide +kernel
theorem dX1_firstOutside_37 : decode cX1_firstOutside 37 = .ok (.goto (-35), 3) := by decide +kernel
theorem dX1_firstOutside_40 : decode cX1_firstOutside 40 = .ok (.iconst (-1), 1) := by decide +kernel
theorem dX1_firstOutside_41 : decode cX1_firstOutside 41 = .ok (.ireturn, 1) := by decide +kernel
theorem dX1_areAll_0 : decode cX1_areAll 0 = .ok (.iconst 0, 1) := by decide +kernel
theorem dX1_areAll_1 : decode cX1_areAll 1 = .ok (.istore 4, 2) := by decide +kernel
theorem dX1_areAll_3 : decode cX1_areAll 3 = .ok (.iload 4, 2) := by decide +kernel
theorem dX1_areAll_5 : decode cX1_areAll 5 = .ok (.aload_n 0, 1) := by decide +kernel
theorem dX1_areAll_6 : decode cX1_areAll 6 = .ok (.getfield 41, 3) := by decide +kernel
theorem dX1_areAll_9 : decode cX1_areAll 9 = .ok (.if_icmp .ge 44, 3) := by decide +kernel
theorem dX1_areAll_12 : decode cX1_areAll 12 = .ok (.aload_n 0, 1) := by decide +kernel
theorem dX1_areAll_13 : decode cX1_areAll 13 = .ok (.getfield 9, 3) := by decide +kernel
theorem dX1_areAll_16 : decode cX1_areAll 16 = .ok (.iload 4, 2) := by decide +kernel
theorem dX1_areAll_18 : decode cX1_areAll 18 = .ok (.iaload, 1) := by decide +kernel
theorem dX1_areAll_19 : decode cX1_areAll 19 = .ok (.aload_n 0, 1) := by decide +kernel
theorem dX1_areAll_20 : decode cX1_areAll 20 = .ok (.getfield 38, 3) := by decide +kernel
theorem dX1_areAll_23 : decode cX1_areAll 23 = .ok (.iload_n 1, 1) := by decide +kernel
theorem dX1_areAll_24 : decode cX1_areAll 24 = .ok (.invokestatic 67, 3) := by decide +kernel
theorem dX1_areAll_27 : decode cX1_areAll 27 = .ok (.ifCond .ne 20, 3) := by decide +kernel
theorem dX1_areAll_30 : decode cX1_areAll 30 = .ok (.aload_n 0, 1) := by decide +kernel
theorem dX1_areAll_31 : decode cX1_areAll 31 = .ok (.getfield 9, 3) := by decide +kernel
theorem dX1_areAll_34 : decode cX1_areAll 34 = .ok (.iload 4, 2) := by decide +kernel
theorem dX1_areAll_36 : decode cX1_areAll 36 = .ok (.iaload, 1) := by decide +kernel
theorem dX1_areAll_37 : decode cX1_areAll 37 = .ok (.iload_n 2, 1) := by decide +kernel
theorem dX1_areAll_38 : decode cX1_areAll 38 = .ok (.iload_n 3, 1) := by decide +kernel
theorem dX1_areAll_39 : decode cX1_areAll 39 = .ok (.invokestatic 67, 3) := by decide +kernel
theorem dX1_areAll_42 : decode cX1_areAll 42 = .ok (.ifCond .ne 5, 3) := by decide +kernel
theorem dX1_areAll_45 : decode cX1_areAll 45 = .ok (.iconst 0, 1) := by decide +kernel
theorem dX1_areAll_46 : decode cX1_areAll 46 = .ok (.ireturn, 1) := by decide +kernel
theorem dX1_areAll_47 : decode cX1_areAll 47 = .ok (.iinc 4 1, 3) := by decide +kernel
theorem dX1_areAll_50 : decode cX1_areAll 50 = .ok (.goto (-47), 3) := by decide +kernel
theorem dX1_areAll_53 : decode cX1_areAll 53 = .ok (.iconst 1, 1) := by decide +kernel
theorem dX1_areAll_54 : decode cX1_areAll 54 = .ok (.ireturn, 1) := by decide +kernel
theorem dX1_isBehind_0 : decode cX1_isBehind 0 = .ok (.iload_n 0, 1) := by decide +kernel
theorem dX1_isBehind_1 : decode cX1_isBehind 1 = .ok (.iload_n 1, 1) := by decide +kernel
theorem dX1_isBehind_2 : decode cX1_isBehind 2 = .ok (.if_icmp .lt 19, 3) := by decide +kernel
theorem dX1_isBehind_5 : decode cX1_isBehind 5 = .ok (.iload_n 2, 1) := by decide +kernel
theorem dX1_isBehind_6 : decode cX1_isBehind 6 = .ok (.ifCond .le 15, 3) := by decide +kernel
theorem dX1_isBehind_9 : decode cX1_isBehind 9 = .ok (.iload_n 0, 1) := by decide +kernel
theorem dX1_isBehind_10 : decode cX1_isBehind 10 = .ok (.iload_n 1, 1) := by decide +kernel
theorem dX1_isBehind_11 : decode cX1_isBehind 11 = .ok (.isub, 1) := by decide +kernel
theorem dX1_isBehind_12 : decode cX1_isBehind 12 = .ok (.iload_n 2, 1) := by decide +kernel
theorem dX1_isBehind_13 : decode cX1_isBehind 13 = .ok (.irem, 1) := by decide +kernel
theorem dX1_isBehind_14 : decode cX1_isBehind 14 = .ok (.ifCond .ne 7, 3) := by decide +kernel
theorem dX1_isBehind_17 : decode cX1_isBehind 17 = .ok (.iconst 1, 1) := by decide +kernel
theorem dX1_isBehind_18 : decode cX1_isBehind 18 = .ok (.goto 4, 3) := by decide +kernel
theorem dX1_isBehind_21 : decode cX1_isBehind 21 = .ok (.iconst 0, 1) := by decide +kernel
theorem dX1_isBehind_22 : decode cX1_isBehind 22 = .ok (.ireturn, 1) := by decide +kernel
theorem dX2_init_0 : decode cX2_init 0 = .ok (.aload_n 0, 1) := by decide +kernel
theorem dX2_init_1 : decode cX2_init 1 = .ok (.invokespecial 1, 3) := by decide +kernel
theorem dX2_init_4 : decode cX2_init 4 = .ok (.return_, 1) := by decide +kernel
theorem dX2_start_0 : decode cX2_start 0 = .ok (.aload_n 0, 1) := by decide +kernel
theorem dX2_start_1 : decode cX2_start 1 = .ok (.lconst 0, 1) := by decide +kernel
theorem dX2_start_2 : decode cX2_start 2 = .ok (.putfield 7, 3) := by decide +kernel
theorem dX2_start_5 : decode cX2_start 5 = .ok (.aload_n 0, 1) := by decide +kernel
theorem dX2_start_6 : decode cX2_start 6 = .ok (.lconst 1, 1) := by decide +kernel
theorem dX2_start_7 : decode cX2_start 7 = .ok (.putfield 13, 3) := by decide +kernel
theorem dX2_start_10 : decode cX2_start 10 = .ok (.return_, 1) := by decide +kernel
theorem dX2_takeIn_0 : decode cX2_takeIn 0 = .ok (.aload_n 1, 1) := by decide +kernel
theorem dX2_takeIn_1 : decode cX2_takeIn 1 = .ok (.getfield 16, 3) := by decide +kernel
theorem dX2_takeIn_4 : decode cX2_takeIn 4 = .ok (.istore_n 2, 1) := by decide +kernel
theorem dX2_takeIn_5 : decode cX2_takeIn 5 = .ok (.aload_n 0, 1) := by decide +kernel
theorem dX2_takeIn_6 : decode cX2_takeIn 6 = .ok (.getfield 13, 3) := by decide +kernel
theorem dX2_takeIn_9 : decode cX2_takeIn 9 = .ok (.iload_n 2, 1) := by decide +kernel
theorem dX2_takeIn_10 : decode cX2_takeIn 10 = .ok (.i2l, 1) := by decide +kernel
theorem dX2_takeIn_11 : decode cX2_takeIn 11 = .ok (.invokestatic 22, 3) := by decide +kernel
theorem dX2_takeIn_14 : decode cX2_takeIn 14 = .ok (.lstore_n 3, 1) := by decide +kernel
theorem dX2_takeIn_15 : decode cX2_takeIn 15 = .ok (.iload_n 2, 1) := by decide +kernel
theorem dX2_takeIn_16 : decode cX2_takeIn 16 = .ok (.ifCond .le 9, 3) := by decide +kernel
theorem dX2_takeIn_19 : decode cX2_takeIn 19 = .ok (.lload_n 3, 1) := by decide +kernel
theorem dX2_takeIn_20 : decode cX2_takeIn 20 = .ok (.lconst 0, 1) := by decide +kernel
theorem dX2_takeIn_21 : decode cX2_takeIn 21 = .ok (.lcmp, 1) := by decide +kernel
theorem dX2_takeIn_22 : decode cX2_takeIn 22 = .ok (.ifCond .gt 5, 3) := by decide +kernel
theorem dX2_takeIn_25 : decode cX2_takeIn 25 = .ok (.iconst 0, 1) := by decide +kernel
theorem dX2_takeIn_26 : decode cX2_takeIn 26 = .ok (.ireturn, 1) := by decide +kernel
theorem dX2_takeIn_27 : decode cX2_takeIn 27 = .ok (.iconst 0, 1) := by decide +kernel
theorem dX2_takeIn_28 : decode cX2_takeIn 28 = .ok (.istore 5, 2) := by decide +kernel
theorem dX2_takeIn_30 : decode cX2_takeIn 30 = .ok (.iload 5, 2) := by decide +kernel
theorem dX2_takeIn_32 : decode cX2_takeIn 32 = .ok (.iload_n 2, 1) := by decide +kernel
theorem dX2_takeIn_33 : decode cX2_takeIn 33 = .ok (.if_icmp .ge 69, 3) := by decide +kernel
theorem dX2_takeIn_36 : decode cX2_takeIn 36 = .ok (.aload_n 0, 1) := by decide +kernel
theorem dX2_takeIn_37 : decode cX2_takeIn 37 = .ok (.getfield 7, 3) := by decide +kernel
theorem dX2_takeIn_40 : decode cX2_takeIn 40 = .ok (.iload 5, 2) := by decide +kernel
theorem dX2_takeIn_42 : decode cX2_takeIn 42 = .ok (.i2l, 1) := by decide +kernel
theorem dX2_takeIn_43 : decode cX2_takeIn 43 = .ok (.aload_n 0, 1) := by decide +kernel
theorem dX2_takeIn_44 : decode cX2_takeIn 44 = .ok (.getfield 13, 3) := by decide +kernel
theorem dX2_takeIn_47 : decode cX2_takeIn 47 = .ok (.lmul, 1) := by decide +kernel
theorem dX2_takeIn_48 : decode cX2_takeIn 48 = .ok (.ladd, 1) := by decide +kernel
theorem dX2_takeIn_49 : decode cX2_takeIn 49 = .ok (.lstore 6, 2) := by decide +kernel
theorem dX2_takeIn_51 : decode cX2_takeIn 51 = .ok (.lload 6, 2) := by decide +kernel
theorem dX2_takeIn_53 : decode cX2_takeIn 53 = .ok (.aload_n 1, 1) := by decide +kernel
theorem dX2_takeIn_54 : decode cX2_takeIn 54 = .ok (.getfield 28, 3) := by decide +kernel
theorem dX2_takeIn_57 : decode cX2_takeIn 57 = .ok (.i2l, 1) := by decide +kernel
theorem dX2_takeIn_58 : decode cX2_takeIn 58 = .ok (.lsub, 1) := by decide +kernel
theorem dX2_takeIn_59 : decode cX2_takeIn 59 = .ok (.iload_n 2, 1) := by decide +kernel
theorem dX2_takeIn_60 : decode cX2_takeIn 60 = .ok (.i2l, 1) := by decide +kernel
theorem dX2_takeIn_61 : decode cX2_takeIn 61 = .ok (.lrem, 1) := by decide +kernel
theorem dX2_takeIn_62 : decode cX2_takeIn 62 = .ok (.lconst 0, 1) := by decide +kernel
theorem dX2_takeIn_63 : decode cX2_takeIn 63 = .ok (.lcmp, 1) := by decide +kernel
theorem dX2_takeIn_64 : decode cX2_takeIn 64 = .ok (.ifCond .ne 32, 3) := by decide +kernel
theorem dX2_takeIn_67 : decode cX2_takeIn 67 = .ok (.aload_n 0, 1) := by decide +kernel
theorem dX2_takeIn_68 : decode cX2_takeIn 68 = .ok (.aload_n 0, 1) := by decide +kernel
theorem dX2_takeIn_69 : decode cX2_takeIn 69 = .ok (.getfield 13, 3) := by decide +kernel
theorem dX2_takeIn_72 : decode cX2_takeIn 72 = .ok (.lload_n 3, 1) := by decide +kernel
theorem dX2_takeIn_73 : decode cX2_takeIn 73 = .ok (.ldiv, 1) := by decide +kernel
theorem dX2_takeIn_74 : decode cX2_takeIn 74 = .ok (.iload_n 2, 1) := by decide +kernel
theorem dX2_takeIn_75 : decode cX2_takeIn 75 = .ok (.i2l, 1) := by decide +kernel
theorem dX2_takeIn_76 : decode cX2_takeIn 76 = .ok (.lmul, 1) := by decide +kernel
theorem dX2_takeIn_77 : decode cX2_takeIn 77 = .ok (.putfield 13, 3) := by decide +kernel
theorem dX2_takeIn_80 : decode cX2_takeIn 80 = .ok (.aload_n 0, 1) := by decide +kernel
theorem dX2_takeIn_81 : decode cX2_takeIn 81 = .ok (.aload_n 0, 1) := by decide +kernel
theorem dX2_takeIn_82 : decode cX2_takeIn 82 = .ok (.lload 6, 2) := by decide +kernel
theorem dX2_takeIn_84 : decode cX2_takeIn 84 = .ok (.aload_n 1, 1) := by decide +kernel
theorem dX2_takeIn_85 : decode cX2_takeIn 85 = .ok (.getfield 28, 3) := by decide +kernel
theorem dX2_takeIn_88 : decode cX2_takeIn 88 = .ok (.invokevirtual 31, 3) := by decide +kernel
theorem dX2_takeIn_91 : decode cX2_takeIn 91 = .ok (.putfield 7, 3) := by decide +kernel
theorem dX2_takeIn_94 : decode cX2_takeIn 94 = .ok (.iconst 1, 1) := by decide +kernel
theorem dX2_takeIn_95 : decode cX2_takeIn 95 = .ok (.ireturn, 1) := by decide +kernel
theorem dX2_takeIn_96 : decode cX2_takeIn 96 = .ok (.iinc 5 1, 3) := by decide +kernel
theorem dX2_takeIn_99 : decode cX2_takeIn 99 = .ok (.goto (-69), 3) := by decide +kernel
theorem dX2_takeIn_102 : decode cX2_takeIn 102 = .ok (.iconst 0, 1) := by decide +kernel
theorem dX2_takeIn_103 : decode cX2_takeIn 103 = .ok (.ireturn, 1) := by decide +kernel
theorem dX2_notAhead_0 : decode cX2_notAhead 0 = .ok (.lload_n 1, 1) := by decide +kernel
theorem dX2_notAhead_1 : decode cX2_notAhead 1 = .ok (.iload_n 3, 1) := by decide +kernel
theorem dX2_notAhead_2 : decode cX2_notAhead 2 = .ok (.i2l, 1) := by decide +kernel
theorem dX2_notAhead_3 : decode cX2_notAhead 3 = .ok (.lcmp, 1) := by decide +kernel
theorem dX2_notAhead_4 : decode cX2_notAhead 4 = .ok (.ifCond .ge 12, 3) := by decide +kernel
theorem dX2_notAhead_7 : decode cX2_notAhead 7 = .ok (.aload_n 0, 1) := by decide +kernel
theorem dX2_notAhead_8 : decode cX2_notAhead 8 = .ok (.getfield 13, 3) := by decide +kernel
theorem dX2_notAhead_11 : decode cX2_notAhead 11 = .ok (.lconst 0, 1) := by decide +kernel
theorem dX2_notAhead_12 : decode cX2_notAhead 12 = .ok (.lcmp, 1) := by decide +kernel
theorem dX2_notAhead_13 : decode cX2_notAhead 13 = .ok (.ifCond .gt 5, 3) := by decide +kernel
theorem dX2_notAhead_16 : decode cX2_notAhead 16 = .ok (.lload_n 1, 1) := by decide +kernel
theorem dX2_notAhead_17 : decode cX2_notAhead 17 = .ok (.lreturn, 1) := by decide +kernel
theorem dX2_notAhead_18 : decode cX2_notAhead 18 = .ok (.lload_n 1, 1) := by decide +kernel
theorem dX2_notAhead_19 : decode cX2_notAhead 19 = .ok (.iload_n 3, 1) := by decide +kernel
theorem dX2_notAhead_20 : decode cX2_notAhead 20 = .ok (.i2l, 1) := by decide +kernel
theorem dX2_notAhead_21 : decode cX2_notAhead 21 = .ok (.lload_n 1, 1) := by decide +kernel
theorem dX2_notAhead_22 : decode cX2_notAhead 22 = .ok (.lsub, 1) := by decide +kernel
theorem dX2_notAhead_23 : decode cX2_notAhead 23 = .ok (.aload_n 0, 1) := by decide +kernel
theorem dX2_notAhead_24 : decode cX2_notAhead 24 = .ok (.getfield 13, 3) := by decide +kernel
theorem dX2_notAhead_27 : decode cX2_notAhead 27 = .ok (.ladd, 1) := by decide +kernel
theorem dX2_notAhead_28 : decode cX2_notAhead 28 = .ok (.lconst 1, 1) := by decide +kernel
theorem dX2_notAhead_29 : decode cX2_notAhead 29 = .ok (.lsub, 1) := by decide +kernel
theorem dX2_notAhead_30 : decode cX2_notAhead 30 = .ok (.aload_n 0, 1) := by decide +kernel
theorem dX2_notAhead_31 : decode cX2_notAhead 31 = .ok (.getfield 13, 3) := by decide +kernel
theorem dX2_notAhead_34 : decode cX2_notAhead 34 = .ok (.ldiv, 1) := by decide +kernel
theorem dX2_notAhead_35 : decode cX2_notAhead 35 = .ok (.aload_n 0, 1) := by decide +kernel
theorem dX2_notAhead_36 : decode cX2_notAhead 36 = .ok (.getfield 13, 3) := by decide +kernel
theorem dX2_notAhead_39 : decode cX2_notAhead 39 = .ok (.lmul, 1) := by decide +kernel
theorem dX2_notAhead_40 : decode cX2_notAhead 40 = .ok (.ladd, 1) := by decide +kernel
theorem dX2_notAhead_41 : decode cX2_notAhead 41 = .ok (.lreturn, 1) := by decide +kernel
theorem dX3_init_0 : decode cX3_init 0 = .ok (.aload_n 0, 1) := by decide +kernel
theorem dX3_init_1 : decode cX3_init 1 = .ok (.invokespecial 3, 3) := by decide +kernel
theorem dX3_init_4 : decode cX3_init 4 = .ok (.aload_n 0, 1) := by decide +kernel
theorem dX3_init_5 : decode cX3_init 5 = .ok (.sipush 160, 3) := by decide +kernel
theorem dX3_init_8 : decode cX3_init 8 = .ok (.newarray .int, 2) := by decide +kernel
theorem dX3_init_10 : decode cX3_init 10 = .ok (.putfield 9, 3) := by decide +kernel
theorem dX3_init_13 : decode cX3_init 13 = .ok (.return_, 1) := by decide +kernel
theorem dX3_add_0 : decode cX3_add 0 = .ok (.aload_n 0, 1) := by decide +kernel
theorem dX3_add_1 : decode cX3_add 1 = .ok (.getfield 15, 3) := by decide +kernel
theorem dX3_add_4 : decode cX3_add 4 = .ok (.aload_n 0, 1) := by decide +kernel
theorem dX3_add_5 : decode cX3_add 5 = .ok (.getfield 9, 3) := by decide +kernel
theorem dX3_add_8 : decode cX3_add 8 = .ok (.arraylength, 1) := by decide +kernel
theorem dX3_add_9 : decode cX3_add 9 = .ok (.if_icmp .lt 6, 3) := by decide +kernel
theorem dX3_add_12 : decode cX3_add 12 = .ok (.bipush (-4), 2) := by decide +kernel
theorem dX3_add_14 : decode cX3_add 14 = .ok (.ireturn, 1) := by decide +kernel
theorem dX3_add_15 : decode cX3_add 15 = .ok (.aload_n 0, 1) := by decide +kernel
theorem dX3_add_16 : decode cX3_add 16 = .ok (.getfield 9, 3) := by decide +kernel
theorem dX3_add_19 : decode cX3_add 19 = .ok (.aload_n 0, 1) := by decide +kernel
theorem dX3_add_20 : decode cX3_add 20 = .ok (.getfield 15, 3) := by decide +kernel
theorem dX3_add_23 : decode cX3_add 23 = .ok (.iload_n 1, 1) := by decide +kernel
theorem dX3_add_24 : decode cX3_add 24 = .ok (.iastore, 1) := by decide +kernel
theorem dX3_add_25 : decode cX3_add 25 = .ok (.aload_n 0, 1) := by decide +kernel
theorem dX3_add_26 : decode cX3_add 26 = .ok (.dup, 1) := by decide +kernel
theorem dX3_add_27 : decode cX3_add 27 = .ok (.getfield 15, 3) := by decide +kernel
theorem dX3_add_30 : decode cX3_add 30 = .ok (.iconst 1, 1) := by decide +kernel
theorem dX3_add_31 : decode cX3_add 31 = .ok (.iadd, 1) := by decide +kernel
theorem dX3_add_32 : decode cX3_add 32 = .ok (.putfield 15, 3) := by decide +kernel
theorem dX3_add_35 : decode cX3_add 35 = .ok (.aload_n 0, 1) := by decide +kernel
theorem dX3_add_36 : decode cX3_add 36 = .ok (.getfield 15, 3) := by decide +kernel
theorem dX3_add_39 : decode cX3_add 39 = .ok (.ireturn, 1) := by decide +kernel
theorem dX3_clear_0 : decode cX3_clear 0 = .ok (.aload_n 0, 1) := by decide +kernel
theorem dX3_clear_1 : decode cX3_clear 1 = .ok (.iconst 0, 1) := by decide +kernel
theorem dX3_clear_2 : decode cX3_clear 2 = .ok (.putfield 15, 3) := by decide +kernel
theorem dX3_clear_5 : decode cX3_clear 5 = .ok (.return_, 1) := by decide +kernel
theorem dX3_read_0 : decode cX3_read 0 = .ok (.aload_n 0, 1) := by decide +kernel
theorem dX3_read_1 : decode cX3_read 1 = .ok (.aload_n 1, 1) := by decide +kernel
theorem dX3_read_2 : decode cX3_read 2 = .ok (.putfield 19, 3) := by decide +kernel
theorem dX3_read_5 : decode cX3_read 5 = .ok (.aload_n 1, 1) := by decide +kernel
theorem dX3_read_6 : decode cX3_read 6 = .ok (.invokevirtual 23, 3) := by decide +kernel
theorem dX3_read_9 : decode cX3_read 9 = .ok (.aload_n 0, 1) := by decide +kernel
theorem dX3_read_10 : decode cX3_read 10 = .ok (.iconst 0, 1) := by decide +kernel
theorem dX3_read_11 : decode cX3_read 11 = .ok (.putfield 28, 3) := by decide +kernel
theorem dX3_read_14 : decode cX3_read 14 = .ok (.aload_n 0, 1) := by decide +kernel
theorem dX3_read_15 : decode cX3_read 15 = .ok (.iconst (-1), 1) := by decide +kernel
theorem dX3_read_16 : decode cX3_read 16 = .ok (.putfield 31, 3) := by decide +kernel
theorem dX3_read_19 : decode cX3_read 19 = .ok (.aload_n 0, 1) := by decide +kernel
theorem dX3_read_20 : decode cX3_read 20 = .ok (.invokevirtual 34, 3) := by decide +kernel
theorem dX3_read_23 : decode cX3_read 23 = .ok (.iconst 0, 1) := by decide +kernel
theorem dX3_read_24 : decode cX3_read 24 = .ok (.istore_n 2, 1) := by decide +kernel
theorem dX3_read_25 : decode cX3_read 25 = .ok (.iload_n 2, 1) := by decide +kernel
theorem dX3_read_26 : decode cX3_read 26 = .ok (.iconst 3, 1) := by decide +kernel
theorem dX3_read_27 : decode cX3_read 27 = .ok (.if_icmp .ge 36, 3) := by decide +kernel
theorem dX3_read_30 : decode cX3_read 30 = .ok (.aload_n 0, 1) := by decide +kernel
theorem dX3_read_31 : decode cX3_read 31 = .ok (.bipush 6, 2) := by decide +kernel
theorem dX3_read_33 : decode cX3_read 33 = .ok (.iload_n 2, 1) := by decide +kernel
theorem dX3_read_34 : decode cX3_read 34 = .ok (.iadd, 1) := by decide +kernel
theorem dX3_read_35 : decode cX3_read 35 = .ok (.invokevirtual 37, 3) := by decide +kernel
theorem dX3_read_38 : decode cX3_read 38 = .ok (.aload_n 0, 1) := by decide +kernel
theorem dX3_read_39 : decode cX3_read 39 = .ok (.iconst 0, 1) := by decide +kernel
theorem dX3_read_40 : decode cX3_read 40 = .ok (.invokevirtual 41, 3) := by decide +kernel
theorem dX3_read_43 : decode cX3_read 43 = .ok (.aload_n 0, 1) := by decide +kernel
theorem dX3_read_44 : decode cX3_read 44 = .ok (.bipush 59, 2) := by decide +kernel
theorem dX3_read_46 : decode cX3_read 46 = .ok (.invokevirtual 37, 3) := by decide +kernel
theorem dX3_read_49 : decode cX3_read 49 = .ok (.aload_n 0, 1) := by decide +kernel
theorem dX3_read_50 : decode cX3_read 50 = .ok (.getfield 19, 3) := by decide +kernel
theorem dX3_read_53 : decode cX3_read 53 = .ok (.iload_n 2, 1) := by decide +kernel
theorem dX3_read_54 : decode cX3_read 54 = .ok (.invokevirtual 44, 3) := by decide +kernel
theorem dX3_read_57 : decode cX3_read 57 = .ok (.iinc 2 1, 3) := by decide +kernel
theorem dX3_read_60 : decode cX3_read 60 = .ok (.goto (-35), 3) := by decide +kernel
theorem dX3_read_63 : decode cX3_read 63 = .ok (.aload_n 0, 1) := by decide +kernel
theorem dX3_read_64 : decode cX3_read 64 = .ok (.iconst 0, 1) := by decide +kernel
theorem dX3_read_65 : decode cX3_read 65 = .ok (.invokevirtual 37, 3) := by decide +kernel
theorem dX3_read_68 : decode cX3_read 68 = .ok (.aload_n 0, 1) := by decide +kernel
theorem dX3_read_69 : decode cX3_read 69 = .ok (.getfield 31, 3) := by decide +kernel
theorem dX3_read_72 : decode cX3_read 72 = .ok (.ireturn, 1) := by decide +kernel
theorem dX3_need_0 : decode cX3_need 0 = .ok (.aload_n 0, 1) := by decide +kernel
theorem dX3_need_1 : decode cX3_need 1 = .ok (.getfield 47, 3) := by decide +kernel
theorem dX3_need_4 : decode cX3_need 4 = .ok (.iload_n 1, 1) := by decide +kernel
theorem dX3_need_5 : decode cX3_need 5 = .ok (.if_icmp .ne 10, 3) := by decide +kernel
theorem dX3_need_8 : decode cX3_need 8 = .ok (.aload_n 0, 1) := by decide +kernel
theorem dX3_need_9 : decode cX3_need 9 = .ok (.invokevirtual 34, 3) := by decide +kernel
theorem dX3_need_12 : decode cX3_need 12 = .ok (.goto 7, 3) := by decide +kernel
theorem dX3_need_15 : decode cX3_need 15 = .ok (.aload_n 0, 1) := by decide +kernel
theorem dX3_need_16 : decode cX3_need 16 = .ok (.invokevirtual 50, 3) := by decide +kernel
theorem dX3_need_19 : decode cX3_need 19 = .ok (.return_, 1) := by decide +kernel
theorem dX3_fail_0 : decode cX3_fail 0 = .ok (.aload_n 0, 1) := by decide +kernel
theorem dX3_fail_1 : decode cX3_fail 1 = .ok (.getfield 31, 3) := by decide +kernel
theorem dX3_fail_4 : decode cX3_fail 4 = .ok (.iconst (-1), 1) := by decide +kernel
theorem dX3_fail_5 : decode cX3_fail 5 = .ok (.if_icmp .ne 11, 3) := by decide +kernel
theorem dX3_fail_8 : decode cX3_fail 8 = .ok (.aload_n 0, 1) := by decide +kernel
theorem dX3_fail_9 : decode cX3_fail 9 = .ok (.aload_n 0, 1) := by decide +kernel
theorem dX3_fail_10 : decode cX3_fail 10 = .ok (.getfield 53, 3) := by decide +kernel
theorem dX3_fail_13 : decode cX3_fail 13 = .ok (.putfield 31, 3) := by decide +kernel
theorem dX3_fail_16 : decode cX3_fail 16 = .ok (.aload_n 0, 1) := by decide +kernel
theorem dX3_fail_17 : decode cX3_fail 17 = .ok (.iconst 1, 1) := by decide +kernel
theorem dX3_fail_18 : decode cX3_fail 18 = .ok (.putfield 47, 3) := by decide +kernel
theorem dX3_fail_21 : decode cX3_fail 21 = .ok (.return_, 1) := by decide +kernel
theorem dX3_readOrs_0 : decode cX3_readOrs 0 = .ok (.aload_n 0, 1) := by decide +kernel
theorem dX3_readOrs_1 : decode cX3_readOrs 1 = .ok (.iload_n 1, 1) := by decide +kernel
theorem dX3_readOrs_2 : decode cX3_readOrs 2 = .ok (.invokevirtual 56, 3) := by decide +kernel
theorem dX3_readOrs_5 : decode cX3_readOrs 5 = .ok (.iconst 0, 1) := by decide +kernel
theorem dX3_readOrs_6 : decode cX3_readOrs 6 = .ok (.istore_n 2, 1) := by decide +kernel
theorem dX3_readOrs_7 : decode cX3_readOrs 7 = .ok (.iload_n 2, 1) := by decide +kernel
theorem dX3_readOrs_8 : decode cX3_readOrs 8 = .ok (.sipush 160, 3) := by decide +kernel
theorem dX3_readOrs_11 : decode cX3_readOrs 11 = .ok (.if_icmp .ge 36, 3) := by decide +kernel
theorem dX3_readOrs_14 : decode cX3_readOrs 14 = .ok (.aload_n 0, 1) := by decide +kernel
theorem dX3_readOrs_15 : decode cX3_readOrs 15 = .ok (.getfield 47, 3) := by decide +kernel
theorem dX3_readOrs_18 : decode cX3_readOrs 18 = .ok (.bipush 9, 2) := by decide +kernel
theorem dX3_readOrs_20 : decode cX3_readOrs 20 = .ok (.if_icmp .ne 27, 3) := by decide +kernel
theorem dX3_readOrs_23 : decode cX3_readOrs 23 = .ok (.aload_n 0, 1) := by decide +kernel
theorem dX3_readOrs_24 : decode cX3_readOrs 24 = .ok (.invokevirtual 34, 3) := by decide +kernel
theorem dX3_readOrs_27 : decode cX3_readOrs 27 = .ok (.aload_n 0, 1) := by decide +kernel
theorem dX3_readOrs_28 : decode cX3_readOrs 28 = .ok (.iload_n 1, 1) := by decide +kernel
theorem dX3_readOrs_29 : decode cX3_readOrs 29 = .ok (.invokevirtual 56, 3) := by decide +kernel
theorem dX3_readOrs_32 : decode cX3_readOrs 32 = .ok (.aload_n 0, 1) := by decide +kernel
theorem dX3_readOrs_33 : decode cX3_readOrs 33 = .ok (.getfield 19, 3) := by decide +kernel
theorem dX3_readOrs_36 : decode cX3_readOrs 36 = .ok (.bipush (-11), 2) := by decide +kernel
theorem dX3_readOrs_38 : decode cX3_readOrs 38 = .ok (.invokevirtual 59, 3) := by decide +kernel
theorem dX3_readOrs_41 : decode cX3_readOrs 41 = .ok (.iinc 2 1, 3) := by decide +kernel
theorem dX3_readOrs_44 : decode cX3_readOrs 44 = .ok (.goto (-37), 3) := by decide +kernel
theorem dX3_readOrs_47 : decode cX3_readOrs 47 = .ok (.return_, 1) := by decide +kernel
theorem dX3_readAnds_0 : decode cX3_readAnds 0 = .ok (.aload_n 0, 1) := by decide +kernel
theorem dX3_readAnds_1 : decode cX3_readAnds 1 = .ok (.iload_n 1, 1) := by decide +kernel
theorem dX3_readAnds_2 : decode cX3_readAnds 2 = .ok (.invokevirtual 62, 3) := by decide +kernel
theorem dX3_readAnds_5 : decode cX3_readAnds 5 = .ok (.iconst 0, 1) := by decide +kernel
theorem dX3_readAnds_6 : decode cX3_readAnds 6 = .ok (.istore_n 2, 1) := by decide +kernel
theorem dX3_readAnds_7 : decode cX3_readAnds 7 = .ok (.iload_n 2, 1) := by decide +kernel
theorem dX3_readAnds_8 : decode cX3_readAnds 8 = .ok (.sipush 160, 3) := by decide +kernel
theorem dX3_readAnds_11 : decode cX3_readAnds 11 = .ok (.if_icmp .ge 36, 3) := by decide +kernel
theorem dX3_readAnds_14 : decode cX3_readAnds 14 = .ok (.aload_n 0, 1) := by decide +kernel
theorem dX3_readAnds_15 : decode cX3_readAnds 15 = .ok (.getfield 47, 3) := by decide +kernel
theorem dX3_readAnds_18 : decode cX3_readAnds 18 = .ok (.bipush 10, 2) := by decide +kernel
theorem dX3_readAnds_20 : decode cX3_readAnds 20 = .ok (.if_icmp .ne 27, 3) := by decide +kernel
theorem dX3_readAnds_23 : decode cX3_readAnds 23 = .ok (.aload_n 0, 1) := by decide +kernel
theorem dX3_readAnds_24 : decode cX3_readAnds 24 = .ok (.invokevirtual 34, 3) := by decide +kernel
theorem dX3_readAnds_27 : decode cX3_readAnds 27 = .ok (.aload_n 0, 1) := by decide +kernel
theorem dX3_readAnds_28 : decode cX3_readAnds 28 = .ok (.iload_n 1, 1) := by decide +kernel
theorem dX3_readAnds_29 : decode cX3_readAnds 29 = .ok (.invokevirtual 62, 3) := by decide +kernel
theorem dX3_readAnds_32 : decode cX3_readAnds 32 = .ok (.aload_n 0, 1) := by decide +kernel
theorem dX3_readAnds_33 : decode cX3_readAnds 33 = .ok (.getfield 19, 3) := by decide +kernel
theorem dX3_readAnds_36 : decode cX3_readAnds 36 = .ok (.bipush (-12), 2) := by decide +kernel
theorem dX3_readAnds_38 : decode cX3_readAnds 38 = .ok (.invokevirtual 59, 3) := by decide +kernel
theorem dX3_readAnds_41 : decode cX3_readAnds 41 = .ok (.iinc 2 1, 3) := by decide +kernel
theorem dX3_readAnds_44 : decode cX3_readAnds 44 = .ok (.goto (-37), 3) := by decide +kernel
theorem dX3_readAnds_47 : decode cX3_readAnds 47 = .ok (.return_, 1) := by decide +kernel
theorem dX3_readNot_0 : decode cX3_readNot 0 = .ok (.aload_n 0, 1) := by decide +kernel
theorem dX3_readNot_1 : decode cX3_readNot 1 = .ok (.getfield 47, 3) := by decide +kernel
theorem dX3_readNot_4 : decode cX3_readNot 4 = .ok (.bipush 11, 2) := by decide +kernel
theorem dX3_readNot_6 : decode cX3_readNot 6 = .ok (.if_icmp .eq 11, 3) := by decide +kernel
theorem dX3_readNot_9 : decode cX3_readNot 9 = .ok (.aload_n 0, 1) := by decide +kernel
theorem dX3_readNot_10 : decode cX3_readNot 10 = .ok (.iload_n 1, 1) := by decide +kernel
theorem dX3_readNot_11 : decode cX3_readNot 11 = .ok (.invokevirtual 65, 3) := by decide +kernel
theorem dX3_readNot_14 : decode cX3_readNot 14 = .ok (.goto 35, 3) := by decide +kernel
theorem dX3_readNot_17 : decode cX3_readNot 17 = .ok (.iload_n 1, 1) := by decide +kernel
theorem dX3_readNot_18 : decode cX3_readNot 18 = .ok (.iconst 5, 1) := by decide +kernel
theorem dX3_readNot_19 : decode cX3_readNot 19 = .ok (.if_icmp .lt 10, 3) := by decide +kernel
theorem dX3_readNot_22 : decode cX3_readNot 22 = .ok (.aload_n 0, 1) := by decide +kernel
theorem dX3_readNot_23 : decode cX3_readNot 23 = .ok (.invokevirtual 50, 3) := by decide +kernel
theorem dX3_readNot_26 : decode cX3_readNot 26 = .ok (.goto 23, 3) := by decide +kernel
theorem dX3_readNot_29 : decode cX3_readNot 29 = .ok (.aload_n 0, 1) := by decide +kernel
theorem dX3_readNot_30 : decode cX3_readNot 30 = .ok (.invokevirtual 34, 3) := by decide +kernel
theorem dX3_readNot_33 : decode cX3_readNot 33 = .ok (.aload_n 0, 1) := by decide +kernel
theorem dX3_readNot_34 : decode cX3_readNot 34 = .ok (.iload_n 1, 1) := by decide +kernel
theorem dX3_readNot_35 : decode cX3_readNot 35 = .ok (.iconst 1, 1) := by decide +kernel
theorem dX3_readNot_36 : decode cX3_readNot 36 = .ok (.iadd, 1) := by decide +kernel
theorem dX3_readNot_37 : decode cX3_readNot 37 = .ok (.invokevirtual 62, 3) := by decide +kernel
theorem dX3_readNot_40 : decode cX3_readNot 40 = .ok (.aload_n 0, 1) := by decide +kernel
theorem dX3_readNot_41 : decode cX3_readNot 41 = .ok (.getfield 19, 3) := by decide +kernel
theorem dX3_readNot_44 : decode cX3_readNot 44 = .ok (.bipush (-13), 2) := by decide +kernel
theorem dX3_readNot_46 : decode cX3_readNot 46 = .ok (.invokevirtual 59, 3) := by decide +kernel
theorem dX3_readNot_49 : decode cX3_readNot 49 = .ok (.return_, 1) := by decide +kernel
theorem dX3_readComparison_0 : decode cX3_readComparison 0 = .ok (.aload_n 0, 1) := by decide +kernel
theorem dX3_readComparison_1 : decode cX3_readComparison 1 = .ok (.iload_n 1, 1) := by decide +kernel
theorem dX3_readComparison_2 : decode cX3_readComparison 2 = .ok (.invokevirtual 68, 3) := by decide +kernel
theorem dX3_readComparison_5 : decode cX3_readComparison 5 = .ok (.aload_n 0, 1) := by decide +kernel
theorem dX3_readComparison_6 : decode cX3_readComparison 6 = .ok (.getfield 47, 3) := by decide +kernel
theorem dX3_readComparison_9 : decode cX3_readComparison 9 = .ok (.bipush 60, 2) := by decide +kernel
theorem dX3_readComparison_11 : decode cX3_readComparison 11 = .ok (.if_icmp .eq 12, 3) := by decide +kernel
theorem dX3_readComparison_14 : decode cX3_readComparison 14 = .ok (.aload_n 0, 1) := by decide +kernel
theorem dX3_readComparison_15 : decode cX3_readComparison 15 = .ok (.getfield 47, 3) := by decide +kernel
theorem dX3_readComparison_18 : decode cX3_readComparison 18 = .ok (.bipush 61, 2) := by decide +kernel
theorem dX3_readComparison_20 : decode cX3_readComparison 20 = .ok (.if_icmp .ne 37, 3) := by decide +kernel
theorem dX3_readComparison_23 : decode cX3_readComparison 23 = .ok (.aload_n 0, 1) := by decide +kernel
theorem dX3_readComparison_24 : decode cX3_readComparison 24 = .ok (.getfield 47, 3) := by decide +kernel
theorem dX3_readComparison_27 : decode cX3_readComparison 27 = .ok (.bipush 60, 2) := by decide +kernel
theorem dX3_readComparison_29 : decode cX3_readComparison 29 = .ok (.if_icmp .ne 8, 3) := by decide +kernel
theorem dX3_readComparison_32 : decode cX3_readComparison 32 = .ok (.bipush (-14), 2) := by decide +kernel
theorem dX3_readComparison_34 : decode cX3_readComparison 34 = .ok (.goto 5, 3) := by decide +kernel
theorem dX3_readComparison_37 : decode cX3_readComparison 37 = .ok (.bipush (-15), 2) := by decide +kernel
theorem dX3_readComparison_39 : decode cX3_readComparison 39 = .ok (.istore_n 2, 1) := by decide +kernel
theorem dX3_readComparison_40 : decode cX3_readComparison 40 = .ok (.aload_n 0, 1) := by decide +kernel
theorem dX3_readComparison_41 : decode cX3_readComparison 41 = .ok (.invokevirtual 34, 3) := by decide +kernel
theorem dX3_readComparison_44 : decode cX3_readComparison 44 = .ok (.aload_n 0, 1) := by decide +kernel
theorem dX3_readComparison_45 : decode cX3_readComparison 45 = .ok (.iload_n 1, 1) := by decide +kernel
theorem dX3_readComparison_46 : decode cX3_readComparison 46 = .ok (.invokevirtual 68, 3) := by decide +kernel
theorem dX3_readComparison_49 : decode cX3_readComparison 49 = .ok (.aload_n 0, 1) := by decide +kernel
theorem dX3_readComparison_50 : decode cX3_readComparison 50 = .ok (.getfield 19, 3) := by decide +kernel
theorem dX3_readComparison_53 : decode cX3_readComparison 53 = .ok (.iload_n 2, 1) := by decide +kernel
theorem dX3_readComparison_54 : decode cX3_readComparison 54 = .ok (.invokevirtual 59, 3) := by decide +kernel
theorem dX3_readComparison_57 : decode cX3_readComparison 57 = .ok (.return_, 1) := by decide +kernel
theorem dX3_readSum_0 : decode cX3_readSum 0 = .ok (.aload_n 0, 1) := by decide +kernel
theorem dX3_readSum_1 : decode cX3_readSum 1 = .ok (.iload_n 1, 1) := by decide +kernel
theorem dX3_readSum_2 : decode cX3_readSum 2 = .ok (.invokevirtual 71, 3) := by decide +kernel
theorem dX3_readSum_5 : decode cX3_readSum 5 = .ok (.iconst 0, 1) := by decide +kernel
theorem dX3_readSum_6 : decode cX3_readSum 6 = .ok (.istore_n 2, 1) := by decide +kernel
theorem dX3_readSum_7 : decode cX3_readSum 7 = .ok (.iload_n 2, 1) := by decide +kernel
theorem dX3_readSum_8 : decode cX3_readSum 8 = .ok (.sipush 160, 3) := by decide +kernel
theorem dX3_readSum_11 : decode cX3_readSum 11 = .ok (.if_icmp .ge 61, 3) := by decide +kernel
theorem dX3_readSum_14 : decode cX3_readSum 14 = .ok (.aload_n 0, 1) := by decide +kernel
theorem dX3_readSum_15 : decode cX3_readSum 15 = .ok (.getfield 47, 3) := by decide +kernel
theorem dX3_readSum_18 : decode cX3_readSum 18 = .ok (.bipush 43, 2) := by decide +kernel
theorem dX3_readSum_20 : decode cX3_readSum 20 = .ok (.if_icmp .eq 12, 3) := by decide +kernel
theorem dX3_readSum_23 : decode cX3_readSum 23 = .ok (.aload_n 0, 1) := by decide +kernel
theorem dX3_readSum_24 : decode cX3_readSum 24 = .ok (.getfield 47, 3) := by decide +kernel
theorem dX3_readSum_27 : decode cX3_readSum 27 = .ok (.bipush 45, 2) := by decide +kernel
theorem dX3_readSum_29 : decode cX3_readSum 29 = .ok (.if_icmp .ne 43, 3) := by decide +kernel
theorem dX3_readSum_32 : decode cX3_readSum 32 = .ok (.aload_n 0, 1) := by decide +kernel
theorem dX3_readSum_33 : decode cX3_readSum 33 = .ok (.getfield 47, 3) := by decide +kernel
theorem dX3_readSum_36 : decode cX3_readSum 36 = .ok (.bipush 43, 2) := by decide +kernel
theorem dX3_readSum_38 : decode cX3_readSum 38 = .ok (.if_icmp .ne 8, 3) := by decide +kernel
theorem dX3_readSum_41 : decode cX3_readSum 41 = .ok (.bipush (-16), 2) := by decide +kernel
theorem dX3_readSum_43 : decode cX3_readSum 43 = .ok (.goto 5, 3) := by decide +kernel
theorem dX3_readSum_46 : decode cX3_readSum 46 = .ok (.bipush (-17), 2) := by decide +kernel
theorem dX3_readSum_48 : decode cX3_readSum 48 = .ok (.istore_n 3, 1) := by decide +kernel
theorem dX3_readSum_49 : decode cX3_readSum 49 = .ok (.aload_n 0, 1) := by decide +kernel
theorem dX3_readSum_50 : decode cX3_readSum 50 = .ok (.invokevirtual 34, 3) := by decide +kernel
theorem dX3_readSum_53 : decode cX3_readSum 53 = .ok (.aload_n 0, 1) := by decide +kernel
theorem dX3_readSum_54 : decode cX3_readSum 54 = .ok (.iload_n 1, 1) := by decide +kernel
theorem dX3_readSum_55 : decode cX3_readSum 55 = .ok (.invokevirtual 71, 3) := by decide +kernel
theorem dX3_readSum_58 : decode cX3_readSum 58 = .ok (.aload_n 0, 1) := by decide +kernel
theorem dX3_readSum_59 : decode cX3_readSum 59 = .ok (.getfield 19, 3) := by decide +kernel
theorem dX3_readSum_62 : decode cX3_readSum 62 = .ok (.iload_n 3, 1) := by decide +kernel
theorem dX3_readSum_63 : decode cX3_readSum 63 = .ok (.invokevirtual 59, 3) := by decide +kernel
theorem dX3_readSum_66 : decode cX3_readSum 66 = .ok (.iinc 2 1, 3) := by decide +kernel
theorem dX3_readSum_69 : decode cX3_readSum 69 = .ok (.goto (-62), 3) := by decide +kernel
theorem dX3_readSum_72 : decode cX3_readSum 72 = .ok (.return_, 1) := by decide +kernel
theorem dX3_readTerm_0 : decode cX3_readTerm 0 = .ok (.aload_n 0, 1) := by decide +kernel
theorem dX3_readTerm_1 : decode cX3_readTerm 1 = .ok (.iload_n 1, 1) := by decide +kernel
theorem dX3_readTerm_2 : decode cX3_readTerm 2 = .ok (.invokevirtual 74, 3) := by decide +kernel
theorem dX3_readTerm_5 : decode cX3_readTerm 5 = .ok (.iconst 0, 1) := by decide +kernel
theorem dX3_readTerm_6 : decode cX3_readTerm 6 = .ok (.istore_n 2, 1) := by decide +kernel
theorem dX3_readTerm_7 : decode cX3_readTerm 7 = .ok (.iload_n 2, 1) := by decide +kernel
theorem dX3_readTerm_8 : decode cX3_readTerm 8 = .ok (.sipush 160, 3) := by decide +kernel
theorem dX3_readTerm_11 : decode cX3_readTerm 11 = .ok (.if_icmp .ge 36, 3) := by decide +kernel
theorem dX3_readTerm_14 : decode cX3_readTerm 14 = .ok (.aload_n 0, 1) := by decide +kernel
theorem dX3_readTerm_15 : decode cX3_readTerm 15 = .ok (.getfield 47, 3) := by decide +kernel
theorem dX3_readTerm_18 : decode cX3_readTerm 18 = .ok (.bipush 42, 2) := by decide +kernel
theorem dX3_readTerm_20 : decode cX3_readTerm 20 = .ok (.if_icmp .ne 27, 3) := by decide +kernel
theorem dX3_readTerm_23 : decode cX3_readTerm 23 = .ok (.aload_n 0, 1) := by decide +kernel
theorem dX3_readTerm_24 : decode cX3_readTerm 24 = .ok (.invokevirtual 34, 3) := by decide +kernel
theorem dX3_readTerm_27 : decode cX3_readTerm 27 = .ok (.aload_n 0, 1) := by decide +kernel
theorem dX3_readTerm_28 : decode cX3_readTerm 28 = .ok (.iload_n 1, 1) := by decide +kernel
theorem dX3_readTerm_29 : decode cX3_readTerm 29 = .ok (.invokevirtual 74, 3) := by decide +kernel
theorem dX3_readTerm_32 : decode cX3_readTerm 32 = .ok (.aload_n 0, 1) := by decide +kernel
theorem dX3_readTerm_33 : decode cX3_readTerm 33 = .ok (.getfield 19, 3) := by decide +kernel
theorem dX3_readTerm_36 : decode cX3_readTerm 36 = .ok (.bipush (-18), 2) := by decide +kernel
theorem dX3_readTerm_38 : decode cX3_readTerm 38 = .ok (.invokevirtual 59, 3) := by decide +kernel
theorem dX3_readTerm_41 : decode cX3_readTerm 41 = .ok (.iinc 2 1, 3) := by decide +kernel
theorem dX3_readTerm_44 : decode cX3_readTerm 44 = .ok (.goto (-37), 3) := by decide +kernel
theorem dX3_readTerm_47 : decode cX3_readTerm 47 = .ok (.return_, 1) := by decide +kernel
theorem dX3_readOne_0 : decode cX3_readOne 0 = .ok (.aload_n 0, 1) := by decide +kernel
theorem dX3_readOne_1 : decode cX3_readOne 1 = .ok (.getfield 47, 3) := by decide +kernel
theorem dX3_readOne_4 : decode cX3_readOne 4 = .ok (.iconst 2, 1) := by decide +kernel
theorem dX3_readOne_5 : decode cX3_readOne 5 = .ok (.if_icmp .ne 21, 3) := by decide +kernel
theorem dX3_readOne_8 : decode cX3_readOne 8 = .ok (.aload_n 0, 1) := by decide +kernel
theorem dX3_readOne_9 : decode cX3_readOne 9 = .ok (.getfield 19, 3) := by decide +kernel
theorem dX3_readOne_12 : decode cX3_readOne 12 = .ok (.aload_n 0, 1) := by decide +kernel
theorem dX3_readOne_13 : decode cX3_readOne 13 = .ok (.getfield 77, 3) := by decide +kernel
theorem dX3_readOne_16 : decode cX3_readOne 16 = .ok (.invokevirtual 59, 3) := by decide +kernel
theorem dX3_readOne_19 : decode cX3_readOne 19 = .ok (.aload_n 0, 1) := by decide +kernel
theorem dX3_readOne_20 : decode cX3_readOne 20 = .ok (.invokevirtual 34, 3) := by decide +kernel
theorem dX3_readOne_23 : decode cX3_readOne 23 = .ok (.goto 106, 3) := by decide +kernel
theorem dX3_readOne_26 : decode cX3_readOne 26 = .ok (.aload_n 0, 1) := by decide +kernel
theorem dX3_readOne_27 : decode cX3_readOne 27 = .ok (.getfield 47, 3) := by decide +kernel
theorem dX3_readOne_30 : decode cX3_readOne 30 = .ok (.iconst 3, 1) := by decide +kernel
theorem dX3_readOne_31 : decode cX3_readOne 31 = .ok (.if_icmp .ne 23, 3) := by decide +kernel
theorem dX3_readOne_34 : decode cX3_readOne 34 = .ok (.aload_n 0, 1) := by decide +kernel
theorem dX3_readOne_35 : decode cX3_readOne 35 = .ok (.getfield 19, 3) := by decide +kernel
theorem dX3_readOne_38 : decode cX3_readOne 38 = .ok (.iconst (-1), 1) := by decide +kernel
theorem dX3_readOne_39 : decode cX3_readOne 39 = .ok (.aload_n 0, 1) := by decide +kernel
theorem dX3_readOne_40 : decode cX3_readOne 40 = .ok (.getfield 77, 3) := by decide +kernel
theorem dX3_readOne_43 : decode cX3_readOne 43 = .ok (.isub, 1) := by decide +kernel
theorem dX3_readOne_44 : decode cX3_readOne 44 = .ok (.invokevirtual 59, 3) := by decide +kernel
theorem dX3_readOne_47 : decode cX3_readOne 47 = .ok (.aload_n 0, 1) := by decide +kernel
theorem dX3_readOne_48 : decode cX3_readOne 48 = .ok (.invokevirtual 34, 3) := by decide +kernel
theorem dX3_readOne_51 : decode cX3_readOne 51 = .ok (.goto 78, 3) := by decide +kernel
theorem dX3_readOne_54 : decode cX3_readOne 54 = .ok (.aload_n 0, 1) := by decide +kernel
theorem dX3_readOne_55 : decode cX3_readOne 55 = .ok (.getfield 47, 3) := by decide +kernel
theorem dX3_readOne_58 : decode cX3_readOne 58 = .ok (.bipush 45, 2) := by decide +kernel
theorem dX3_readOne_60 : decode cX3_readOne 60 = .ok (.if_icmp .ne 31, 3) := by decide +kernel
theorem dX3_readOne_63 : decode cX3_readOne 63 = .ok (.iload_n 1, 1) := by decide +kernel
theorem dX3_readOne_64 : decode cX3_readOne 64 = .ok (.iconst 5, 1) := by decide +kernel
theorem dX3_readOne_65 : decode cX3_readOne 65 = .ok (.if_icmp .ge 26, 3) := by decide +kernel
theorem dX3_readOne_68 : decode cX3_readOne 68 = .ok (.aload_n 0, 1) := by decide +kernel
theorem dX3_readOne_69 : decode cX3_readOne 69 = .ok (.invokevirtual 34, 3) := by decide +kernel
theorem dX3_readOne_72 : decode cX3_readOne 72 = .ok (.aload_n 0, 1) := by decide +kernel
theorem dX3_readOne_73 : decode cX3_readOne 73 = .ok (.iload_n 1, 1) := by decide +kernel
theorem dX3_readOne_74 : decode cX3_readOne 74 = .ok (.iconst 1, 1) := by decide +kernel
theorem dX3_readOne_75 : decode cX3_readOne 75 = .ok (.iadd, 1) := by decide +kernel
theorem dX3_readOne_76 : decode cX3_readOne 76 = .ok (.invokevirtual 74, 3) := by decide +kernel
theorem dX3_readOne_79 : decode cX3_readOne 79 = .ok (.aload_n 0, 1) := by decide +kernel
theorem dX3_readOne_80 : decode cX3_readOne 80 = .ok (.getfield 19, 3) := by decide +kernel
theorem dX3_readOne_83 : decode cX3_readOne 83 = .ok (.bipush (-19), 2) := by decide +kernel
theorem dX3_readOne_85 : decode cX3_readOne 85 = .ok (.invokevirtual 59, 3) := by decide +kernel
theorem dX3_readOne_88 : decode cX3_readOne 88 = .ok (.goto 41, 3) := by decide +kernel
theorem dX3_readOne_91 : decode cX3_readOne 91 = .ok (.aload_n 0, 1) := by decide +kernel
theorem dX3_readOne_92 : decode cX3_readOne 92 = .ok (.getfield 47, 3) := by decide +kernel
theorem dX3_readOne_95 : decode cX3_readOne 95 = .ok (.bipush 40, 2) := by decide +kernel
theorem dX3_readOne_97 : decode cX3_readOne 97 = .ok (.if_icmp .ne 28, 3) := by decide +kernel
theorem dX3_readOne_100 : decode cX3_readOne 100 = .ok (.iload_n 1, 1) := by decide +kernel
theorem dX3_readOne_101 : decode cX3_readOne 101 = .ok (.iconst 5, 1) := by decide +kernel
theorem dX3_readOne_102 : decode cX3_readOne 102 = .ok (.if_icmp .ge 23, 3) := by decide +kernel
theorem dX3_readOne_105 : decode cX3_readOne 105 = .ok (.aload_n 0, 1) := by decide +kernel
theorem dX3_readOne_106 : decode cX3_readOne 106 = .ok (.invokevirtual 34, 3) := by decide +kernel
theorem dX3_readOne_109 : decode cX3_readOne 109 = .ok (.aload_n 0, 1) := by decide +kernel
theorem dX3_readOne_110 : decode cX3_readOne 110 = .ok (.iload_n 1, 1) := by decide +kernel
theorem dX3_readOne_111 : decode cX3_readOne 111 = .ok (.iconst 1, 1) := by decide +kernel
theorem dX3_readOne_112 : decode cX3_readOne 112 = .ok (.iadd, 1) := by decide +kernel
theorem dX3_readOne_113 : decode cX3_readOne 113 = .ok (.invokevirtual 41, 3) := by decide +kernel
theorem dX3_readOne_116 : decode cX3_readOne 116 = .ok (.aload_n 0, 1) := by decide +kernel
theorem dX3_readOne_117 : decode cX3_readOne 117 = .ok (.bipush 41, 2) := by decide +kernel
theorem dX3_readOne_119 : decode cX3_readOne 119 = .ok (.invokevirtual 37, 3) := by decide +kernel
theorem dX3_readOne_122 : decode cX3_readOne 122 = .ok (.goto 7, 3) := by decide +kernel
theorem dX3_readOne_125 : decode cX3_readOne 125 = .ok (.aload_n 0, 1) := by decide +kernel
theorem dX3_readOne_126 : decode cX3_readOne 126 = .ok (.invokevirtual 50, 3) := by decide +kernel
theorem dX3_readOne_129 : decode cX3_readOne 129 = .ok (.return_, 1) := by decide +kernel
theorem dX3_advance_0 : decode cX3_advance 0 = .ok (.iconst 0, 1) := by decide +kernel
theorem dX3_advance_1 : decode cX3_advance 1 = .ok (.istore_n 1, 1) := by decide +kernel
theorem dX3_advance_2 : decode cX3_advance 2 = .ok (.iload_n 1, 1) := by decide +kernel
theorem dX3_advance_3 : decode cX3_advance 3 = .ok (.sipush 160, 3) := by decide +kernel
theorem dX3_advance_6 : decode cX3_advance 6 = .ok (.if_icmp .ge 33, 3) := by decide +kernel
theorem dX3_advance_9 : decode cX3_advance 9 = .ok (.aload_n 0, 1) := by decide +kernel
theorem dX3_advance_10 : decode cX3_advance 10 = .ok (.aload_n 0, 1) := by decide +kernel
theorem dX3_advance_11 : decode cX3_advance 11 = .ok (.getfield 28, 3) := by decide +kernel
theorem dX3_advance_14 : decode cX3_advance 14 = .ok (.invokevirtual 80, 3) := by decide +kernel
theorem dX3_advance_17 : decode cX3_advance 17 = .ok (.invokestatic 84, 3) := by decide +kernel
theorem dX3_advance_20 : decode cX3_advance 20 = .ok (.ifCond .eq 19, 3) := by decide +kernel
theorem dX3_advance_23 : decode cX3_advance 23 = .ok (.aload_n 0, 1) := by decide +kernel
theorem dX3_advance_24 : decode cX3_advance 24 = .ok (.dup, 1) := by decide +kernel
theorem dX3_advance_25 : decode cX3_advance 25 = .ok (.getfield 28, 3) := by decide +kernel
theorem dX3_advance_28 : decode cX3_advance 28 = .ok (.iconst 1, 1) := by decide +kernel
theorem dX3_advance_29 : decode cX3_advance 29 = .ok (.iadd, 1) := by decide +kernel
theorem dX3_advance_30 : decode cX3_advance 30 = .ok (.putfield 28, 3) := by decide +kernel
theorem dX3_advance_33 : decode cX3_advance 33 = .ok (.iinc 1 1, 3) := by decide +kernel
theorem dX3_advance_36 : decode cX3_advance 36 = .ok (.goto (-34), 3) := by decide +kernel
theorem dX3_advance_39 : decode cX3_advance 39 = .ok (.aload_n 0, 1) := by decide +kernel
theorem dX3_advance_40 : decode cX3_advance 40 = .ok (.aload_n 0, 1) := by decide +kernel
theorem dX3_advance_41 : decode cX3_advance 41 = .ok (.getfield 28, 3) := by decide +kernel
theorem dX3_advance_44 : decode cX3_advance 44 = .ok (.putfield 53, 3) := by decide +kernel
theorem dX3_advance_47 : decode cX3_advance 47 = .ok (.aload_n 0, 1) := by decide +kernel
theorem dX3_advance_48 : decode cX3_advance 48 = .ok (.aload_n 0, 1) := by decide +kernel
theorem dX3_advance_49 : decode cX3_advance 49 = .ok (.getfield 28, 3) := by decide +kernel
theorem dX3_advance_52 : decode cX3_advance 52 = .ok (.invokevirtual 80, 3) := by decide +kernel
theorem dX3_advance_55 : decode cX3_advance 55 = .ok (.istore_n 1, 1) := by decide +kernel
theorem dX3_advance_56 : decode cX3_advance 56 = .ok (.iload_n 1, 1) := by decide +kernel
theorem dX3_advance_57 : decode cX3_advance 57 = .ok (.iconst (-1), 1) := by decide +kernel
theorem dX3_advance_58 : decode cX3_advance 58 = .ok (.if_icmp .ne 11, 3) := by decide +kernel
theorem dX3_advance_61 : decode cX3_advance 61 = .ok (.aload_n 0, 1) := by decide +kernel
theorem dX3_advance_62 : decode cX3_advance 62 = .ok (.iconst 0, 1) := by decide +kernel
theorem dX3_advance_63 : decode cX3_advance 63 = .ok (.putfield 47, 3) := by decide +kernel
theorem dX3_advance_66 : decode cX3_advance 66 = .ok (.goto 68, 3) := by decide +kernel
theorem dX3_advance_69 : decode cX3_advance 69 = .ok (.iload_n 1, 1) := by decide +kernel
theorem dX3_advance_70 : decode cX3_advance 70 = .ok (.bipush 97, 2) := by decide +kernel
theorem dX3_advance_72 : decode cX3_advance 72 = .ok (.bipush 122, 2) := by decide +kernel
theorem dX3_advance_74 : decode cX3_advance 74 = .ok (.invokestatic 88, 3) := by decide +kernel
theorem dX3_advance_77 : decode cX3_advance 77 = .ok (.ifCond .eq 10, 3) := by decide +kernel
theorem dX3_advance_80 : decode cX3_advance 80 = .ok (.aload_n 0, 1) := by decide +kernel
theorem dX3_advance_81 : decode cX3_advance 81 = .ok (.invokevirtual 92, 3) := by decide +kernel
theorem dX3_advance_84 : decode cX3_advance 84 = .ok (.goto 50, 3) := by decide +kernel
theorem dX3_advance_87 : decode cX3_advance 87 = .ok (.iload_n 1, 1) := by decide +kernel
theorem dX3_advance_88 : decode cX3_advance 88 = .ok (.bipush 48, 2) := by decide +kernel
theorem dX3_advance_90 : decode cX3_advance 90 = .ok (.bipush 57, 2) := by decide +kernel
theorem dX3_advance_92 : decode cX3_advance 92 = .ok (.invokestatic 88, 3) := by decide +kernel
theorem dX3_advance_95 : decode cX3_advance 95 = .ok (.ifCond .eq 10, 3) := by decide +kernel
theorem dX3_advance_98 : decode cX3_advance 98 = .ok (.aload_n 0, 1) := by decide +kernel
theorem dX3_advance_99 : decode cX3_advance 99 = .ok (.invokevirtual 95, 3) := by decide +kernel
theorem dX3_advance_102 : decode cX3_advance 102 = .ok (.goto 32, 3) := by decide +kernel
theorem dX3_advance_105 : decode cX3_advance 105 = .ok (.aload_n 0, 1) := by decide +kernel
theorem dX3_advance_106 : decode cX3_advance 106 = .ok (.dup, 1) := by decide +kernel
theorem dX3_advance_107 : decode cX3_advance 107 = .ok (.getfield 28, 3) := by decide +kernel
theorem dX3_advance_110 : decode cX3_advance 110 = .ok (.iconst 1, 1) := by decide +kernel
theorem dX3_advance_111 : decode cX3_advance 111 = .ok (.iadd, 1) := by decide +kernel
theorem dX3_advance_112 : decode cX3_advance 112 = .ok (.putfield 28, 3) := by decide +kernel
theorem dX3_advance_115 : decode cX3_advance 115 = .ok (.aload_n 0, 1) := by decide +kernel
theorem dX3_advance_116 : decode cX3_advance 116 = .ok (.ldc 98, 2) := by decide +kernel
theorem dX3_advance_118 : decode cX3_advance 118 = .ok (.iload_n 1, 1) := by decide +kernel
theorem dX3_advance_119 : decode cX3_advance 119 = .ok (.i2c, 1) := by decide +kernel
theorem dX3_advance_120 : decode cX3_advance 120 = .ok (.invokevirtual 100, 3) := by decide +kernel
theorem dX3_advance_123 : decode cX3_advance 123 = .ok (.ifCond .lt 7, 3) := by decide +kernel
theorem dX3_advance_126 : decode cX3_advance 126 = .ok (.iload_n 1, 1) := by decide +kernel
theorem dX3_advance_127 : decode cX3_advance 127 = .ok (.goto 4, 3) := by decide +kernel
theorem dX3_advance_130 : decode cX3_advance 130 = .ok (.iconst 1, 1) := by decide +kernel
theorem dX3_advance_131 : decode cX3_advance 131 = .ok (.putfield 47, 3) := by decide +kernel
theorem dX3_advance_134 : decode cX3_advance 134 = .ok (.return_, 1) := by decide +kernel
theorem dX3_byteAt_0 : decode cX3_byteAt 0 = .ok (.iload_n 1, 1) := by decide +kernel
theorem dX3_byteAt_1 : decode cX3_byteAt 1 = .ok (.ifCond .lt 29, 3) := by decide +kernel
theorem dX3_byteAt_4 : decode cX3_byteAt 4 = .ok (.iload_n 1, 1) := by decide +kernel
theorem dX3_byteAt_5 : decode cX3_byteAt 5 = .ok (.aload_n 0, 1) := by decide +kernel
theorem dX3_byteAt_6 : decode cX3_byteAt 6 = .ok (.getfield 15, 3) := by decide +kernel
theorem dX3_byteAt_9 : decode cX3_byteAt 9 = .ok (.if_icmp .ge 21, 3) := by decide +kernel
theorem dX3_byteAt_12 : decode cX3_byteAt 12 = .ok (.iload_n 1, 1) := by decide +kernel
theorem dX3_byteAt_13 : decode cX3_byteAt 13 = .ok (.aload_n 0, 1) := by decide +kernel
theorem dX3_byteAt_14 : decode cX3_byteAt 14 = .ok (.getfield 9, 3) := by decide +kernel
theorem dX3_byteAt_17 : decode cX3_byteAt 17 = .ok (.arraylength, 1) := by decide +kernel
theorem dX3_byteAt_18 : decode cX3_byteAt 18 = .ok (.if_icmp .ge 12, 3) := by decide +kernel
theorem dX3_byteAt_21 : decode cX3_byteAt 21 = .ok (.aload_n 0, 1) := by decide +kernel
theorem dX3_byteAt_22 : decode cX3_byteAt 22 = .ok (.getfield 9, 3) := by decide +kernel
theorem dX3_byteAt_25 : decode cX3_byteAt 25 = .ok (.iload_n 1, 1) := by decide +kernel
theorem dX3_byteAt_26 : decode cX3_byteAt 26 = .ok (.iaload, 1) := by decide +kernel
theorem dX3_byteAt_27 : decode cX3_byteAt 27 = .ok (.goto 4, 3) := by decide +kernel
theorem dX3_byteAt_30 : decode cX3_byteAt 30 = .ok (.iconst (-1), 1) := by decide +kernel
theorem dX3_byteAt_31 : decode cX3_byteAt 31 = .ok (.ireturn, 1) := by decide +kernel
theorem dX3_isBlank_0 : decode cX3_isBlank 0 = .ok (.iload_n 0, 1) := by decide +kernel
theorem dX3_isBlank_1 : decode cX3_isBlank 1 = .ok (.bipush 32, 2) := by decide +kernel
theorem dX3_isBlank_3 : decode cX3_isBlank 3 = .ok (.if_icmp .eq 9, 3) := by decide +kernel
theorem dX3_isBlank_6 : decode cX3_isBlank 6 = .ok (.iload_n 0, 1) := by decide +kernel
theorem dX3_isBlank_7 : decode cX3_isBlank 7 = .ok (.bipush 10, 2) := by decide +kernel
theorem dX3_isBlank_9 : decode cX3_isBlank 9 = .ok (.if_icmp .ne 7, 3) := by decide +kernel
theorem dX3_isBlank_12 : decode cX3_isBlank 12 = .ok (.iconst 1, 1) := by decide +kernel
theorem dX3_isBlank_13 : decode cX3_isBlank 13 = .ok (.goto 4, 3) := by decide +kernel
theorem dX3_isBlank_16 : decode cX3_isBlank 16 = .ok (.iconst 0, 1) := by decide +kernel
theorem dX3_isBlank_17 : decode cX3_isBlank 17 = .ok (.ireturn, 1) := by decide +kernel
theorem dX3_takeWord_0 : decode cX3_takeWord 0 = .ok (.iconst 0, 1) := by decide +kernel
theorem dX3_takeWord_1 : decode cX3_takeWord 1 = .ok (.istore_n 1, 1) := by decide +kernel
theorem dX3_takeWord_2 : decode cX3_takeWord 2 = .ok (.iload_n 1, 1) := by decide +kernel
theorem dX3_takeWord_3 : decode cX3_takeWord 3 = .ok (.sipush 160, 3) := by decide +kernel
theorem dX3_takeWord_6 : decode cX3_takeWord 6 = .ok (.if_icmp .ge 37, 3) := by decide +kernel
theorem dX3_takeWord_9 : decode cX3_takeWord 9 = .ok (.aload_n 0, 1) := by decide +kernel
theorem dX3_takeWord_10 : decode cX3_takeWord 10 = .ok (.aload_n 0, 1) := by decide +kernel
theorem dX3_takeWord_11 : decode cX3_takeWord 11 = .ok (.getfield 28, 3) := by decide +kernel
theorem dX3_takeWord_14 : decode cX3_takeWord 14 = .ok (.invokevirtual 80, 3) := by decide +kernel
theorem dX3_takeWord_17 : decode cX3_takeWord 17 = .ok (.bipush 97, 2) := by decide +kernel
theorem dX3_takeWord_19 : decode cX3_takeWord 19 = .ok (.bipush 122, 2) := by decide +kernel
theorem dX3_takeWord_21 : decode cX3_takeWord 21 = .ok (.invokestatic 88, 3) := by decide +kernel
theorem dX3_takeWord_24 : decode cX3_takeWord 24 = .ok (.ifCond .eq 19, 3) := by decide +kernel
theorem dX3_takeWord_27 : decode cX3_takeWord 27 = .ok (.aload_n 0, 1) := by decide +kernel
theorem dX3_takeWord_28 : decode cX3_takeWord 28 = .ok (.dup, 1) := by decide +kernel
theorem dX3_takeWord_29 : decode cX3_takeWord 29 = .ok (.getfield 28, 3) := by decide +kernel
theorem dX3_takeWord_32 : decode cX3_takeWord 32 = .ok (.iconst 1, 1) := by decide +kernel
theorem dX3_takeWord_33 : decode cX3_takeWord 33 = .ok (.iadd, 1) := by decide +kernel
theorem dX3_takeWord_34 : decode cX3_takeWord 34 = .ok (.putfield 28, 3) := by decide +kernel
theorem dX3_takeWord_37 : decode cX3_takeWord 37 = .ok (.iinc 1 1, 3) := by decide +kernel
theorem dX3_takeWord_40 : decode cX3_takeWord 40 = .ok (.goto (-38), 3) := by decide +kernel
theorem dX3_takeWord_43 : decode cX3_takeWord 43 = .ok (.aload_n 0, 1) := by decide +kernel
theorem dX3_takeWord_44 : decode cX3_takeWord 44 = .ok (.iconst 1, 1) := by decide +kernel
theorem dX3_takeWord_45 : decode cX3_takeWord 45 = .ok (.putfield 47, 3) := by decide +kernel
theorem dX3_takeWord_48 : decode cX3_takeWord 48 = .ok (.iconst 0, 1) := by decide +kernel
theorem dX3_takeWord_49 : decode cX3_takeWord 49 = .ok (.istore_n 1, 1) := by decide +kernel
theorem dX3_takeWord_50 : decode cX3_takeWord 50 = .ok (.iload_n 1, 1) := by decide +kernel
theorem dX3_takeWord_51 : decode cX3_takeWord 51 = .ok (.bipush 12, 2) := by decide +kernel
theorem dX3_takeWord_53 : decode cX3_takeWord 53 = .ok (.if_icmp .ge 40, 3) := by decide +kernel
theorem dX3_takeWord_56 : decode cX3_takeWord 56 = .ok (.aload_n 0, 1) := by decide +kernel
theorem dX3_takeWord_57 : decode cX3_takeWord 57 = .ok (.iload_n 1, 1) := by decide +kernel
theorem dX3_takeWord_58 : decode cX3_takeWord 58 = .ok (.invokestatic 105, 3) := by decide +kernel
theorem dX3_takeWord_61 : decode cX3_takeWord 61 = .ok (.invokevirtual 109, 3) := by decide +kernel
theorem dX3_takeWord_64 : decode cX3_takeWord 64 = .ok (.ifCond .eq 23, 3) := by decide +kernel
theorem dX3_takeWord_67 : decode cX3_takeWord 67 = .ok (.aload_n 0, 1) := by decide +kernel
theorem dX3_takeWord_68 : decode cX3_takeWord 68 = .ok (.iload_n 1, 1) := by decide +kernel
theorem dX3_takeWord_69 : decode cX3_takeWord 69 = .ok (.bipush 6, 2) := by decide +kernel
theorem dX3_takeWord_71 : decode cX3_takeWord 71 = .ok (.if_icmp .ge 7, 3) := by decide +kernel
theorem dX3_takeWord_74 : decode cX3_takeWord 74 = .ok (.iconst 3, 1) := by decide +kernel
theorem dX3_takeWord_75 : decode cX3_takeWord 75 = .ok (.goto 4, 3) := by decide +kernel
theorem dX3_takeWord_78 : decode cX3_takeWord 78 = .ok (.iload_n 1, 1) := by decide +kernel
theorem dX3_takeWord_79 : decode cX3_takeWord 79 = .ok (.putfield 47, 3) := by decide +kernel
theorem dX3_takeWord_82 : decode cX3_takeWord 82 = .ok (.aload_n 0, 1) := by decide +kernel
theorem dX3_takeWord_83 : decode cX3_takeWord 83 = .ok (.iload_n 1, 1) := by decide +kernel
theorem dX3_takeWord_84 : decode cX3_takeWord 84 = .ok (.putfield 77, 3) := by decide +kernel
theorem dX3_takeWord_87 : decode cX3_takeWord 87 = .ok (.iinc 1 1, 3) := by decide +kernel
theorem dX3_takeWord_90 : decode cX3_takeWord 90 = .ok (.goto (-40), 3) := by decide +kernel
theorem dX3_takeWord_93 : decode cX3_takeWord 93 = .ok (.return_, 1) := by decide +kernel
theorem dX3_stands_0 : decode cX3_stands 0 = .ok (.aload_n 1, 1) := by decide +kernel
theorem dX3_stands_1 : decode cX3_stands 1 = .ok (.invokevirtual 113, 3) := by decide +kernel
theorem dX3_stands_4 : decode cX3_stands 4 = .ok (.aload_n 0, 1) := by decide +kernel
theorem dX3_stands_5 : decode cX3_stands 5 = .ok (.getfield 28, 3) := by decide +kernel
theorem dX3_stands_8 : decode cX3_stands 8 = .ok (.aload_n 0, 1) := by decide +kernel
theorem dX3_stands_9 : decode cX3_stands 9 = .ok (.getfield 53, 3) := by decide +kernel
theorem dX3_stands_12 : decode cX3_stands 12 = .ok (.isub, 1) := by decide +kernel
theorem dX3_stands_13 : decode cX3_stands 13 = .ok (.if_icmp .ne 22, 3) := by decide +kernel
theorem dX3_stands_16 : decode cX3_stands 16 = .ok (.aload_n 0, 1) := by decide +kernel
theorem dX3_stands_17 : decode cX3_stands 17 = .ok (.getfield 53, 3) := by decide +kernel
theorem dX3_stands_20 : decode cX3_stands 20 = .ok (.ifCond .lt 15, 3) := by decide +kernel
theorem dX3_stands_23 : decode cX3_stands 23 = .ok (.aload_n 0, 1) := by decide +kernel
theorem dX3_stands_24 : decode cX3_stands 24 = .ok (.getfield 28, 3) := by decide +kernel
theorem dX3_stands_27 : decode cX3_stands 27 = .ok (.aload_n 0, 1) := by decide +kernel
theorem dX3_stands_28 : decode cX3_stands 28 = .ok (.getfield 9, 3) := by decide +kernel
theorem dX3_stands_31 : decode cX3_stands 31 = .ok (.arraylength, 1) := by decide +kernel
theorem dX3_stands_32 : decode cX3_stands 32 = .ok (.if_icmp .le 5, 3) := by decide +kernel
theorem dX3_stands_35 : decode cX3_stands 35 = .ok (.iconst 0, 1) := by decide +kernel
theorem dX3_stands_36 : decode cX3_stands 36 = .ok (.ireturn, 1) := by decide +kernel
theorem dX3_stands_37 : decode cX3_stands 37 = .ok (.iconst 0, 1) := by decide +kernel
theorem dX3_stands_38 : decode cX3_stands 38 = .ok (.istore_n 2, 1) := by decide +kernel
theorem dX3_stands_39 : decode cX3_stands 39 = .ok (.iload_n 2, 1) := by decide +kernel
theorem dX3_stands_40 : decode cX3_stands 40 = .ok (.aload_n 1, 1) := by decide +kernel
theorem dX3_stands_41 : decode cX3_stands 41 = .ok (.invokevirtual 113, 3) := by decide +kernel
theorem dX3_stands_44 : decode cX3_stands 44 = .ok (.if_icmp .ge 30, 3) := by decide +kernel
theorem dX3_stands_47 : decode cX3_stands 47 = .ok (.aload_n 1, 1) := by decide +kernel
theorem dX3_stands_48 : decode cX3_stands 48 = .ok (.iload_n 2, 1) := by decide +kernel
theorem dX3_stands_49 : decode cX3_stands 49 = .ok (.invokevirtual 117, 3) := by decide +kernel
theorem dX3_stands_52 : decode cX3_stands 52 = .ok (.aload_n 0, 1) := by decide +kernel
theorem dX3_stands_53 : decode cX3_stands 53 = .ok (.getfield 9, 3) := by decide +kernel
theorem dX3_stands_56 : decode cX3_stands 56 = .ok (.aload_n 0, 1) := by decide +kernel
theorem dX3_stands_57 : decode cX3_stands 57 = .ok (.getfield 53, 3) := by decide +kernel
theorem dX3_stands_60 : decode cX3_stands 60 = .ok (.iload_n 2, 1) := by decide +kernel
theorem dX3_stands_61 : decode cX3_stands 61 = .ok (.iadd, 1) := by decide +kernel
theorem dX3_stands_62 : decode cX3_stands 62 = .ok (.iaload, 1) := by decide +kernel
theorem dX3_stands_63 : decode cX3_stands 63 = .ok (.if_icmp .eq 5, 3) := by decide +kernel
theorem dX3_stands_66 : decode cX3_stands 66 = .ok (.iconst 0, 1) := by decide +kernel
theorem dX3_stands_67 : decode cX3_stands 67 = .ok (.ireturn, 1) := by decide +kernel
theorem dX3_stands_68 : decode cX3_stands 68 = .ok (.iinc 2 1, 3) := by decide +kernel
theorem dX3_stands_71 : decode cX3_stands 71 = .ok (.goto (-32), 3) := by decide +kernel
theorem dX3_stands_74 : decode cX3_stands 74 = .ok (.iconst 1, 1) := by decide +kernel
theorem dX3_stands_75 : decode cX3_stands 75 = .ok (.ireturn, 1) := by decide +kernel
theorem dX3_spelling_0 : decode cX3_spelling 0 = .ok (.iload_n 0, 1) := by decide +kernel
theorem dX3_spelling_1 : decode cX3_spelling 1 = .ok (.tableswitch 92 0 10 #[59, 62, 65, 68, 71, 74, 77, 80, 83, 86, 89], 59) := by decide +kernel
theorem dX3_spelling_60 : decode cX3_spelling 60 = .ok (.ldc 121, 2) := by decide +kernel
theorem dX3_spelling_62 : decode cX3_spelling 62 = .ok (.areturn, 1) := by decide +kernel
theorem dX3_spelling_63 : decode cX3_spelling 63 = .ok (.ldc 123, 2) := by decide +kernel
theorem dX3_spelling_65 : decode cX3_spelling 65 = .ok (.areturn, 1) := by decide +kernel
theorem dX3_spelling_66 : decode cX3_spelling 66 = .ok (.ldc 125, 2) := by decide +kernel
theorem dX3_spelling_68 : decode cX3_spelling 68 = .ok (.areturn, 1) := by decide +kernel
theorem dX3_spelling_69 : decode cX3_spelling 69 = .ok (.ldc 127, 2) := by decide +kernel
theorem dX3_spelling_71 : decode cX3_spelling 71 = .ok (.areturn, 1) := by decide +kernel
theorem dX3_spelling_72 : decode cX3_spelling 72 = .ok (.ldc 129, 2) := by decide +kernel
theorem dX3_spelling_74 : decode cX3_spelling 74 = .ok (.areturn, 1) := by decide +kernel
theorem dX3_spelling_75 : decode cX3_spelling 75 = .ok (.ldc 131, 2) := by decide +kernel
theorem dX3_spelling_77 : decode cX3_spelling 77 = .ok (.areturn, 1) := by decide +kernel
theorem dX3_spelling_78 : decode cX3_spelling 78 = .ok (.ldc 133, 2) := by decide +kernel
theorem dX3_spelling_80 : decode cX3_spelling 80 = .ok (.areturn, 1) := by decide +kernel
theorem dX3_spelling_81 : decode cX3_spelling 81 = .ok (.ldc 135, 2) := by decide +kernel
theorem dX3_spelling_83 : decode cX3_spelling 83 = .ok (.areturn, 1) := by decide +kernel
theorem dX3_spelling_84 : decode cX3_spelling 84 = .ok (.ldc 137, 2) := by decide +kernel
theorem dX3_spelling_86 : decode cX3_spelling 86 = .ok (.areturn, 1) := by decide +kernel
theorem dX3_spelling_87 : decode cX3_spelling 87 = .ok (.ldc 139, 2) := by decide +kernel
theorem dX3_spelling_89 : decode cX3_spelling 89 = .ok (.areturn, 1) := by decide +kernel
theorem dX3_spelling_90 : decode cX3_spelling 90 = .ok (.ldc 141, 2) := by decide +kernel
theorem dX3_spelling_92 : decode cX3_spelling 92 = .ok (.areturn, 1) := by decide +kernel
theorem dX3_spelling_93 : decode cX3_spelling 93 = .ok (.ldc 143, 2) := by decide +kernel
theorem dX3_spelling_95 : decode cX3_spelling 95 = .ok (.areturn, 1) := by decide +kernel
theorem dX3_takeNumeral_0 : decode cX3_takeNumeral 0 = .ok (.aload_n 0, 1) := by decide +kernel
theorem dX3_takeNumeral_1 : decode cX3_takeNumeral 1 = .ok (.iconst 0, 1) := by decide +kernel
theorem dX3_takeNumeral_2 : decode cX3_takeNumeral 2 = .ok (.putfield 77, 3) := by decide +kernel
theorem dX3_takeNumeral_5 : decode cX3_takeNumeral 5 = .ok (.iconst 0, 1) := by decide +kernel
theorem dX3_takeNumeral_6 : decode cX3_takeNumeral 6 = .ok (.istore_n 1, 1) := by decide +kernel
theorem dX3_takeNumeral_7 : decode cX3_takeNumeral 7 = .ok (.iload_n 1, 1) := by decide +kernel
theorem dX3_takeNumeral_8 : decode cX3_takeNumeral 8 = .ok (.sipush 160, 3) := by decide +kernel
theorem dX3_takeNumeral_11 : decode cX3_takeNumeral 11 = .ok (.if_icmp .ge 60, 3) := by decide +kernel
theorem dX3_takeNumeral_14 : decode cX3_takeNumeral 14 = .ok (.aload_n 0, 1) := by decide +kernel
theorem dX3_takeNumeral_15 : decode cX3_takeNumeral 15 = .ok (.aload_n 0, 1) := by decide +kernel
theorem dX3_takeNumeral_16 : decode cX3_takeNumeral 16 = .ok (.getfield 28, 3) := by decide +kernel
theorem dX3_takeNumeral_19 : decode cX3_takeNumeral 19 = .ok (.invokevirtual 80, 3) := by decide +kernel
theorem dX3_takeNumeral_22 : decode cX3_takeNumeral 22 = .ok (.bipush 48, 2) := by decide +kernel
theorem dX3_takeNumeral_24 : decode cX3_takeNumeral 24 = .ok (.bipush 57, 2) := by decide +kernel
theorem dX3_takeNumeral_26 : decode cX3_takeNumeral 26 = .ok (.invokestatic 88, 3) := by decide +kernel
theorem dX3_takeNumeral_29 : decode cX3_takeNumeral 29 = .ok (.ifCond .eq 42, 3) := by decide +kernel
theorem dX3_takeNumeral_32 : decode cX3_takeNumeral 32 = .ok (.aload_n 0, 1) := by decide +kernel
theorem dX3_takeNumeral_33 : decode cX3_takeNumeral 33 = .ok (.aload_n 0, 1) := by decide +kernel
theorem dX3_takeNumeral_34 : decode cX3_takeNumeral 34 = .ok (.getfield 77, 3) := by decide +kernel
theorem dX3_takeNumeral_37 : decode cX3_takeNumeral 37 = .ok (.bipush 10, 2) := by decide +kernel
theorem dX3_takeNumeral_39 : decode cX3_takeNumeral 39 = .ok (.imul, 1) := by decide +kernel
theorem dX3_takeNumeral_40 : decode cX3_takeNumeral 40 = .ok (.aload_n 0, 1) := by decide +kernel
theorem dX3_takeNumeral_41 : decode cX3_takeNumeral 41 = .ok (.aload_n 0, 1) := by decide +kernel
theorem dX3_takeNumeral_42 : decode cX3_takeNumeral 42 = .ok (.getfield 28, 3) := by decide +kernel
theorem dX3_takeNumeral_45 : decode cX3_takeNumeral 45 = .ok (.invokevirtual 80, 3) := by decide +kernel
theorem dX3_takeNumeral_48 : decode cX3_takeNumeral 48 = .ok (.iadd, 1) := by decide +kernel
theorem dX3_takeNumeral_49 : decode cX3_takeNumeral 49 = .ok (.bipush 48, 2) := by decide +kernel
theorem dX3_takeNumeral_51 : decode cX3_takeNumeral 51 = .ok (.isub, 1) := by decide +kernel
theorem dX3_takeNumeral_52 : decode cX3_takeNumeral 52 = .ok (.putfield 77, 3) := by decide +kernel
theorem dX3_takeNumeral_55 : decode cX3_takeNumeral 55 = .ok (.aload_n 0, 1) := by decide +kernel
theorem dX3_takeNumeral_56 : decode cX3_takeNumeral 56 = .ok (.dup, 1) := by decide +kernel
theorem dX3_takeNumeral_57 : decode cX3_takeNumeral 57 = .ok (.getfield 28, 3) := by decide +kernel
theorem dX3_takeNumeral_60 : decode cX3_takeNumeral 60 = .ok (.iconst 1, 1) := by decide +kernel
theorem dX3_takeNumeral_61 : decode cX3_takeNumeral 61 = .ok (.iadd, 1) := by decide +kernel
theorem dX3_takeNumeral_62 : decode cX3_takeNumeral 62 = .ok (.putfield 28, 3) := by decide +kernel
theorem dX3_takeNumeral_65 : decode cX3_takeNumeral 65 = .ok (.iinc 1 1, 3) := by decide +kernel
theorem dX3_takeNumeral_68 : decode cX3_takeNumeral 68 = .ok (.goto (-61), 3) := by decide +kernel
theorem dX3_takeNumeral_71 : decode cX3_takeNumeral 71 = .ok (.aload_n 0, 1) := by decide +kernel
theorem dX3_takeNumeral_72 : decode cX3_takeNumeral 72 = .ok (.aload_n 0, 1) := by decide +kernel
theorem dX3_takeNumeral_73 : decode cX3_takeNumeral 73 = .ok (.getfield 28, 3) := by decide +kernel
theorem dX3_takeNumeral_76 : decode cX3_takeNumeral 76 = .ok (.aload_n 0, 1) := by decide +kernel
theorem dX3_takeNumeral_77 : decode cX3_takeNumeral 77 = .ok (.getfield 53, 3) := by decide +kernel
theorem dX3_takeNumeral_80 : decode cX3_takeNumeral 80 = .ok (.isub, 1) := by decide +kernel
theorem dX3_takeNumeral_81 : decode cX3_takeNumeral 81 = .ok (.iconst 4, 1) := by decide +kernel
theorem dX3_takeNumeral_82 : decode cX3_takeNumeral 82 = .ok (.if_icmp .gt 7, 3) := by decide +kernel
theorem dX3_takeNumeral_85 : decode cX3_takeNumeral 85 = .ok (.iconst 2, 1) := by decide +kernel
theorem dX3_takeNumeral_86 : decode cX3_takeNumeral 86 = .ok (.goto 4, 3) := by decide +kernel
theorem dX3_takeNumeral_89 : decode cX3_takeNumeral 89 = .ok (.iconst 1, 1) := by decide +kernel
theorem dX3_takeNumeral_90 : decode cX3_takeNumeral 90 = .ok (.putfield 47, 3) := by decide +kernel
theorem dX3_takeNumeral_93 : decode cX3_takeNumeral 93 = .ok (.return_, 1) := by decide +kernel
theorem dX4_init_0 : decode cX4_init 0 = .ok (.aload_n 0, 1) := by decide +kernel
theorem dX4_init_1 : decode cX4_init 1 = .ok (.invokespecial 3, 3) := by decide +kernel
theorem dX4_init_4 : decode cX4_init 4 = .ok (.aload_n 0, 1) := by decide +kernel
theorem dX4_init_5 : decode cX4_init 5 = .ok (.bipush 6, 2) := by decide +kernel
theorem dX4_init_7 : decode cX4_init 7 = .ok (.newarray .int, 2) := by decide +kernel
theorem dX4_init_9 : decode cX4_init 9 = .ok (.putfield 9, 3) := by decide +kernel
theorem dX4_init_12 : decode cX4_init 12 = .ok (.aload_n 0, 1) := by decide +kernel
theorem dX4_init_13 : decode cX4_init 13 = .ok (.bipush 31, 2) := by decide +kernel
theorem dX4_init_15 : decode cX4_init 15 = .ok (.newarray .int, 2) := by decide +kernel
theorem dX4_init_17 : decode cX4_init 17 = .ok (.putfield 15, 3) := by decide +kernel
theorem dX4_init_20 : decode cX4_init 20 = .ok (.return_, 1) := by decide +kernel
theorem dX4_nameDay_0 : decode cX4_nameDay 0 = .ok (.aload_n 0, 1) := by decide +kernel
theorem dX4_nameDay_1 : decode cX4_nameDay 1 = .ok (.getfield 9, 3) := by decide +kernel
theorem dX4_nameDay_4 : decode cX4_nameDay 4 = .ok (.iconst 0, 1) := by decide +kernel
theorem dX4_nameDay_5 : decode cX4_nameDay 5 = .ok (.iload_n 1, 1) := by decide +kernel
theorem dX4_nameDay_6 : decode cX4_nameDay 6 = .ok (.iastore, 1) := by decide +kernel
theorem dX4_nameDay_7 : decode cX4_nameDay 7 = .ok (.aload_n 0, 1) := by decide +kernel
theorem dX4_nameDay_8 : decode cX4_nameDay 8 = .ok (.getfield 9, 3) := by decide +kernel
theorem dX4_nameDay_11 : decode cX4_nameDay 11 = .ok (.iconst 2, 1) := by decide +kernel
theorem dX4_nameDay_12 : decode cX4_nameDay 12 = .ok (.iload_n 2, 1) := by decide +kernel
theorem dX4_nameDay_13 : decode cX4_nameDay 13 = .ok (.iastore, 1) := by decide +kernel
theorem dX4_nameDay_14 : decode cX4_nameDay 14 = .ok (.aload_n 0, 1) := by decide +kernel
theorem dX4_nameDay_15 : decode cX4_nameDay 15 = .ok (.getfield 9, 3) := by decide +kernel
theorem dX4_nameDay_18 : decode cX4_nameDay 18 = .ok (.iconst 4, 1) := by decide +kernel
theorem dX4_nameDay_19 : decode cX4_nameDay 19 = .ok (.iload_n 3, 1) := by decide +kernel
theorem dX4_nameDay_20 : decode cX4_nameDay 20 = .ok (.iastore, 1) := by decide +kernel
theorem dX4_nameDay_21 : decode cX4_nameDay 21 = .ok (.return_, 1) := by decide +kernel
theorem dX4_nameThing_0 : decode cX4_nameThing 0 = .ok (.aload_n 0, 1) := by decide +kernel
theorem dX4_nameThing_1 : decode cX4_nameThing 1 = .ok (.getfield 9, 3) := by decide +kernel
theorem dX4_nameThing_4 : decode cX4_nameThing 4 = .ok (.iconst 1, 1) := by decide +kernel
theorem dX4_nameThing_5 : decode cX4_nameThing 5 = .ok (.iload_n 1, 1) := by decide +kernel
theorem dX4_nameThing_6 : decode cX4_nameThing 6 = .ok (.iastore, 1) := by decide +kernel
theorem dX4_nameThing_7 : decode cX4_nameThing 7 = .ok (.aload_n 0, 1) := by decide +kernel
theorem dX4_nameThing_8 : decode cX4_nameThing 8 = .ok (.getfield 9, 3) := by decide +kernel
theorem dX4_nameThing_11 : decode cX4_nameThing 11 = .ok (.iconst 3, 1) := by decide +kernel
theorem dX4_nameThing_12 : decode cX4_nameThing 12 = .ok (.iload_n 2, 1) := by decide +kernel
theorem dX4_nameThing_13 : decode cX4_nameThing 13 = .ok (.iastore, 1) := by decide +kernel
theorem dX4_nameThing_14 : decode cX4_nameThing 14 = .ok (.aload_n 0, 1) := by decide +kernel
theorem dX4_nameThing_15 : decode cX4_nameThing 15 = .ok (.getfield 9, 3) := by decide +kernel
theorem dX4_nameThing_18 : decode cX4_nameThing 18 = .ok (.iconst 5, 1) := by decide +kernel
theorem dX4_nameThing_19 : decode cX4_nameThing 19 = .ok (.iload_n 3, 1) := by decide +kernel
theorem dX4_nameThing_20 : decode cX4_nameThing 20 = .ok (.iastore, 1) := by decide +kernel
theorem dX4_nameThing_21 : decode cX4_nameThing 21 = .ok (.return_, 1) := by decide +kernel
theorem dX4_tells_0 : decode cX4_tells 0 = .ok (.aload_n 0, 1) := by decide +kernel
theorem dX4_tells_1 : decode cX4_tells 1 = .ok (.iconst 0, 1) := by decide +kernel
theorem dX4_tells_2 : decode cX4_tells 2 = .ok (.putfield 18, 3) := by decide +kernel
theorem dX4_tells_5 : decode cX4_tells 5 = .ok (.aload_n 1, 1) := by decide +kernel
theorem dX4_tells_6 : decode cX4_tells 6 = .ok (.iload_n 2, 1) := by decide +kernel
theorem dX4_tells_7 : decode cX4_tells 7 = .ok (.invokevirtual 22, 3) := by decide +kernel
theorem dX4_tells_10 : decode cX4_tells 10 = .ok (.aload_n 1, 1) := by decide +kernel
theorem dX4_tells_11 : decode cX4_tells 11 = .ok (.getfield 28, 3) := by decide +kernel
theorem dX4_tells_14 : decode cX4_tells 14 = .ok (.arraylength, 1) := by decide +kernel
theorem dX4_tells_15 : decode cX4_tells 15 = .ok (.invokestatic 31, 3) := by decide +kernel
theorem dX4_tells_18 : decode cX4_tells 18 = .ok (.istore_n 3, 1) := by decide +kernel
theorem dX4_tells_19 : decode cX4_tells 19 = .ok (.aload_n 1, 1) := by decide +kernel
theorem dX4_tells_20 : decode cX4_tells 20 = .ok (.iload_n 2, 1) := by decide +kernel
theorem dX4_tells_21 : decode cX4_tells 21 = .ok (.invokevirtual 37, 3) := by decide +kernel
theorem dX4_tells_24 : decode cX4_tells 24 = .ok (.iconst 0, 1) := by decide +kernel
theorem dX4_tells_25 : decode cX4_tells 25 = .ok (.invokestatic 40, 3) := by decide +kernel
theorem dX4_tells_28 : decode cX4_tells 28 = .ok (.istore 4, 2) := by decide +kernel
theorem dX4_tells_30 : decode cX4_tells 30 = .ok (.iload 4, 2) := by decide +kernel
theorem dX4_tells_32 : decode cX4_tells 32 = .ok (.iload_n 3, 1) := by decide +kernel
theorem dX4_tells_33 : decode cX4_tells 33 = .ok (.if_icmp .ge 20, 3) := by decide +kernel
theorem dX4_tells_36 : decode cX4_tells 36 = .ok (.aload_n 0, 1) := by decide +kernel
theorem dX4_tells_37 : decode cX4_tells 37 = .ok (.aload_n 1, 1) := by decide +kernel
theorem dX4_tells_38 : decode cX4_tells 38 = .ok (.getfield 28, 3) := by decide +kernel
theorem dX4_tells_41 : decode cX4_tells 41 = .ok (.iload 4, 2) := by decide +kernel
theorem dX4_tells_43 : decode cX4_tells 43 = .ok (.iaload, 1) := by decide +kernel
theorem dX4_tells_44 : decode cX4_tells 44 = .ok (.invokevirtual 43, 3) := by decide +kernel
theorem dX4_tells_47 : decode cX4_tells 47 = .ok (.iinc 4 1, 3) := by decide +kernel
theorem dX4_tells_50 : decode cX4_tells 50 = .ok (.goto (-20), 3) := by decide +kernel
theorem dX4_tells_53 : decode cX4_tells 53 = .ok (.aload_n 0, 1) := by decide +kernel
theorem dX4_tells_54 : decode cX4_tells 54 = .ok (.getfield 18, 3) := by decide +kernel
theorem dX4_tells_57 : decode cX4_tells 57 = .ok (.ifCond .le 12, 3) := by decide +kernel
theorem dX4_tells_60 : decode cX4_tells 60 = .ok (.aload_n 0, 1) := by decide +kernel
theorem dX4_tells_61 : decode cX4_tells 61 = .ok (.getfield 15, 3) := by decide +kernel
theorem dX4_tells_64 : decode cX4_tells 64 = .ok (.iconst 0, 1) := by decide +kernel
theorem dX4_tells_65 : decode cX4_tells 65 = .ok (.iaload, 1) := by decide +kernel
theorem dX4_tells_66 : decode cX4_tells 66 = .ok (.goto 4, 3) := by decide +kernel
theorem dX4_tells_69 : decode cX4_tells 69 = .ok (.iconst 0, 1) := by decide +kernel
theorem dX4_tells_70 : decode cX4_tells 70 = .ok (.istore 4, 2) := by decide +kernel
theorem dX4_tells_72 : decode cX4_tells 72 = .ok (.iconst 0, 1) := by decide +kernel
theorem dX4_tells_73 : decode cX4_tells 73 = .ok (.iload 4, 2) := by decide +kernel
theorem dX4_tells_75 : decode cX4_tells 75 = .ok (.bipush 99, 2) := by decide +kernel
theorem dX4_tells_77 : decode cX4_tells 77 = .ok (.invokestatic 31, 3) := by decide +kernel
theorem dX4_tells_80 : decode cX4_tells 80 = .ok (.invokestatic 40, 3) := by decide +kernel
theorem dX4_tells_83 : decode cX4_tells 83 = .ok (.ireturn, 1) := by decide +kernel
theorem dX4_take_0 : decode cX4_take 0 = .ok (.iconst (-1), 1) := by decide +kernel
theorem dX4_take_1 : decode cX4_take 1 = .ok (.iload_n 1, 1) := by decide +kernel
theorem dX4_take_2 : decode cX4_take 2 = .ok (.isub, 1) := by decide +kernel
theorem dX4_take_3 : decode cX4_take 3 = .ok (.istore_n 2, 1) := by decide +kernel
theorem dX4_take_4 : decode cX4_take 4 = .ok (.iload_n 1, 1) := by decide +kernel
theorem dX4_take_5 : decode cX4_take 5 = .ok (.ifCond .lt 11, 3) := by decide +kernel
theorem dX4_take_8 : decode cX4_take 8 = .ok (.aload_n 0, 1) := by decide +kernel
theorem dX4_take_9 : decode cX4_take 9 = .ok (.iload_n 1, 1) := by decide +kernel
theorem dX4_take_10 : decode cX4_take 10 = .ok (.invokevirtual 47, 3) := by decide +kernel
theorem dX4_take_13 : decode cX4_take 13 = .ok (.goto 50, 3) := by decide +kernel
theorem dX4_take_16 : decode cX4_take 16 = .ok (.iload_n 2, 1) := by decide +kernel
theorem dX4_take_17 : decode cX4_take 17 = .ok (.aload_n 0, 1) := by decide +kernel
theorem dX4_take_18 : decode cX4_take 18 = .ok (.getfield 9, 3) := by decide +kernel
theorem dX4_take_21 : decode cX4_take 21 = .ok (.arraylength, 1) := by decide +kernel
theorem dX4_take_22 : decode cX4_take 22 = .ok (.if_icmp .ge 16, 3) := by decide +kernel
theorem dX4_take_25 : decode cX4_take 25 = .ok (.aload_n 0, 1) := by decide +kernel
theorem dX4_take_26 : decode cX4_take 26 = .ok (.aload_n 0, 1) := by decide +kernel
theorem dX4_take_27 : decode cX4_take 27 = .ok (.getfield 9, 3) := by decide +kernel
theorem dX4_take_30 : decode cX4_take 30 = .ok (.iload_n 2, 1) := by decide +kernel
theorem dX4_take_31 : decode cX4_take 31 = .ok (.iaload, 1) := by decide +kernel
theorem dX4_take_32 : decode cX4_take 32 = .ok (.invokevirtual 47, 3) := by decide +kernel
theorem dX4_take_35 : decode cX4_take 35 = .ok (.goto 28, 3) := by decide +kernel
theorem dX4_take_38 : decode cX4_take 38 = .ok (.iload_n 1, 1) := by decide +kernel
theorem dX4_take_39 : decode cX4_take 39 = .ok (.bipush (-13), 2) := by decide +kernel
theorem dX4_take_41 : decode cX4_take 41 = .ok (.if_icmp .eq 9, 3) := by decide +kernel
theorem dX4_take_44 : decode cX4_take 44 = .ok (.iload_n 1, 1) := by decide +kernel
theorem dX4_take_45 : decode cX4_take 45 = .ok (.bipush (-19), 2) := by decide +kernel
theorem dX4_take_47 : decode cX4_take 47 = .ok (.if_icmp .ne 11, 3) := by decide +kernel
theorem dX4_take_50 : decode cX4_take 50 = .ok (.aload_n 0, 1) := by decide +kernel
theorem dX4_take_51 : decode cX4_take 51 = .ok (.iload_n 1, 1) := by decide +kernel
theorem dX4_take_52 : decode cX4_take 52 = .ok (.invokevirtual 50, 3) := by decide +kernel
theorem dX4_take_55 : decode cX4_take 55 = .ok (.goto 8, 3) := by decide +kernel
theorem dX4_take_58 : decode cX4_take 58 = .ok (.aload_n 0, 1) := by decide +kernel
theorem dX4_take_59 : decode cX4_take 59 = .ok (.iload_n 1, 1) := by decide +kernel
theorem dX4_take_60 : decode cX4_take 60 = .ok (.invokevirtual 53, 3) := by decide +kernel
theorem dX4_take_63 : decode cX4_take 63 = .ok (.return_, 1) := by decide +kernel
theorem dX4_push_0 : decode cX4_push 0 = .ok (.aload_n 0, 1) := by decide +kernel
theorem dX4_push_1 : decode cX4_push 1 = .ok (.getfield 18, 3) := by decide +kernel
theorem dX4_push_4 : decode cX4_push 4 = .ok (.ifCond .lt 35, 3) := by decide +kernel
theorem dX4_push_7 : decode cX4_push 7 = .ok (.aload_n 0, 1) := by decide +kernel
theorem dX4_push_8 : decode cX4_push 8 = .ok (.getfield 18, 3) := by decide +kernel
theorem dX4_push_11 : decode cX4_push 11 = .ok (.aload_n 0, 1) := by decide +kernel
theorem dX4_push_12 : decode cX4_push 12 = .ok (.getfield 15, 3) := by decide +kernel
theorem dX4_push_15 : decode cX4_push 15 = .ok (.arraylength, 1) := by decide +kernel
theorem dX4_push_16 : decode cX4_push 16 = .ok (.if_icmp .ge 23, 3) := by decide +kernel
theorem dX4_push_19 : decode cX4_push 19 = .ok (.aload_n 0, 1) := by decide +kernel
theorem dX4_push_20 : decode cX4_push 20 = .ok (.getfield 15, 3) := by decide +kernel
theorem dX4_push_23 : decode cX4_push 23 = .ok (.aload_n 0, 1) := by decide +kernel
theorem dX4_push_24 : decode cX4_push 24 = .ok (.getfield 18, 3) := by decide +kernel
theorem dX4_push_27 : decode cX4_push 27 = .ok (.iload_n 1, 1) := by decide +kernel
theorem dX4_push_28 : decode cX4_push 28 = .ok (.iastore, 1) := by decide +kernel
theorem dX4_push_29 : decode cX4_push 29 = .ok (.aload_n 0, 1) := by decide +kernel
theorem dX4_push_30 : decode cX4_push 30 = .ok (.dup, 1) := by decide +kernel
theorem dX4_push_31 : decode cX4_push 31 = .ok (.getfield 18, 3) := by decide +kernel
theorem dX4_push_34 : decode cX4_push 34 = .ok (.iconst 1, 1) := by decide +kernel
theorem dX4_push_35 : decode cX4_push 35 = .ok (.iadd, 1) := by decide +kernel
theorem dX4_push_36 : decode cX4_push 36 = .ok (.putfield 18, 3) := by decide +kernel
theorem dX4_push_39 : decode cX4_push 39 = .ok (.return_, 1) := by decide +kernel
theorem dX4_change_0 : decode cX4_change 0 = .ok (.aload_n 0, 1) := by decide +kernel
theorem dX4_change_1 : decode cX4_change 1 = .ok (.getfield 18, 3) := by decide +kernel
theorem dX4_change_4 : decode cX4_change 4 = .ok (.iconst 1, 1) := by decide +kernel
theorem dX4_change_5 : decode cX4_change 5 = .ok (.isub, 1) := by decide +kernel
theorem dX4_change_6 : decode cX4_change 6 = .ok (.istore_n 2, 1) := by decide +kernel
theorem dX4_change_7 : decode cX4_change 7 = .ok (.iload_n 2, 1) := by decide +kernel
theorem dX4_change_8 : decode cX4_change 8 = .ok (.ifCond .lt 49, 3) := by decide +kernel
theorem dX4_change_11 : decode cX4_change 11 = .ok (.iload_n 2, 1) := by decide +kernel
theorem dX4_change_12 : decode cX4_change 12 = .ok (.aload_n 0, 1) := by decide +kernel
theorem dX4_change_13 : decode cX4_change 13 = .ok (.getfield 15, 3) := by decide +kernel
theorem dX4_change_16 : decode cX4_change 16 = .ok (.arraylength, 1) := by decide +kernel
theorem dX4_change_17 : decode cX4_change 17 = .ok (.if_icmp .ge 40, 3) := by decide +kernel
theorem dX4_change_20 : decode cX4_change 20 = .ok (.aload_n 0, 1) := by decide +kernel
theorem dX4_change_21 : decode cX4_change 21 = .ok (.getfield 15, 3) := by decide +kernel
theorem dX4_change_24 : decode cX4_change 24 = .ok (.iload_n 2, 1) := by decide +kernel
theorem dX4_change_25 : decode cX4_change 25 = .ok (.iaload, 1) := by decide +kernel
theorem dX4_change_26 : decode cX4_change 26 = .ok (.istore_n 3, 1) := by decide +kernel
theorem dX4_change_27 : decode cX4_change 27 = .ok (.iload_n 3, 1) := by decide +kernel
theorem dX4_change_28 : decode cX4_change 28 = .ok (.ifCond .ne 7, 3) := by decide +kernel
theorem dX4_change_31 : decode cX4_change 31 = .ok (.iconst 1, 1) := by decide +kernel
theorem dX4_change_32 : decode cX4_change 32 = .ok (.goto 4, 3) := by decide +kernel
theorem dX4_change_35 : decode cX4_change 35 = .ok (.iconst 0, 1) := by decide +kernel
theorem dX4_change_36 : decode cX4_change 36 = .ok (.istore 4, 2) := by decide +kernel
theorem dX4_change_38 : decode cX4_change 38 = .ok (.aload_n 0, 1) := by decide +kernel
theorem dX4_change_39 : decode cX4_change 39 = .ok (.getfield 15, 3) := by decide +kernel
theorem dX4_change_42 : decode cX4_change 42 = .ok (.iload_n 2, 1) := by decide +kernel
theorem dX4_change_43 : decode cX4_change 43 = .ok (.iload_n 1, 1) := by decide +kernel
theorem dX4_change_44 : decode cX4_change 44 = .ok (.bipush (-19), 2) := by decide +kernel
theorem dX4_change_46 : decode cX4_change 46 = .ok (.if_icmp .ne 8, 3) := by decide +kernel
theorem dX4_change_49 : decode cX4_change 49 = .ok (.iload_n 3, 1) := by decide +kernel
theorem dX4_change_50 : decode cX4_change 50 = .ok (.ineg, 1) := by decide +kernel
theorem dX4_change_51 : decode cX4_change 51 = .ok (.goto 5, 3) := by decide +kernel
theorem dX4_change_54 : decode cX4_change 54 = .ok (.iload 4, 2) := by decide +kernel
theorem dX4_change_56 : decode cX4_change 56 = .ok (.iastore, 1) := by decide +kernel
theorem dX4_change_57 : decode cX4_change 57 = .ok (.return_, 1) := by decide +kernel
theorem dX4_combine_0 : decode cX4_combine 0 = .ok (.aload_n 0, 1) := by decide +kernel
theorem dX4_combine_1 : decode cX4_combine 1 = .ok (.getfield 18, 3) := by decide +kernel
theorem dX4_combine_4 : decode cX4_combine 4 = .ok (.iconst 2, 1) := by decide +kernel
theorem dX4_combine_5 : decode cX4_combine 5 = .ok (.isub, 1) := by decide +kernel
theorem dX4_combine_6 : decode cX4_combine 6 = .ok (.istore_n 2, 1) := by decide +kernel
theorem dX4_combine_7 : decode cX4_combine 7 = .ok (.iload_n 2, 1) := by decide +kernel
theorem dX4_combine_8 : decode cX4_combine 8 = .ok (.ifCond .lt 48, 3) := by decide +kernel
theorem dX4_combine_11 : decode cX4_combine 11 = .ok (.iload_n 2, 1) := by decide +kernel
theorem dX4_combine_12 : decode cX4_combine 12 = .ok (.iconst 1, 1) := by decide +kernel
theorem dX4_combine_13 : decode cX4_combine 13 = .ok (.iadd, 1) := by decide +kernel
theorem dX4_combine_14 : decode cX4_combine 14 = .ok (.aload_n 0, 1) := by decide +kernel
theorem dX4_combine_15 : decode cX4_combine 15 = .ok (.getfield 15, 3) := by decide +kernel
theorem dX4_combine_18 : decode cX4_combine 18 = .ok (.arraylength, 1) := by decide +kernel
theorem dX4_combine_19 : decode cX4_combine 19 = .ok (.if_icmp .ge 37, 3) := by decide +kernel
theorem dX4_combine_22 : decode cX4_combine 22 = .ok (.aload_n 0, 1) := by decide +kernel
theorem dX4_combine_23 : decode cX4_combine 23 = .ok (.getfield 15, 3) := by decide +kernel
theorem dX4_combine_26 : decode cX4_combine 26 = .ok (.iload_n 2, 1) := by decide +kernel
theorem dX4_combine_27 : decode cX4_combine 27 = .ok (.iload_n 1, 1) := by decide +kernel
theorem dX4_combine_28 : decode cX4_combine 28 = .ok (.aload_n 0, 1) := by decide +kernel
theorem dX4_combine_29 : decode cX4_combine 29 = .ok (.getfield 15, 3) := by decide +kernel
theorem dX4_combine_32 : decode cX4_combine 32 = .ok (.iload_n 2, 1) := by decide +kernel
theorem dX4_combine_33 : decode cX4_combine 33 = .ok (.iaload, 1) := by decide +kernel
theorem dX4_combine_34 : decode cX4_combine 34 = .ok (.aload_n 0, 1) := by decide +kernel
theorem dX4_combine_35 : decode cX4_combine 35 = .ok (.getfield 15, 3) := by decide +kernel
theorem dX4_combine_38 : decode cX4_combine 38 = .ok (.iload_n 2, 1) := by decide +kernel
theorem dX4_combine_39 : decode cX4_combine 39 = .ok (.iconst 1, 1) := by decide +kernel
theorem dX4_combine_40 : decode cX4_combine 40 = .ok (.iadd, 1) := by decide +kernel
theorem dX4_combine_41 : decode cX4_combine 41 = .ok (.iaload, 1) := by decide +kernel
theorem dX4_combine_42 : decode cX4_combine 42 = .ok (.invokestatic 56, 3) := by decide +kernel
theorem dX4_combine_45 : decode cX4_combine 45 = .ok (.iastore, 1) := by decide +kernel
theorem dX4_combine_46 : decode cX4_combine 46 = .ok (.aload_n 0, 1) := by decide +kernel
theorem dX4_combine_47 : decode cX4_combine 47 = .ok (.dup, 1) := by decide +kernel
theorem dX4_combine_48 : decode cX4_combine 48 = .ok (.getfield 18, 3) := by decide +kernel
theorem dX4_combine_51 : decode cX4_combine 51 = .ok (.iconst 1, 1) := by decide +kernel
theorem dX4_combine_52 : decode cX4_combine 52 = .ok (.isub, 1) := by decide +kernel
theorem dX4_combine_53 : decode cX4_combine 53 = .ok (.putfield 18, 3) := by decide +kernel
theorem dX4_combine_56 : decode cX4_combine 56 = .ok (.return_, 1) := by decide +kernel
theorem dX4_combined_0 : decode cX4_combined 0 = .ok (.iload_n 0, 1) := by decide +kernel
theorem dX4_combined_1 : decode cX4_combined 1 = .ok (.tableswitch 101 (-17) (-11) #[97, 93, 82, 71, 101, 57, 43], 43) := by decide +kernel
theorem dX4_combined_44 : decode cX4_combined 44 = .ok (.iload_n 1, 1) := by decide +kernel
theorem dX4_combined_45 : decode cX4_combined 45 = .ok (.ifCond .ne 7, 3) := by decide +kernel
theorem dX4_combined_48 : decode cX4_combined 48 = .ok (.iload_n 2, 1) := by decide +kernel
theorem dX4_combined_49 : decode cX4_combined 49 = .ok (.ifCond .eq 7, 3) := by decide +kernel
theorem dX4_combined_52 : decode cX4_combined 52 = .ok (.iconst 1, 1) := by decide +kernel
theorem dX4_combined_53 : decode cX4_combined 53 = .ok (.goto 4, 3) := by decide +kernel
theorem dX4_combined_56 : decode cX4_combined 56 = .ok (.iconst 0, 1) := by decide +kernel
theorem dX4_combined_57 : decode cX4_combined 57 = .ok (.ireturn, 1) := by decide +kernel
theorem dX4_combined_58 : decode cX4_combined 58 = .ok (.iload_n 1, 1) := by decide +kernel
theorem dX4_combined_59 : decode cX4_combined 59 = .ok (.ifCond .eq 11, 3) := by decide +kernel
theorem dX4_combined_62 : decode cX4_combined 62 = .ok (.iload_n 2, 1) := by decide +kernel
theorem dX4_combined_63 : decode cX4_combined 63 = .ok (.ifCond .eq 7, 3) := by decide +kernel
theorem dX4_combined_66 : decode cX4_combined 66 = .ok (.iconst 1, 1) := by decide +kernel
theorem dX4_combined_67 : decode cX4_combined 67 = .ok (.goto 4, 3) := by decide +kernel
theorem dX4_combined_70 : decode cX4_combined 70 = .ok (.iconst 0, 1) := by decide +kernel
theorem dX4_combined_71 : decode cX4_combined 71 = .ok (.ireturn, 1) := by decide +kernel
theorem dX4_combined_72 : decode cX4_combined 72 = .ok (.iload_n 1, 1) := by decide +kernel
theorem dX4_combined_73 : decode cX4_combined 73 = .ok (.iload_n 2, 1) := by decide +kernel
theorem dX4_combined_74 : decode cX4_combined 74 = .ok (.if_icmp .ge 7, 3) := by decide +kernel
theorem dX4_combined_77 : decode cX4_combined 77 = .ok (.iconst 1, 1) := by decide +kernel
theorem dX4_combined_78 : decode cX4_combined 78 = .ok (.goto 4, 3) := by decide +kernel
theorem dX4_combined_81 : decode cX4_combined 81 = .ok (.iconst 0, 1) := by decide +kernel
theorem dX4_combined_82 : decode cX4_combined 82 = .ok (.ireturn, 1) := by decide +kernel
theorem dX4_combined_83 : decode cX4_combined 83 = .ok (.iload_n 1, 1) := by decide +kernel
theorem dX4_combined_84 : decode cX4_combined 84 = .ok (.iload_n 2, 1) := by decide +kernel
theorem dX4_combined_85 : decode cX4_combined 85 = .ok (.if_icmp .ne 7, 3) := by decide +kernel
theorem dX4_combined_88 : decode cX4_combined 88 = .ok (.iconst 1, 1) := by decide +kernel
theorem dX4_combined_89 : decode cX4_combined 89 = .ok (.goto 4, 3) := by decide +kernel
theorem dX4_combined_92 : decode cX4_combined 92 = .ok (.iconst 0, 1) := by decide +kernel
theorem dX4_combined_93 : decode cX4_combined 93 = .ok (.ireturn, 1) := by decide +kernel
theorem dX4_combined_94 : decode cX4_combined 94 = .ok (.iload_n 1, 1) := by decide +kernel
theorem dX4_combined_95 : decode cX4_combined 95 = .ok (.iload_n 2, 1) := by decide +kernel
theorem dX4_combined_96 : decode cX4_combined 96 = .ok (.iadd, 1) := by decide +kernel
theorem dX4_combined_97 : decode cX4_combined 97 = .ok (.ireturn, 1) := by decide +kernel
theorem dX4_combined_98 : decode cX4_combined 98 = .ok (.iload_n 1, 1) := by decide +kernel
theorem dX4_combined_99 : decode cX4_combined 99 = .ok (.iload_n 2, 1) := by decide +kernel
theorem dX4_combined_100 : decode cX4_combined 100 = .ok (.isub, 1) := by decide +kernel
theorem dX4_combined_101 : decode cX4_combined 101 = .ok (.ireturn, 1) := by decide +kernel
theorem dX4_combined_102 : decode cX4_combined 102 = .ok (.iload_n 1, 1) := by decide +kernel
theorem dX4_combined_103 : decode cX4_combined 103 = .ok (.iload_n 2, 1) := by decide +kernel
theorem dX4_combined_104 : decode cX4_combined 104 = .ok (.imul, 1) := by decide +kernel
theorem dX4_combined_105 : decode cX4_combined 105 = .ok (.ireturn, 1) := by decide +kernel
theorem dX5_init_0 : decode cX5_init 0 = .ok (.aload_n 0, 1) := by decide +kernel
theorem dX5_init_1 : decode cX5_init 1 = .ok (.invokespecial 3, 3) := by decide +kernel
theorem dX5_init_4 : decode cX5_init 4 = .ok (.aload_n 0, 1) := by decide +kernel
theorem dX5_init_5 : decode cX5_init 5 = .ok (.bipush 6, 2) := by decide +kernel
theorem dX5_init_7 : decode cX5_init 7 = .ok (.anewarray 9, 3) := by decide +kernel
theorem dX5_init_10 : decode cX5_init 10 = .ok (.putfield 11, 3) := by decide +kernel
theorem dX5_init_13 : decode cX5_init 13 = .ok (.iconst 0, 1) := by decide +kernel
theorem dX5_init_14 : decode cX5_init 14 = .ok (.istore_n 1, 1) := by decide +kernel
theorem dX5_init_15 : decode cX5_init 15 = .ok (.iload_n 1, 1) := by decide +kernel
theorem dX5_init_16 : decode cX5_init 16 = .ok (.aload_n 0, 1) := by decide +kernel
theorem dX5_init_17 : decode cX5_init 17 = .ok (.getfield 11, 3) := by decide +kernel
theorem dX5_init_20 : decode cX5_init 20 = .ok (.arraylength, 1) := by decide +kernel
theorem dX5_init_21 : decode cX5_init 21 = .ok (.if_icmp .ge 22, 3) := by decide +kernel
theorem dX5_init_24 : decode cX5_init 24 = .ok (.aload_n 0, 1) := by decide +kernel
theorem dX5_init_25 : decode cX5_init 25 = .ok (.getfield 11, 3) := by decide +kernel
theorem dX5_init_28 : decode cX5_init 28 = .ok (.iload_n 1, 1) := by decide +kernel
theorem dX5_init_29 : decode cX5_init 29 = .ok (.new 9, 3) := by decide +kernel
theorem dX5_init_32 : decode cX5_init 32 = .ok (.dup, 1) := by decide +kernel
theorem dX5_init_33 : decode cX5_init 33 = .ok (.invokespecial 17, 3) := by decide +kernel
theorem dX5_init_36 : decode cX5_init 36 = .ok (.aastore, 1) := by decide +kernel
theorem dX5_init_37 : decode cX5_init 37 = .ok (.iinc 1 1, 3) := by decide +kernel
theorem dX5_init_40 : decode cX5_init 40 = .ok (.goto (-25), 3) := by decide +kernel
theorem dX5_init_43 : decode cX5_init 43 = .ok (.return_, 1) := by decide +kernel
theorem dX5_has_0 : decode cX5_has 0 = .ok (.iload_n 1, 1) := by decide +kernel
theorem dX5_has_1 : decode cX5_has 1 = .ok (.ifCond .lt 24, 3) := by decide +kernel
theorem dX5_has_4 : decode cX5_has 4 = .ok (.iload_n 1, 1) := by decide +kernel
theorem dX5_has_5 : decode cX5_has 5 = .ok (.aload_n 0, 1) := by decide +kernel
theorem dX5_has_6 : decode cX5_has 6 = .ok (.getfield 18, 3) := by decide +kernel
theorem dX5_has_9 : decode cX5_has 9 = .ok (.if_icmp .ge 16, 3) := by decide +kernel
theorem dX5_has_12 : decode cX5_has 12 = .ok (.iload_n 1, 1) := by decide +kernel
theorem dX5_has_13 : decode cX5_has 13 = .ok (.aload_n 0, 1) := by decide +kernel
theorem dX5_has_14 : decode cX5_has 14 = .ok (.getfield 11, 3) := by decide +kernel
theorem dX5_has_17 : decode cX5_has 17 = .ok (.arraylength, 1) := by decide +kernel
theorem dX5_has_18 : decode cX5_has 18 = .ok (.if_icmp .ge 7, 3) := by decide +kernel
theorem dX5_has_21 : decode cX5_has 21 = .ok (.iconst 1, 1) := by decide +kernel
theorem dX5_has_22 : decode cX5_has 22 = .ok (.goto 4, 3) := by decide +kernel
theorem dX5_has_25 : decode cX5_has 25 = .ok (.iconst 0, 1) := by decide +kernel
theorem dX5_has_26 : decode cX5_has 26 = .ok (.ireturn, 1) := by decide +kernel
theorem dX5_hasAll_0 : decode cX5_hasAll 0 = .ok (.iload_n 1, 1) := by decide +kernel
theorem dX5_hasAll_1 : decode cX5_hasAll 1 = .ok (.ifCond .lt 16, 3) := by decide +kernel
theorem dX5_hasAll_4 : decode cX5_hasAll 4 = .ok (.iload_n 1, 1) := by decide +kernel
theorem dX5_hasAll_5 : decode cX5_hasAll 5 = .ok (.aload_n 0, 1) := by decide +kernel
theorem dX5_hasAll_6 : decode cX5_hasAll 6 = .ok (.getfield 18, 3) := by decide +kernel
theorem dX5_hasAll_9 : decode cX5_hasAll 9 = .ok (.ishr, 1) := by decide +kernel
theorem dX5_hasAll_10 : decode cX5_hasAll 10 = .ok (.ifCond .ne 7, 3) := by decide +kernel
theorem dX5_hasAll_13 : decode cX5_hasAll 13 = .ok (.iconst 1, 1) := by decide +kernel
theorem dX5_hasAll_14 : decode cX5_hasAll 14 = .ok (.goto 4, 3) := by decide +kernel
theorem dX5_hasAll_17 : decode cX5_hasAll 17 = .ok (.iconst 0, 1) := by decide +kernel
theorem dX5_hasAll_18 : decode cX5_hasAll 18 = .ok (.ireturn, 1) := by decide +kernel
theorem dX5_add_0 : decode cX5_add 0 = .ok (.aload_n 0, 1) := by decide +kernel
theorem dX5_add_1 : decode cX5_add 1 = .ok (.getfield 18, 3) := by decide +kernel
theorem dX5_add_4 : decode cX5_add 4 = .ok (.aload_n 0, 1) := by decide +kernel
theorem dX5_add_5 : decode cX5_add 5 = .ok (.getfield 11, 3) := by decide +kernel
theorem dX5_add_8 : decode cX5_add 8 = .ok (.arraylength, 1) := by decide +kernel
theorem dX5_add_9 : decode cX5_add 9 = .ok (.if_icmp .lt 6, 3) := by decide +kernel
theorem dX5_add_12 : decode cX5_add 12 = .ok (.bipush (-4), 2) := by decide +kernel
theorem dX5_add_14 : decode cX5_add 14 = .ok (.ireturn, 1) := by decide +kernel
theorem dX5_add_15 : decode cX5_add 15 = .ok (.aload_n 0, 1) := by decide +kernel
theorem dX5_add_16 : decode cX5_add 16 = .ok (.getfield 11, 3) := by decide +kernel
theorem dX5_add_19 : decode cX5_add 19 = .ok (.aload_n 0, 1) := by decide +kernel
theorem dX5_add_20 : decode cX5_add 20 = .ok (.getfield 18, 3) := by decide +kernel
theorem dX5_add_23 : decode cX5_add 23 = .ok (.aaload, 1) := by decide +kernel
theorem dX5_add_24 : decode cX5_add 24 = .ok (.astore 5, 2) := by decide +kernel
theorem dX5_add_26 : decode cX5_add 26 = .ok (.aload 5, 2) := by decide +kernel
theorem dX5_add_28 : decode cX5_add 28 = .ok (.iload_n 1, 1) := by decide +kernel
theorem dX5_add_29 : decode cX5_add 29 = .ok (.putfield 22, 3) := by decide +kernel
theorem dX5_add_32 : decode cX5_add 32 = .ok (.aload 5, 2) := by decide +kernel
theorem dX5_add_34 : decode cX5_add 34 = .ok (.iload_n 2, 1) := by decide +kernel
theorem dX5_add_35 : decode cX5_add 35 = .ok (.putfield 25, 3) := by decide +kernel
theorem dX5_add_38 : decode cX5_add 38 = .ok (.aload 5, 2) := by decide +kernel
theorem dX5_add_40 : decode cX5_add 40 = .ok (.iload_n 3, 1) := by decide +kernel
theorem dX5_add_41 : decode cX5_add 41 = .ok (.putfield 28, 3) := by decide +kernel
theorem dX5_add_44 : decode cX5_add 44 = .ok (.aload 5, 2) := by decide +kernel
theorem dX5_add_46 : decode cX5_add 46 = .ok (.iload 4, 2) := by decide +kernel
theorem dX5_add_48 : decode cX5_add 48 = .ok (.putfield 31, 3) := by decide +kernel
theorem dX5_add_51 : decode cX5_add 51 = .ok (.aload_n 0, 1) := by decide +kernel
theorem dX5_add_52 : decode cX5_add 52 = .ok (.dup, 1) := by decide +kernel
theorem dX5_add_53 : decode cX5_add 53 = .ok (.getfield 18, 3) := by decide +kernel
theorem dX5_add_56 : decode cX5_add 56 = .ok (.iconst 1, 1) := by decide +kernel
theorem dX5_add_57 : decode cX5_add 57 = .ok (.iadd, 1) := by decide +kernel
theorem dX5_add_58 : decode cX5_add 58 = .ok (.putfield 18, 3) := by decide +kernel
theorem dX5_add_61 : decode cX5_add 61 = .ok (.aload_n 0, 1) := by decide +kernel
theorem dX5_add_62 : decode cX5_add 62 = .ok (.getfield 18, 3) := by decide +kernel
theorem dX5_add_65 : decode cX5_add 65 = .ok (.iconst 1, 1) := by decide +kernel
theorem dX5_add_66 : decode cX5_add 66 = .ok (.isub, 1) := by decide +kernel
theorem dX5_add_67 : decode cX5_add 67 = .ok (.ireturn, 1) := by decide +kernel
theorem dX5_become_0 : decode cX5_become 0 = .ok (.iconst 0, 1) := by decide +kernel
theorem dX5_become_1 : decode cX5_become 1 = .ok (.istore_n 2, 1) := by decide +kernel
theorem dX5_become_2 : decode cX5_become 2 = .ok (.iload_n 2, 1) := by decide +kernel
theorem dX5_become_3 : decode cX5_become 3 = .ok (.aload_n 0, 1) := by decide +kernel
theorem dX5_become_4 : decode cX5_become 4 = .ok (.getfield 11, 3) := by decide +kernel
theorem dX5_become_7 : decode cX5_become 7 = .ok (.arraylength, 1) := by decide +kernel
theorem dX5_become_8 : decode cX5_become 8 = .ok (.if_icmp .ge 24, 3) := by decide +kernel
theorem dX5_become_11 : decode cX5_become 11 = .ok (.aload_n 0, 1) := by decide +kernel
theorem dX5_become_12 : decode cX5_become 12 = .ok (.getfield 11, 3) := by decide +kernel
theorem dX5_become_15 : decode cX5_become 15 = .ok (.iload_n 2, 1) := by decide +kernel
theorem dX5_become_16 : decode cX5_become 16 = .ok (.aaload, 1) := by decide +kernel
theorem dX5_become_17 : decode cX5_become 17 = .ok (.aload_n 1, 1) := by decide +kernel
theorem dX5_become_18 : decode cX5_become 18 = .ok (.getfield 11, 3) := by decide +kernel
theorem dX5_become_21 : decode cX5_become 21 = .ok (.iload_n 2, 1) := by decide +kernel
theorem dX5_become_22 : decode cX5_become 22 = .ok (.aaload, 1) := by decide +kernel
theorem dX5_become_23 : decode cX5_become 23 = .ok (.invokevirtual 34, 3) := by decide +kernel
theorem dX5_become_26 : decode cX5_become 26 = .ok (.iinc 2 1, 3) := by decide +kernel
theorem dX5_become_29 : decode cX5_become 29 = .ok (.goto (-27), 3) := by decide +kernel
theorem dX5_become_32 : decode cX5_become 32 = .ok (.aload_n 0, 1) := by decide +kernel
theorem dX5_become_33 : decode cX5_become 33 = .ok (.aload_n 1, 1) := by decide +kernel
theorem dX5_become_34 : decode cX5_become 34 = .ok (.getfield 18, 3) := by decide +kernel
theorem dX5_become_37 : decode cX5_become 37 = .ok (.putfield 18, 3) := by decide +kernel
theorem dX5_become_40 : decode cX5_become 40 = .ok (.aload_n 0, 1) := by decide +kernel
theorem dX5_become_41 : decode cX5_become 41 = .ok (.aload_n 1, 1) := by decide +kernel
theorem dX5_become_42 : decode cX5_become 42 = .ok (.getfield 38, 3) := by decide +kernel
theorem dX5_become_45 : decode cX5_become 45 = .ok (.putfield 38, 3) := by decide +kernel
theorem dX5_become_48 : decode cX5_become 48 = .ok (.aload_n 0, 1) := by decide +kernel
theorem dX5_become_49 : decode cX5_become 49 = .ok (.aload_n 1, 1) := by decide +kernel
theorem dX5_become_50 : decode cX5_become 50 = .ok (.getfield 41, 3) := by decide +kernel
theorem dX5_become_53 : decode cX5_become 53 = .ok (.putfield 41, 3) := by decide +kernel
theorem dX5_become_56 : decode cX5_become 56 = .ok (.return_, 1) := by decide +kernel
theorem dX5_comers_0 : decode cX5_comers 0 = .ok (.iconst 0, 1) := by decide +kernel
theorem dX5_comers_1 : decode cX5_comers 1 = .ok (.istore_n 3, 1) := by decide +kernel
theorem dX5_comers_2 : decode cX5_comers 2 = .ok (.iconst 0, 1) := by decide +kernel
theorem dX5_comers_3 : decode cX5_comers 3 = .ok (.istore 4, 2) := by decide +kernel
theorem dX5_comers_5 : decode cX5_comers 5 = .ok (.iload 4, 2) := by decide +kernel
theorem dX5_comers_7 : decode cX5_comers 7 = .ok (.aload_n 0, 1) := by decide +kernel
theorem dX5_comers_8 : decode cX5_comers 8 = .ok (.getfield 11, 3) := by decide +kernel
theorem dX5_comers_11 : decode cX5_comers 11 = .ok (.arraylength, 1) := by decide +kernel
theorem dX5_comers_12 : decode cX5_comers 12 = .ok (.if_icmp .ge 40, 3) := by decide +kernel
theorem dX5_comers_15 : decode cX5_comers 15 = .ok (.aload_n 0, 1) := by decide +kernel
theorem dX5_comers_16 : decode cX5_comers 16 = .ok (.iload 4, 2) := by decide +kernel
theorem dX5_comers_18 : decode cX5_comers 18 = .ok (.invokevirtual 44, 3) := by decide +kernel
theorem dX5_comers_21 : decode cX5_comers 21 = .ok (.ifCond .eq 25, 3) := by decide +kernel
theorem dX5_comers_24 : decode cX5_comers 24 = .ok (.aload_n 0, 1) := by decide +kernel
theorem dX5_comers_25 : decode cX5_comers 25 = .ok (.getfield 11, 3) := by decide +kernel
theorem dX5_comers_28 : decode cX5_comers 28 = .ok (.iload 4, 2) := by decide +kernel
theorem dX5_comers_30 : decode cX5_comers 30 = .ok (.aaload, 1) := by decide +kernel
theorem dX5_comers_31 : decode cX5_comers 31 = .ok (.iload_n 1, 1) := by decide +kernel
theorem dX5_comers_32 : decode cX5_comers 32 = .ok (.iload_n 2, 1) := by decide +kernel
theorem dX5_comers_33 : decode cX5_comers 33 = .ok (.invokevirtual 48, 3) := by decide +kernel
theorem dX5_comers_36 : decode cX5_comers 36 = .ok (.ifCond .eq 10, 3) := by decide +kernel
theorem dX5_comers_39 : decode cX5_comers 39 = .ok (.iload_n 3, 1) := by decide +kernel
theorem dX5_comers_40 : decode cX5_comers 40 = .ok (.iconst 1, 1) := by decide +kernel
theorem dX5_comers_41 : decode cX5_comers 41 = .ok (.iload 4, 2) := by decide +kernel
theorem dX5_comers_43 : decode cX5_comers 43 = .ok (.ishl, 1) := by decide +kernel
theorem dX5_comers_44 : decode cX5_comers 44 = .ok (.ior, 1) := by decide +kernel
theorem dX5_comers_45 : decode cX5_comers 45 = .ok (.istore_n 3, 1) := by decide +kernel
theorem dX5_comers_46 : decode cX5_comers 46 = .ok (.iinc 4 1, 3) := by decide +kernel
theorem dX5_comers_49 : decode cX5_comers 49 = .ok (.goto (-44), 3) := by decide +kernel
theorem dX5_comers_52 : decode cX5_comers 52 = .ok (.iload_n 3, 1) := by decide +kernel
theorem dX5_comers_53 : decode cX5_comers 53 = .ok (.ireturn, 1) := by decide +kernel
theorem dX6_init_0 : decode cX6_init 0 = .ok (.aload_n 0, 1) := by decide +kernel
theorem dX6_init_1 : decode cX6_init 1 = .ok (.invokespecial 3, 3) := by decide +kernel
theorem dX6_init_4 : decode cX6_init 4 = .ok (.aload_n 0, 1) := by decide +kernel
theorem dX6_init_5 : decode cX6_init 5 = .ok (.iconst (-1), 1) := by decide +kernel
theorem dX6_init_6 : decode cX6_init 6 = .ok (.putfield 9, 3) := by decide +kernel
theorem dX6_init_9 : decode cX6_init 9 = .ok (.aload_n 0, 1) := by decide +kernel
theorem dX6_init_10 : decode cX6_init 10 = .ok (.bipush 40, 2) := by decide +kernel
theorem dX6_init_12 : decode cX6_init 12 = .ok (.newarray .int, 2) := by decide +kernel
theorem dX6_init_14 : decode cX6_init 14 = .ok (.putfield 15, 3) := by decide +kernel
theorem dX6_init_17 : decode cX6_init 17 = .ok (.return_, 1) := by decide +kernel
theorem dX6_isMissing_0 : decode cX6_isMissing 0 = .ok (.aload_n 0, 1) := by decide +kernel
theorem dX6_isMissing_1 : decode cX6_isMissing 1 = .ok (.getfield 9, 3) := by decide +kernel
theorem dX6_isMissing_4 : decode cX6_isMissing 4 = .ok (.iconst (-1), 1) := by decide +kernel
theorem dX6_isMissing_5 : decode cX6_isMissing 5 = .ok (.if_icmp .ne 7, 3) := by decide +kernel
theorem dX6_isMissing_8 : decode cX6_isMissing 8 = .ok (.iconst 1, 1) := by decide +kernel
theorem dX6_isMissing_9 : decode cX6_isMissing 9 = .ok (.goto 4, 3) := by decide +kernel
theorem dX6_isMissing_12 : decode cX6_isMissing 12 = .ok (.iconst 0, 1) := by decide +kernel
theorem dX6_isMissing_13 : decode cX6_isMissing 13 = .ok (.ireturn, 1) := by decide +kernel
theorem dX6_become_0 : decode cX6_become 0 = .ok (.aload_n 0, 1) := by decide +kernel
theorem dX6_become_1 : decode cX6_become 1 = .ok (.iload_n 1, 1) := by decide +kernel
theorem dX6_become_2 : decode cX6_become 2 = .ok (.putfield 9, 3) := by decide +kernel
theorem dX6_become_5 : decode cX6_become 5 = .ok (.aload_n 0, 1) := by decide +kernel
theorem dX6_become_6 : decode cX6_become 6 = .ok (.iload_n 2, 1) := by decide +kernel
theorem dX6_become_7 : decode cX6_become 7 = .ok (.putfield 19, 3) := by decide +kernel
theorem dX6_become_10 : decode cX6_become 10 = .ok (.iconst 0, 1) := by decide +kernel
theorem dX6_become_11 : decode cX6_become 11 = .ok (.istore_n 3, 1) := by decide +kernel
theorem dX6_become_12 : decode cX6_become 12 = .ok (.iload_n 3, 1) := by decide +kernel
theorem dX6_become_13 : decode cX6_become 13 = .ok (.aload_n 0, 1) := by decide +kernel
theorem dX6_become_14 : decode cX6_become 14 = .ok (.getfield 15, 3) := by decide +kernel
theorem dX6_become_17 : decode cX6_become 17 = .ok (.arraylength, 1) := by decide +kernel
theorem dX6_become_18 : decode cX6_become 18 = .ok (.if_icmp .ge 16, 3) := by decide +kernel
theorem dX6_become_21 : decode cX6_become 21 = .ok (.aload_n 0, 1) := by decide +kernel
theorem dX6_become_22 : decode cX6_become 22 = .ok (.getfield 15, 3) := by decide +kernel
theorem dX6_become_25 : decode cX6_become 25 = .ok (.iload_n 3, 1) := by decide +kernel
theorem dX6_become_26 : decode cX6_become 26 = .ok (.iconst 0, 1) := by decide +kernel
theorem dX6_become_27 : decode cX6_become 27 = .ok (.iastore, 1) := by decide +kernel
theorem dX6_become_28 : decode cX6_become 28 = .ok (.iinc 3 1, 3) := by decide +kernel
theorem dX6_become_31 : decode cX6_become 31 = .ok (.goto (-19), 3) := by decide +kernel
theorem dX6_become_34 : decode cX6_become 34 = .ok (.return_, 1) := by decide +kernel
theorem dX6_hasItems_0 : decode cX6_hasItems 0 = .ok (.iload_n 2, 1) := by decide +kernel
theorem dX6_hasItems_1 : decode cX6_hasItems 1 = .ok (.ifCond .lt 41, 3) := by decide +kernel
theorem dX6_hasItems_4 : decode cX6_hasItems 4 = .ok (.iload_n 2, 1) := by decide +kernel
theorem dX6_hasItems_5 : decode cX6_hasItems 5 = .ok (.aload_n 0, 1) := by decide +kernel
theorem dX6_hasItems_6 : decode cX6_hasItems 6 = .ok (.getfield 19, 3) := by decide +kernel
theorem dX6_hasItems_9 : decode cX6_hasItems 9 = .ok (.if_icmp .gt 33, 3) := by decide +kernel
theorem dX6_hasItems_12 : decode cX6_hasItems 12 = .ok (.iload_n 1, 1) := by decide +kernel
theorem dX6_hasItems_13 : decode cX6_hasItems 13 = .ok (.ifCond .lt 29, 3) := by decide +kernel
theorem dX6_hasItems_16 : decode cX6_hasItems 16 = .ok (.iload_n 1, 1) := by decide +kernel
theorem dX6_hasItems_17 : decode cX6_hasItems 17 = .ok (.aload_n 0, 1) := by decide +kernel
theorem dX6_hasItems_18 : decode cX6_hasItems 18 = .ok (.getfield 19, 3) := by decide +kernel
theorem dX6_hasItems_21 : decode cX6_hasItems 21 = .ok (.iload_n 2, 1) := by decide +kernel
theorem dX6_hasItems_22 : decode cX6_hasItems 22 = .ok (.isub, 1) := by decide +kernel
theorem dX6_hasItems_23 : decode cX6_hasItems 23 = .ok (.if_icmp .gt 19, 3) := by decide +kernel
theorem dX6_hasItems_26 : decode cX6_hasItems 26 = .ok (.aload_n 0, 1) := by decide +kernel
theorem dX6_hasItems_27 : decode cX6_hasItems 27 = .ok (.getfield 19, 3) := by decide +kernel
theorem dX6_hasItems_30 : decode cX6_hasItems 30 = .ok (.aload_n 0, 1) := by decide +kernel
theorem dX6_hasItems_31 : decode cX6_hasItems 31 = .ok (.getfield 15, 3) := by decide +kernel
theorem dX6_hasItems_34 : decode cX6_hasItems 34 = .ok (.arraylength, 1) := by decide +kernel
theorem dX6_hasItems_35 : decode cX6_hasItems 35 = .ok (.if_icmp .gt 7, 3) := by decide +kernel
theorem dX6_hasItems_38 : decode cX6_hasItems 38 = .ok (.iconst 1, 1) := by decide +kernel
theorem dX6_hasItems_39 : decode cX6_hasItems 39 = .ok (.goto 4, 3) := by decide +kernel
theorem dX6_hasItems_42 : decode cX6_hasItems 42 = .ok (.iconst 0, 1) := by decide +kernel
theorem dX6_hasItems_43 : decode cX6_hasItems 43 = .ok (.ireturn, 1) := by decide +kernel
theorem dX6_put_0 : decode cX6_put 0 = .ok (.iload_n 1, 1) := by decide +kernel
theorem dX6_put_1 : decode cX6_put 1 = .ok (.ifCond .lt 12, 3) := by decide +kernel
theorem dX6_put_4 : decode cX6_put 4 = .ok (.iload_n 1, 1) := by decide +kernel
theorem dX6_put_5 : decode cX6_put 5 = .ok (.aload_n 0, 1) := by decide +kernel
theorem dX6_put_6 : decode cX6_put 6 = .ok (.getfield 15, 3) := by decide +kernel
theorem dX6_put_9 : decode cX6_put 9 = .ok (.arraylength, 1) := by decide +kernel
theorem dX6_put_10 : decode cX6_put 10 = .ok (.if_icmp .lt 4, 3) := by decide +kernel
theorem dX6_put_13 : decode cX6_put 13 = .ok (.return_, 1) := by decide +kernel
theorem dX6_put_14 : decode cX6_put 14 = .ok (.aload_n 0, 1) := by decide +kernel
theorem dX6_put_15 : decode cX6_put 15 = .ok (.getfield 9, 3) := by decide +kernel
theorem dX6_put_18 : decode cX6_put 18 = .ok (.lookupswitch 48 #[(0, 26), (1, 37)], 26) := by decide +kernel
theorem dX6_put_44 : decode cX6_put 44 = .ok (.aload_n 0, 1) := by decide +kernel
theorem dX6_put_45 : decode cX6_put 45 = .ok (.getfield 15, 3) := by decide +kernel
theorem dX6_put_48 : decode cX6_put 48 = .ok (.iload_n 1, 1) := by decide +kernel
theorem dX6_put_49 : decode cX6_put 49 = .ok (.iload_n 2, 1) := by decide +kernel
theorem dX6_put_50 : decode cX6_put 50 = .ok (.i2b, 1) := by decide +kernel
theorem dX6_put_51 : decode cX6_put 51 = .ok (.iastore, 1) := by decide +kernel
theorem dX6_put_52 : decode cX6_put 52 = .ok (.goto 21, 3) := by decide +kernel
theorem dX6_put_55 : decode cX6_put 55 = .ok (.aload_n 0, 1) := by decide +kernel
theorem dX6_put_56 : decode cX6_put 56 = .ok (.getfield 15, 3) := by decide +kernel
theorem dX6_put_59 : decode cX6_put 59 = .ok (.iload_n 1, 1) := by decide +kernel
theorem dX6_put_60 : decode cX6_put 60 = .ok (.iload_n 2, 1) := by decide +kernel
theorem dX6_put_61 : decode cX6_put 61 = .ok (.i2s, 1) := by decide +kernel
theorem dX6_put_62 : decode cX6_put 62 = .ok (.iastore, 1) := by decide +kernel
theorem dX6_put_63 : decode cX6_put 63 = .ok (.goto 10, 3) := by decide +kernel
theorem dX6_put_66 : decode cX6_put 66 = .ok (.aload_n 0, 1) := by decide +kernel
theorem dX6_put_67 : decode cX6_put 67 = .ok (.getfield 15, 3) := by decide +kernel
theorem dX6_put_70 : decode cX6_put 70 = .ok (.iload_n 1, 1) := by decide +kernel
theorem dX6_put_71 : decode cX6_put 71 = .ok (.iload_n 2, 1) := by decide +kernel
theorem dX6_put_72 : decode cX6_put 72 = .ok (.iastore, 1) := by decide +kernel
theorem dX6_put_73 : decode cX6_put 73 = .ok (.return_, 1) := by decide +kernel
theorem dX7_init_0 : decode cX7_init 0 = .ok (.aload_n 0, 1) := by decide +kernel
theorem dX7_init_1 : decode cX7_init 1 = .ok (.invokespecial 3, 3) := by decide +kernel
theorem dX7_init_4 : decode cX7_init 4 = .ok (.aload_n 0, 1) := by decide +kernel
theorem dX7_init_5 : decode cX7_init 5 = .ok (.sipush 160, 3) := by decide +kernel
theorem dX7_init_8 : decode cX7_init 8 = .ok (.newarray .int, 2) := by decide +kernel
theorem dX7_init_10 : decode cX7_init 10 = .ok (.putfield 9, 3) := by decide +kernel
theorem dX7_init_13 : decode cX7_init 13 = .ok (.aload_n 0, 1) := by decide +kernel
theorem dX7_init_14 : decode cX7_init 14 = .ok (.iconst 3, 1) := by decide +kernel
theorem dX7_init_15 : decode cX7_init 15 = .ok (.newarray .int, 2) := by decide +kernel
theorem dX7_init_17 : decode cX7_init 17 = .ok (.putfield 15, 3) := by decide +kernel
theorem dX7_init_20 : decode cX7_init 20 = .ok (.return_, 1) := by decide +kernel
theorem dX7_clear_0 : decode cX7_clear 0 = .ok (.aload_n 0, 1) := by decide +kernel
theorem dX7_clear_1 : decode cX7_clear 1 = .ok (.iconst 0, 1) := by decide +kernel
theorem dX7_clear_2 : decode cX7_clear 2 = .ok (.putfield 18, 3) := by decide +kernel
theorem dX7_clear_5 : decode cX7_clear 5 = .ok (.return_, 1) := by decide +kernel
theorem dX7_add_0 : decode cX7_add 0 = .ok (.aload_n 0, 1) := by decide +kernel
theorem dX7_add_1 : decode cX7_add 1 = .ok (.getfield 18, 3) := by decide +kernel
theorem dX7_add_4 : decode cX7_add 4 = .ok (.aload_n 0, 1) := by decide +kernel
theorem dX7_add_5 : decode cX7_add 5 = .ok (.getfield 9, 3) := by decide +kernel
theorem dX7_add_8 : decode cX7_add 8 = .ok (.arraylength, 1) := by decide +kernel
theorem dX7_add_9 : decode cX7_add 9 = .ok (.if_icmp .ge 23, 3) := by decide +kernel
theorem dX7_add_12 : decode cX7_add 12 = .ok (.aload_n 0, 1) := by decide +kernel
theorem dX7_add_13 : decode cX7_add 13 = .ok (.getfield 9, 3) := by decide +kernel
theorem dX7_add_16 : decode cX7_add 16 = .ok (.aload_n 0, 1) := by decide +kernel
theorem dX7_add_17 : decode cX7_add 17 = .ok (.getfield 18, 3) := by decide +kernel
theorem dX7_add_20 : decode cX7_add 20 = .ok (.iload_n 1, 1) := by decide +kernel
theorem dX7_add_21 : decode cX7_add 21 = .ok (.iastore, 1) := by decide +kernel
theorem dX7_add_22 : decode cX7_add 22 = .ok (.aload_n 0, 1) := by decide +kernel
theorem dX7_add_23 : decode cX7_add 23 = .ok (.dup, 1) := by decide +kernel
theorem dX7_add_24 : decode cX7_add 24 = .ok (.getfield 18, 3) := by decide +kernel
theorem dX7_add_27 : decode cX7_add 27 = .ok (.iconst 1, 1) := by decide +kernel
theorem dX7_add_28 : decode cX7_add 28 = .ok (.iadd, 1) := by decide +kernel
theorem dX7_add_29 : decode cX7_add 29 = .ok (.putfield 18, 3) := by decide +kernel
theorem dX7_add_32 : decode cX7_add 32 = .ok (.return_, 1) := by decide +kernel
theorem dX7_endPart_0 : decode cX7_endPart 0 = .ok (.iload_n 1, 1) := by decide +kernel
theorem dX7_endPart_1 : decode cX7_endPart 1 = .ok (.ifCond .lt 22, 3) := by decide +kernel
theorem dX7_endPart_4 : decode cX7_endPart 4 = .ok (.iload_n 1, 1) := by decide +kernel
theorem dX7_endPart_5 : decode cX7_endPart 5 = .ok (.aload_n 0, 1) := by decide +kernel
theorem dX7_endPart_6 : decode cX7_endPart 6 = .ok (.getfield 15, 3) := by decide +kernel
theorem dX7_endPart_9 : decode cX7_endPart 9 = .ok (.arraylength, 1) := by decide +kernel
theorem dX7_endPart_10 : decode cX7_endPart 10 = .ok (.if_icmp .ge 13, 3) := by decide +kernel
theorem dX7_endPart_13 : decode cX7_endPart 13 = .ok (.aload_n 0, 1) := by decide +kernel
theorem dX7_endPart_14 : decode cX7_endPart 14 = .ok (.getfield 15, 3) := by decide +kernel
theorem dX7_endPart_17 : decode cX7_endPart 17 = .ok (.iload_n 1, 1) := by decide +kernel
theorem dX7_endPart_18 : decode cX7_endPart 18 = .ok (.aload_n 0, 1) := by decide +kernel
theorem dX7_endPart_19 : decode cX7_endPart 19 = .ok (.getfield 18, 3) := by decide +kernel
theorem dX7_endPart_22 : decode cX7_endPart 22 = .ok (.iastore, 1) := by decide +kernel
theorem dX7_endPart_23 : decode cX7_endPart 23 = .ok (.return_, 1) := by decide +kernel
theorem dX7_startOf_0 : decode cX7_startOf 0 = .ok (.aload_n 0, 1) := by decide +kernel
theorem dX7_startOf_1 : decode cX7_startOf 1 = .ok (.iload_n 1, 1) := by decide +kernel
theorem dX7_startOf_2 : decode cX7_startOf 2 = .ok (.iconst 1, 1) := by decide +kernel
theorem dX7_startOf_3 : decode cX7_startOf 3 = .ok (.isub, 1) := by decide +kernel
theorem dX7_startOf_4 : decode cX7_startOf 4 = .ok (.invokevirtual 22, 3) := by decide +kernel
theorem dX7_startOf_7 : decode cX7_startOf 7 = .ok (.ireturn, 1) := by decide +kernel
theorem dX7_endOf_0 : decode cX7_endOf 0 = .ok (.iload_n 1, 1) := by decide +kernel
theorem dX7_endOf_1 : decode cX7_endOf 1 = .ok (.ifCond .lt 21, 3) := by decide +kernel
theorem dX7_endOf_4 : decode cX7_endOf 4 = .ok (.iload_n 1, 1) := by decide +kernel
theorem dX7_endOf_5 : decode cX7_endOf 5 = .ok (.aload_n 0, 1) := by decide +kernel
theorem dX7_endOf_6 : decode cX7_endOf 6 = .ok (.getfield 15, 3) := by decide +kernel
theorem dX7_endOf_9 : decode cX7_endOf 9 = .ok (.arraylength, 1) := by decide +kernel
theorem dX7_endOf_10 : decode cX7_endOf 10 = .ok (.if_icmp .ge 12, 3) := by decide +kernel
theorem dX7_endOf_13 : decode cX7_endOf 13 = .ok (.aload_n 0, 1) := by decide +kernel
theorem dX7_endOf_14 : decode cX7_endOf 14 = .ok (.getfield 15, 3) := by decide +kernel
theorem dX7_endOf_17 : decode cX7_endOf 17 = .ok (.iload_n 1, 1) := by decide +kernel
theorem dX7_endOf_18 : decode cX7_endOf 18 = .ok (.iaload, 1) := by decide +kernel
theorem dX7_endOf_19 : decode cX7_endOf 19 = .ok (.goto 4, 3) := by decide +kernel
theorem dX7_endOf_22 : decode cX7_endOf 22 = .ok (.iconst 0, 1) := by decide +kernel
theorem dX7_endOf_23 : decode cX7_endOf 23 = .ok (.ireturn, 1) := by decide +kernel
theorem dX8_init_0 : decode cX8_init 0 = .ok (.aload_n 0, 1) := by decide +kernel
theorem dX8_init_1 : decode cX8_init 1 = .ok (.invokespecial 3, 3) := by decide +kernel
theorem dX8_init_4 : decode cX8_init 4 = .ok (.aload_n 0, 1) := by decide +kernel
theorem dX8_init_5 : decode cX8_init 5 = .ok (.iconst 0, 1) := by decide +kernel
theorem dX8_init_6 : decode cX8_init 6 = .ok (.putfield 9, 3) := by decide +kernel
theorem dX8_init_9 : decode cX8_init 9 = .ok (.aload_n 0, 1) := by decide +kernel
theorem dX8_init_10 : decode cX8_init 10 = .ok (.iconst 1, 1) := by decide +kernel
theorem dX8_init_11 : decode cX8_init 11 = .ok (.putfield 15, 3) := by decide +kernel
theorem dX8_init_14 : decode cX8_init 14 = .ok (.return_, 1) := by decide +kernel
theorem dX8_become_0 : decode cX8_become 0 = .ok (.aload_n 0, 1) := by decide +kernel
theorem dX8_become_1 : decode cX8_become 1 = .ok (.aload_n 1, 1) := by decide +kernel
theorem dX8_become_2 : decode cX8_become 2 = .ok (.getfield 9, 3) := by decide +kernel
theorem dX8_become_5 : decode cX8_become 5 = .ok (.putfield 9, 3) := by decide +kernel
theorem dX8_become_8 : decode cX8_become 8 = .ok (.aload_n 0, 1) := by decide +kernel
theorem dX8_become_9 : decode cX8_become 9 = .ok (.aload_n 1, 1) := by decide +kernel
theorem dX8_become_10 : decode cX8_become 10 = .ok (.getfield 18, 3) := by decide +kernel
theorem dX8_become_13 : decode cX8_become 13 = .ok (.putfield 18, 3) := by decide +kernel
theorem dX8_become_16 : decode cX8_become 16 = .ok (.aload_n 0, 1) := by decide +kernel
theorem dX8_become_17 : decode cX8_become 17 = .ok (.aload_n 1, 1) := by decide +kernel
theorem dX8_become_18 : decode cX8_become 18 = .ok (.getfield 15, 3) := by decide +kernel
theorem dX8_become_21 : decode cX8_become 21 = .ok (.putfield 15, 3) := by decide +kernel
theorem dX8_become_24 : decode cX8_become 24 = .ok (.aload_n 0, 1) := by decide +kernel
theorem dX8_become_25 : decode cX8_become 25 = .ok (.aload_n 1, 1) := by decide +kernel
theorem dX8_become_26 : decode cX8_become 26 = .ok (.getfield 21, 3) := by decide +kernel
theorem dX8_become_29 : decode cX8_become 29 = .ok (.putfield 21, 3) := by decide +kernel
theorem dX8_become_32 : decode cX8_become 32 = .ok (.return_, 1) := by decide +kernel
theorem dX8_becomeShifted_0 : decode cX8_becomeShifted 0 = .ok (.aload_n 0, 1) := by decide +kernel
theorem dX8_becomeShifted_1 : decode cX8_becomeShifted 1 = .ok (.aload_n 1, 1) := by decide +kernel
theorem dX8_becomeShifted_2 : decode cX8_becomeShifted 2 = .ok (.invokevirtual 24, 3) := by decide +kernel
theorem dX8_becomeShifted_5 : decode cX8_becomeShifted 5 = .ok (.aload_n 0, 1) := by decide +kernel
theorem dX8_becomeShifted_6 : decode cX8_becomeShifted 6 = .ok (.aload_n 0, 1) := by decide +kernel
theorem dX8_becomeShifted_7 : decode cX8_becomeShifted 7 = .ok (.getfield 21, 3) := by decide +kernel
theorem dX8_becomeShifted_10 : decode cX8_becomeShifted 10 = .ok (.iload_n 2, 1) := by decide +kernel
theorem dX8_becomeShifted_11 : decode cX8_becomeShifted 11 = .ok (.iadd, 1) := by decide +kernel
theorem dX8_becomeShifted_12 : decode cX8_becomeShifted 12 = .ok (.bipush 60, 2) := by decide +kernel
theorem dX8_becomeShifted_14 : decode cX8_becomeShifted 14 = .ok (.irem, 1) := by decide +kernel
theorem dX8_becomeShifted_15 : decode cX8_becomeShifted 15 = .ok (.putfield 21, 3) := by decide +kernel
theorem dX8_becomeShifted_18 : decode cX8_becomeShifted 18 = .ok (.return_, 1) := by decide +kernel
theorem dX8_fact_0 : decode cX8_fact 0 = .ok (.iload_n 1, 1) := by decide +kernel
theorem dX8_fact_1 : decode cX8_fact 1 = .ok (.tableswitch 42 0 2 #[27, 32, 37], 27) := by decide +kernel
theorem dX8_fact_28 : decode cX8_fact 28 = .ok (.aload_n 0, 1) := by decide +kernel
theorem dX8_fact_29 : decode cX8_fact 29 = .ok (.getfield 9, 3) := by decide +kernel
theorem dX8_fact_32 : decode cX8_fact 32 = .ok (.ireturn, 1) := by decide +kernel
theorem dX8_fact_33 : decode cX8_fact 33 = .ok (.aload_n 0, 1) := by decide +kernel
theorem dX8_fact_34 : decode cX8_fact 34 = .ok (.getfield 18, 3) := by decide +kernel
theorem dX8_fact_37 : decode cX8_fact 37 = .ok (.ireturn, 1) := by decide +kernel
theorem dX8_fact_38 : decode cX8_fact 38 = .ok (.aload_n 0, 1) := by decide +kernel
theorem dX8_fact_39 : decode cX8_fact 39 = .ok (.getfield 15, 3) := by decide +kernel
theorem dX8_fact_42 : decode cX8_fact 42 = .ok (.ireturn, 1) := by decide +kernel
theorem dX8_fact_43 : decode cX8_fact 43 = .ok (.aload_n 0, 1) := by decide +kernel
theorem dX8_fact_44 : decode cX8_fact 44 = .ok (.getfield 21, 3) := by decide +kernel
theorem dX8_fact_47 : decode cX8_fact 47 = .ok (.ireturn, 1) := by decide +kernel
theorem dX8_change_0 : decode cX8_change 0 = .ok (.iload_n 1, 1) := by decide +kernel
theorem dX8_change_1 : decode cX8_change 1 = .ok (.lookupswitch 43 #[(1, 27), (2, 35)], 27) := by decide +kernel
theorem dX8_change_28 : decode cX8_change 28 = .ok (.aload_n 0, 1) := by decide +kernel
theorem dX8_change_29 : decode cX8_change 29 = .ok (.iload_n 2, 1) := by decide +kernel
theorem dX8_change_30 : decode cX8_change 30 = .ok (.putfield 18, 3) := by decide +kernel
theorem dX8_change_33 : decode cX8_change 33 = .ok (.goto 16, 3) := by decide +kernel
theorem dX8_change_36 : decode cX8_change 36 = .ok (.aload_n 0, 1) := by decide +kernel
theorem dX8_change_37 : decode cX8_change 37 = .ok (.iload_n 2, 1) := by decide +kernel
theorem dX8_change_38 : decode cX8_change 38 = .ok (.putfield 15, 3) := by decide +kernel
theorem dX8_change_41 : decode cX8_change 41 = .ok (.goto 8, 3) := by decide +kernel
theorem dX8_change_44 : decode cX8_change 44 = .ok (.aload_n 0, 1) := by decide +kernel
theorem dX8_change_45 : decode cX8_change 45 = .ok (.iload_n 2, 1) := by decide +kernel
theorem dX8_change_46 : decode cX8_change 46 = .ok (.putfield 21, 3) := by decide +kernel
theorem dX8_change_49 : decode cX8_change 49 = .ok (.return_, 1) := by decide +kernel
theorem dX8_comes_0 : decode cX8_comes 0 = .ok (.aload_n 0, 1) := by decide +kernel
theorem dX8_comes_1 : decode cX8_comes 1 = .ok (.getfield 9, 3) := by decide +kernel
theorem dX8_comes_4 : decode cX8_comes 4 = .ok (.tableswitch 120 1 5 #[36, 42, 49, 73, 95], 36) := by decide +kernel
theorem dX8_comes_40 : decode cX8_comes 40 = .ok (.aload_n 0, 1) := by decide +kernel
theorem dX8_comes_41 : decode cX8_comes 41 = .ok (.iload_n 1, 1) := by decide +kernel
theorem dX8_comes_42 : decode cX8_comes 42 = .ok (.invokevirtual 28, 3) := by decide +kernel
theorem dX8_comes_45 : decode cX8_comes 45 = .ok (.ireturn, 1) := by decide +kernel
theorem dX8_comes_46 : decode cX8_comes 46 = .ok (.aload_n 0, 1) := by decide +kernel
theorem dX8_comes_47 : decode cX8_comes 47 = .ok (.iload_n 1, 1) := by decide +kernel
theorem dX8_comes_48 : decode cX8_comes 48 = .ok (.iload_n 2, 1) := by decide +kernel
theorem dX8_comes_49 : decode cX8_comes 49 = .ok (.invokevirtual 32, 3) := by decide +kernel
theorem dX8_comes_52 : decode cX8_comes 52 = .ok (.ireturn, 1) := by decide +kernel
theorem dX8_comes_53 : decode cX8_comes 53 = .ok (.aload_n 0, 1) := by decide +kernel
theorem dX8_comes_54 : decode cX8_comes 54 = .ok (.iload_n 1, 1) := by decide +kernel
theorem dX8_comes_55 : decode cX8_comes 55 = .ok (.invokevirtual 28, 3) := by decide +kernel
theorem dX8_comes_58 : decode cX8_comes 58 = .ok (.ifCond .ne 13, 3) := by decide +kernel
theorem dX8_comes_61 : decode cX8_comes 61 = .ok (.aload_n 0, 1) := by decide +kernel
theorem dX8_comes_62 : decode cX8_comes 62 = .ok (.iload_n 1, 1) := by decide +kernel
theorem dX8_comes_63 : decode cX8_comes 63 = .ok (.iconst 1, 1) := by decide +kernel
theorem dX8_comes_64 : decode cX8_comes 64 = .ok (.iadd, 1) := by decide +kernel
theorem dX8_comes_65 : decode cX8_comes 65 = .ok (.invokevirtual 36, 3) := by decide +kernel
theorem dX8_comes_68 : decode cX8_comes 68 = .ok (.ifCond .eq 7, 3) := by decide +kernel
theorem dX8_comes_71 : decode cX8_comes 71 = .ok (.iconst 1, 1) := by decide +kernel
theorem dX8_comes_72 : decode cX8_comes 72 = .ok (.goto 4, 3) := by decide +kernel
theorem dX8_comes_75 : decode cX8_comes 75 = .ok (.iconst 0, 1) := by decide +kernel
theorem dX8_comes_76 : decode cX8_comes 76 = .ok (.ireturn, 1) := by decide +kernel
theorem dX8_comes_77 : decode cX8_comes 77 = .ok (.aload_n 0, 1) := by decide +kernel
theorem dX8_comes_78 : decode cX8_comes 78 = .ok (.iload_n 1, 1) := by decide +kernel
theorem dX8_comes_79 : decode cX8_comes 79 = .ok (.invokevirtual 36, 3) := by decide +kernel
theorem dX8_comes_82 : decode cX8_comes 82 = .ok (.ifCond .eq 15, 3) := by decide +kernel
theorem dX8_comes_85 : decode cX8_comes 85 = .ok (.iload_n 1, 1) := by decide +kernel
theorem dX8_comes_86 : decode cX8_comes 86 = .ok (.iload_n 2, 1) := by decide +kernel
theorem dX8_comes_87 : decode cX8_comes 87 = .ok (.invokestatic 39, 3) := by decide +kernel
theorem dX8_comes_90 : decode cX8_comes 90 = .ok (.ifCond .ne 7, 3) := by decide +kernel
theorem dX8_comes_93 : decode cX8_comes 93 = .ok (.iconst 1, 1) := by decide +kernel
theorem dX8_comes_94 : decode cX8_comes 94 = .ok (.goto 4, 3) := by decide +kernel
theorem dX8_comes_97 : decode cX8_comes 97 = .ok (.iconst 0, 1) := by decide +kernel
theorem dX8_comes_98 : decode cX8_comes 98 = .ok (.ireturn, 1) := by decide +kernel
theorem dX8_comes_99 : decode cX8_comes 99 = .ok (.aload_n 0, 1) := by decide +kernel
theorem dX8_comes_100 : decode cX8_comes 100 = .ok (.iload_n 1, 1) := by decide +kernel
theorem dX8_comes_101 : decode cX8_comes 101 = .ok (.invokevirtual 36, 3) := by decide +kernel
theorem dX8_comes_104 : decode cX8_comes 104 = .ok (.ifCond .ne 14, 3) := by decide +kernel
theorem dX8_comes_107 : decode cX8_comes 107 = .ok (.iload_n 1, 1) := by decide +kernel
theorem dX8_comes_108 : decode cX8_comes 108 = .ok (.bipush 30, 2) := by decide +kernel
theorem dX8_comes_110 : decode cX8_comes 110 = .ok (.irem, 1) := by decide +kernel
theorem dX8_comes_111 : decode cX8_comes 111 = .ok (.aload_n 0, 1) := by decide +kernel
theorem dX8_comes_112 : decode cX8_comes 112 = .ok (.getfield 18, 3) := by decide +kernel
theorem dX8_comes_115 : decode cX8_comes 115 = .ok (.if_icmp .ne 7, 3) := by decide +kernel
theorem dX8_comes_118 : decode cX8_comes 118 = .ok (.iconst 1, 1) := by decide +kernel
theorem dX8_comes_119 : decode cX8_comes 119 = .ok (.goto 4, 3) := by decide +kernel
theorem dX8_comes_122 : decode cX8_comes 122 = .ok (.iconst 0, 1) := by decide +kernel
theorem dX8_comes_123 : decode cX8_comes 123 = .ok (.ireturn, 1) := by decide +kernel
theorem dX8_comes_124 : decode cX8_comes 124 = .ok (.aload_n 0, 1) := by decide +kernel
theorem dX8_comes_125 : decode cX8_comes 125 = .ok (.iload_n 1, 1) := by decide +kernel
theorem dX8_comes_126 : decode cX8_comes 126 = .ok (.invokevirtual 36, 3) := by decide +kernel
theorem dX8_comes_129 : decode cX8_comes 129 = .ok (.ireturn, 1) := by decide +kernel
theorem dX8_inRound_0 : decode cX8_inRound 0 = .ok (.iload_n 1, 1) := by decide +kernel
theorem dX8_inRound_1 : decode cX8_inRound 1 = .ok (.aload_n 0, 1) := by decide +kernel
theorem dX8_inRound_2 : decode cX8_inRound 2 = .ok (.getfield 21, 3) := by decide +kernel
theorem dX8_inRound_5 : decode cX8_inRound 5 = .ok (.if_icmp .lt 28, 3) := by decide +kernel
theorem dX8_inRound_8 : decode cX8_inRound 8 = .ok (.aload_n 0, 1) := by decide +kernel
theorem dX8_inRound_9 : decode cX8_inRound 9 = .ok (.getfield 15, 3) := by decide +kernel
theorem dX8_inRound_12 : decode cX8_inRound 12 = .ok (.ifCond .le 21, 3) := by decide +kernel
theorem dX8_inRound_15 : decode cX8_inRound 15 = .ok (.iload_n 1, 1) := by decide +kernel
theorem dX8_inRound_16 : decode cX8_inRound 16 = .ok (.aload_n 0, 1) := by decide +kernel
theorem dX8_inRound_17 : decode cX8_inRound 17 = .ok (.getfield 21, 3) := by decide +kernel
theorem dX8_inRound_20 : decode cX8_inRound 20 = .ok (.isub, 1) := by decide +kernel
theorem dX8_inRound_21 : decode cX8_inRound 21 = .ok (.aload_n 0, 1) := by decide +kernel
theorem dX8_inRound_22 : decode cX8_inRound 22 = .ok (.getfield 15, 3) := by decide +kernel
theorem dX8_inRound_25 : decode cX8_inRound 25 = .ok (.irem, 1) := by decide +kernel
theorem dX8_inRound_26 : decode cX8_inRound 26 = .ok (.ifCond .ne 7, 3) := by decide +kernel
theorem dX8_inRound_29 : decode cX8_inRound 29 = .ok (.iconst 1, 1) := by decide +kernel
theorem dX8_inRound_30 : decode cX8_inRound 30 = .ok (.goto 4, 3) := by decide +kernel
theorem dX8_inRound_33 : decode cX8_inRound 33 = .ok (.iconst 0, 1) := by decide +kernel
theorem dX8_inRound_34 : decode cX8_inRound 34 = .ok (.ireturn, 1) := by decide +kernel
theorem dX8_lasts_0 : decode cX8_lasts 0 = .ok (.iload_n 1, 1) := by decide +kernel
theorem dX8_lasts_1 : decode cX8_lasts 1 = .ok (.aload_n 0, 1) := by decide +kernel
theorem dX8_lasts_2 : decode cX8_lasts 2 = .ok (.getfield 21, 3) := by decide +kernel
theorem dX8_lasts_5 : decode cX8_lasts 5 = .ok (.if_icmp .lt 32, 3) := by decide +kernel
theorem dX8_lasts_8 : decode cX8_lasts 8 = .ok (.aload_n 0, 1) := by decide +kernel
theorem dX8_lasts_9 : decode cX8_lasts 9 = .ok (.getfield 15, 3) := by decide +kernel
theorem dX8_lasts_12 : decode cX8_lasts 12 = .ok (.ifCond .le 25, 3) := by decide +kernel
theorem dX8_lasts_15 : decode cX8_lasts 15 = .ok (.iload_n 1, 1) := by decide +kernel
theorem dX8_lasts_16 : decode cX8_lasts 16 = .ok (.aload_n 0, 1) := by decide +kernel
theorem dX8_lasts_17 : decode cX8_lasts 17 = .ok (.getfield 21, 3) := by decide +kernel
theorem dX8_lasts_20 : decode cX8_lasts 20 = .ok (.isub, 1) := by decide +kernel
theorem dX8_lasts_21 : decode cX8_lasts 21 = .ok (.aload_n 0, 1) := by decide +kernel
theorem dX8_lasts_22 : decode cX8_lasts 22 = .ok (.getfield 15, 3) := by decide +kernel
theorem dX8_lasts_25 : decode cX8_lasts 25 = .ok (.irem, 1) := by decide +kernel
theorem dX8_lasts_26 : decode cX8_lasts 26 = .ok (.aload_n 0, 1) := by decide +kernel
theorem dX8_lasts_27 : decode cX8_lasts 27 = .ok (.getfield 18, 3) := by decide +kernel
theorem dX8_lasts_30 : decode cX8_lasts 30 = .ok (.if_icmp .gt 7, 3) := by decide +kernel
theorem dX8_lasts_33 : decode cX8_lasts 33 = .ok (.iconst 1, 1) := by decide +kernel
theorem dX8_lasts_34 : decode cX8_lasts 34 = .ok (.goto 4, 3) := by decide +kernel
theorem dX8_lasts_37 : decode cX8_lasts 37 = .ok (.iconst 0, 1) := by decide +kernel
theorem dX8_lasts_38 : decode cX8_lasts 38 = .ok (.ireturn, 1) := by decide +kernel
theorem dX8_isPutOffTo_0 : decode cX8_isPutOffTo 0 = .ok (.iload_n 1, 1) := by decide +kernel
theorem dX8_isPutOffTo_1 : decode cX8_isPutOffTo 1 = .ok (.iload_n 2, 1) := by decide +kernel
theorem dX8_isPutOffTo_2 : decode cX8_isPutOffTo 2 = .ok (.invokestatic 39, 3) := by decide +kernel
theorem dX8_isPutOffTo_5 : decode cX8_isPutOffTo 5 = .ok (.ifCond .eq 5, 3) := by decide +kernel
theorem dX8_isPutOffTo_8 : decode cX8_isPutOffTo 8 = .ok (.iconst 0, 1) := by decide +kernel
theorem dX8_isPutOffTo_9 : decode cX8_isPutOffTo 9 = .ok (.ireturn, 1) := by decide +kernel
theorem dX8_isPutOffTo_10 : decode cX8_isPutOffTo 10 = .ok (.aload_n 0, 1) := by decide +kernel
theorem dX8_isPutOffTo_11 : decode cX8_isPutOffTo 11 = .ok (.iload_n 1, 1) := by decide +kernel
theorem dX8_isPutOffTo_12 : decode cX8_isPutOffTo 12 = .ok (.invokevirtual 36, 3) := by decide +kernel
theorem dX8_isPutOffTo_15 : decode cX8_isPutOffTo 15 = .ok (.ifCond .eq 5, 3) := by decide +kernel
theorem dX8_isPutOffTo_18 : decode cX8_isPutOffTo 18 = .ok (.iconst 1, 1) := by decide +kernel
theorem dX8_isPutOffTo_19 : decode cX8_isPutOffTo 19 = .ok (.ireturn, 1) := by decide +kernel
theorem dX8_isPutOffTo_20 : decode cX8_isPutOffTo 20 = .ok (.iconst 1, 1) := by decide +kernel
theorem dX8_isPutOffTo_21 : decode cX8_isPutOffTo 21 = .ok (.istore_n 3, 1) := by decide +kernel
theorem dX8_isPutOffTo_22 : decode cX8_isPutOffTo 22 = .ok (.iload_n 3, 1) := by decide +kernel
theorem dX8_isPutOffTo_23 : decode cX8_isPutOffTo 23 = .ok (.bipush 7, 2) := by decide +kernel
theorem dX8_isPutOffTo_25 : decode cX8_isPutOffTo 25 = .ok (.if_icmp .ge 36, 3) := by decide +kernel
theorem dX8_isPutOffTo_28 : decode cX8_isPutOffTo 28 = .ok (.iload_n 3, 1) := by decide +kernel
theorem dX8_isPutOffTo_29 : decode cX8_isPutOffTo 29 = .ok (.iload_n 1, 1) := by decide +kernel
theorem dX8_isPutOffTo_30 : decode cX8_isPutOffTo 30 = .ok (.if_icmp .gt 31, 3) := by decide +kernel
theorem dX8_isPutOffTo_33 : decode cX8_isPutOffTo 33 = .ok (.iload_n 1, 1) := by decide +kernel
theorem dX8_isPutOffTo_34 : decode cX8_isPutOffTo 34 = .ok (.iload_n 3, 1) := by decide +kernel
theorem dX8_isPutOffTo_35 : decode cX8_isPutOffTo 35 = .ok (.isub, 1) := by decide +kernel
theorem dX8_isPutOffTo_36 : decode cX8_isPutOffTo 36 = .ok (.iload_n 2, 1) := by decide +kernel
theorem dX8_isPutOffTo_37 : decode cX8_isPutOffTo 37 = .ok (.invokestatic 39, 3) := by decide +kernel
theorem dX8_isPutOffTo_40 : decode cX8_isPutOffTo 40 = .ok (.ifCond .eq 21, 3) := by decide +kernel
theorem dX8_isPutOffTo_43 : decode cX8_isPutOffTo 43 = .ok (.aload_n 0, 1) := by decide +kernel
theorem dX8_isPutOffTo_44 : decode cX8_isPutOffTo 44 = .ok (.iload_n 1, 1) := by decide +kernel
theorem dX8_isPutOffTo_45 : decode cX8_isPutOffTo 45 = .ok (.iload_n 3, 1) := by decide +kernel
theorem dX8_isPutOffTo_46 : decode cX8_isPutOffTo 46 = .ok (.isub, 1) := by decide +kernel
theorem dX8_isPutOffTo_47 : decode cX8_isPutOffTo 47 = .ok (.invokevirtual 36, 3) := by decide +kernel
theorem dX8_isPutOffTo_50 : decode cX8_isPutOffTo 50 = .ok (.ifCond .eq 5, 3) := by decide +kernel
theorem dX8_isPutOffTo_53 : decode cX8_isPutOffTo 53 = .ok (.iconst 1, 1) := by decide +kernel
theorem dX8_isPutOffTo_54 : decode cX8_isPutOffTo 54 = .ok (.ireturn, 1) := by decide +kernel
theorem dX8_isPutOffTo_55 : decode cX8_isPutOffTo 55 = .ok (.iinc 3 1, 3) := by decide +kernel
theorem dX8_isPutOffTo_58 : decode cX8_isPutOffTo 58 = .ok (.goto (-36), 3) := by decide +kernel
theorem dX8_isPutOffTo_61 : decode cX8_isPutOffTo 61 = .ok (.iconst 0, 1) := by decide +kernel
theorem dX8_isPutOffTo_62 : decode cX8_isPutOffTo 62 = .ok (.ireturn, 1) := by decide +kernel
theorem dX8_spends_0 : decode cX8_spends 0 = .ok (.aload_n 0, 1) := by decide +kernel
theorem dX8_spends_1 : decode cX8_spends 1 = .ok (.getfield 9, 3) := by decide +kernel
theorem dX8_spends_4 : decode cX8_spends 4 = .ok (.tableswitch 50 1 4 #[32, 46, 38, 46], 32) := by decide +kernel
theorem dX8_spends_36 : decode cX8_spends 36 = .ok (.aload_n 0, 1) := by decide +kernel
theorem dX8_spends_37 : decode cX8_spends 37 = .ok (.iload_n 1, 1) := by decide +kernel
theorem dX8_spends_38 : decode cX8_spends 38 = .ok (.invokevirtual 42, 3) := by decide +kernel
theorem dX8_spends_41 : decode cX8_spends 41 = .ok (.ireturn, 1) := by decide +kernel
theorem dX8_spends_42 : decode cX8_spends 42 = .ok (.iconst 2, 1) := by decide +kernel
theorem dX8_spends_43 : decode cX8_spends 43 = .ok (.aload_n 0, 1) := by decide +kernel
theorem dX8_spends_44 : decode cX8_spends 44 = .ok (.iload_n 1, 1) := by decide +kernel
theorem dX8_spends_45 : decode cX8_spends 45 = .ok (.invokevirtual 42, 3) := by decide +kernel
theorem dX8_spends_48 : decode cX8_spends 48 = .ok (.imul, 1) := by decide +kernel
theorem dX8_spends_49 : decode cX8_spends 49 = .ok (.ireturn, 1) := by decide +kernel
theorem dX8_spends_50 : decode cX8_spends 50 = .ok (.iload_n 1, 1) := by decide +kernel
theorem dX8_spends_51 : decode cX8_spends 51 = .ok (.iconst 1, 1) := by decide +kernel
theorem dX8_spends_52 : decode cX8_spends 52 = .ok (.iadd, 1) := by decide +kernel
theorem dX8_spends_53 : decode cX8_spends 53 = .ok (.ireturn, 1) := by decide +kernel
theorem dX8_spends_54 : decode cX8_spends 54 = .ok (.iload_n 1, 1) := by decide +kernel
theorem dX8_spends_55 : decode cX8_spends 55 = .ok (.ireturn, 1) := by decide +kernel
theorem dX8_lastingSpends_0 : decode cX8_lastingSpends 0 = .ok (.aload_n 0, 1) := by decide +kernel
theorem dX8_lastingSpends_1 : decode cX8_lastingSpends 1 = .ok (.getfield 18, 3) := by decide +kernel
theorem dX8_lastingSpends_4 : decode cX8_lastingSpends 4 = .ok (.iconst 1, 1) := by decide +kernel
theorem dX8_lastingSpends_5 : decode cX8_lastingSpends 5 = .ok (.iadd, 1) := by decide +kernel
theorem dX8_lastingSpends_6 : decode cX8_lastingSpends 6 = .ok (.istore_n 2, 1) := by decide +kernel
theorem dX8_lastingSpends_7 : decode cX8_lastingSpends 7 = .ok (.iload_n 2, 1) := by decide +kernel
theorem dX8_lastingSpends_8 : decode cX8_lastingSpends 8 = .ok (.ifCond .le 13, 3) := by decide +kernel
theorem dX8_lastingSpends_11 : decode cX8_lastingSpends 11 = .ok (.iload_n 1, 1) := by decide +kernel
theorem dX8_lastingSpends_12 : decode cX8_lastingSpends 12 = .ok (.iload_n 2, 1) := by decide +kernel
theorem dX8_lastingSpends_13 : decode cX8_lastingSpends 13 = .ok (.idiv, 1) := by decide +kernel
theorem dX8_lastingSpends_14 : decode cX8_lastingSpends 14 = .ok (.iconst 1, 1) := by decide +kernel
theorem dX8_lastingSpends_15 : decode cX8_lastingSpends 15 = .ok (.invokestatic 46, 3) := by decide +kernel
theorem dX8_lastingSpends_18 : decode cX8_lastingSpends 18 = .ok (.goto 4, 3) := by decide +kernel
theorem dX8_lastingSpends_21 : decode cX8_lastingSpends 21 = .ok (.iload_n 1, 1) := by decide +kernel
theorem dX8_lastingSpends_22 : decode cX8_lastingSpends 22 = .ok (.ireturn, 1) := by decide +kernel
theorem dX8_isUnder_0 : decode cX8_isUnder 0 = .ok (.aload_n 0, 1) := by decide +kernel
theorem dX8_isUnder_1 : decode cX8_isUnder 1 = .ok (.getfield 9, 3) := by decide +kernel
theorem dX8_isUnder_4 : decode cX8_isUnder 4 = .ok (.istore_n 2, 1) := by decide +kernel
theorem dX8_isUnder_5 : decode cX8_isUnder 5 = .ok (.iconst 0, 1) := by decide +kernel
theorem dX8_isUnder_6 : decode cX8_isUnder 6 = .ok (.istore_n 3, 1) := by decide +kernel
theorem dX8_isUnder_7 : decode cX8_isUnder 7 = .ok (.iload_n 3, 1) := by decide +kernel
theorem dX8_isUnder_8 : decode cX8_isUnder 8 = .ok (.bipush 6, 2) := by decide +kernel
theorem dX8_isUnder_10 : decode cX8_isUnder 10 = .ok (.if_icmp .ge 26, 3) := by decide +kernel
theorem dX8_isUnder_13 : decode cX8_isUnder 13 = .ok (.iload_n 2, 1) := by decide +kernel
theorem dX8_isUnder_14 : decode cX8_isUnder 14 = .ok (.iconst (-1), 1) := by decide +kernel
theorem dX8_isUnder_15 : decode cX8_isUnder 15 = .ok (.if_icmp .eq 21, 3) := by decide +kernel
theorem dX8_isUnder_18 : decode cX8_isUnder 18 = .ok (.iload_n 2, 1) := by decide +kernel
theorem dX8_isUnder_19 : decode cX8_isUnder 19 = .ok (.iload_n 1, 1) := by decide +kernel
theorem dX8_isUnder_20 : decode cX8_isUnder 20 = .ok (.if_icmp .ne 5, 3) := by decide +kernel
theorem dX8_isUnder_23 : decode cX8_isUnder 23 = .ok (.iconst 1, 1) := by decide +kernel
theorem dX8_isUnder_24 : decode cX8_isUnder 24 = .ok (.ireturn, 1) := by decide +kernel
theorem dX8_isUnder_25 : decode cX8_isUnder 25 = .ok (.iload_n 2, 1) := by decide +kernel
theorem dX8_isUnder_26 : decode cX8_isUnder 26 = .ok (.invokestatic 52, 3) := by decide +kernel
theorem dX8_isUnder_29 : decode cX8_isUnder 29 = .ok (.istore_n 2, 1) := by decide +kernel
theorem dX8_isUnder_30 : decode cX8_isUnder 30 = .ok (.iinc 3 1, 3) := by decide +kernel
theorem dX8_isUnder_33 : decode cX8_isUnder 33 = .ok (.goto (-26), 3) := by decide +kernel
theorem dX8_isUnder_36 : decode cX8_isUnder 36 = .ok (.iconst 0, 1) := by decide +kernel
theorem dX8_isUnder_37 : decode cX8_isUnder 37 = .ok (.ireturn, 1) := by decide +kernel
theorem dX8_kindAbove_0 : decode cX8_kindAbove 0 = .ok (.iload_n 0, 1) := by decide +kernel
theorem dX8_kindAbove_1 : decode cX8_kindAbove 1 = .ok (.tableswitch 41 1 5 #[35, 35, 37, 39, 35], 35) := by decide +kernel
theorem dX8_kindAbove_36 : decode cX8_kindAbove 36 = .ok (.iconst 0, 1) := by decide +kernel
theorem dX8_kindAbove_37 : decode cX8_kindAbove 37 = .ok (.ireturn, 1) := by decide +kernel
theorem dX8_kindAbove_38 : decode cX8_kindAbove 38 = .ok (.iconst 1, 1) := by decide +kernel
theorem dX8_kindAbove_39 : decode cX8_kindAbove 39 = .ok (.ireturn, 1) := by decide +kernel
theorem dX8_kindAbove_40 : decode cX8_kindAbove 40 = .ok (.iconst 2, 1) := by decide +kernel
theorem dX8_kindAbove_41 : decode cX8_kindAbove 41 = .ok (.ireturn, 1) := by decide +kernel
theorem dX8_kindAbove_42 : decode cX8_kindAbove 42 = .ok (.iconst (-1), 1) := by decide +kernel
theorem dX8_kindAbove_43 : decode cX8_kindAbove 43 = .ok (.ireturn, 1) := by decide +kernel
theorem dX8_sharesDayWith_0 : decode cX8_sharesDayWith 0 = .ok (.aload_n 0, 1) := by decide +kernel
theorem dX8_sharesDayWith_1 : decode cX8_sharesDayWith 1 = .ok (.getfield 15, 3) := by decide +kernel
theorem dX8_sharesDayWith_4 : decode cX8_sharesDayWith 4 = .ok (.i2l, 1) := by decide +kernel
theorem dX8_sharesDayWith_5 : decode cX8_sharesDayWith 5 = .ok (.aload_n 1, 1) := by decide +kernel
theorem dX8_sharesDayWith_6 : decode cX8_sharesDayWith 6 = .ok (.getfield 15, 3) := by decide +kernel
theorem dX8_sharesDayWith_9 : decode cX8_sharesDayWith 9 = .ok (.i2l, 1) := by decide +kernel
theorem dX8_sharesDayWith_10 : decode cX8_sharesDayWith 10 = .ok (.invokestatic 55, 3) := by decide +kernel
theorem dX8_sharesDayWith_13 : decode cX8_sharesDayWith 13 = .ok (.lstore_n 2, 1) := by decide +kernel
theorem dX8_sharesDayWith_14 : decode cX8_sharesDayWith 14 = .ok (.lload_n 2, 1) := by decide +kernel
theorem dX8_sharesDayWith_15 : decode cX8_sharesDayWith 15 = .ok (.lconst 0, 1) := by decide +kernel
theorem dX8_sharesDayWith_16 : decode cX8_sharesDayWith 16 = .ok (.lcmp, 1) := by decide +kernel
theorem dX8_sharesDayWith_17 : decode cX8_sharesDayWith 17 = .ok (.ifCond .le 24, 3) := by decide +kernel
theorem dX8_sharesDayWith_20 : decode cX8_sharesDayWith 20 = .ok (.aload_n 0, 1) := by decide +kernel
theorem dX8_sharesDayWith_21 : decode cX8_sharesDayWith 21 = .ok (.getfield 21, 3) := by decide +kernel
theorem dX8_sharesDayWith_24 : decode cX8_sharesDayWith 24 = .ok (.aload_n 1, 1) := by decide +kernel
theorem dX8_sharesDayWith_25 : decode cX8_sharesDayWith 25 = .ok (.getfield 21, 3) := by decide +kernel
theorem dX8_sharesDayWith_28 : decode cX8_sharesDayWith 28 = .ok (.isub, 1) := by decide +kernel
theorem dX8_sharesDayWith_29 : decode cX8_sharesDayWith 29 = .ok (.i2l, 1) := by decide +kernel
theorem dX8_sharesDayWith_30 : decode cX8_sharesDayWith 30 = .ok (.lload_n 2, 1) := by decide +kernel
theorem dX8_sharesDayWith_31 : decode cX8_sharesDayWith 31 = .ok (.lrem, 1) := by decide +kernel
theorem dX8_sharesDayWith_32 : decode cX8_sharesDayWith 32 = .ok (.lconst 0, 1) := by decide +kernel
theorem dX8_sharesDayWith_33 : decode cX8_sharesDayWith 33 = .ok (.lcmp, 1) := by decide +kernel
theorem dX8_sharesDayWith_34 : decode cX8_sharesDayWith 34 = .ok (.ifCond .ne 7, 3) := by decide +kernel
theorem dX8_sharesDayWith_37 : decode cX8_sharesDayWith 37 = .ok (.iconst 1, 1) := by decide +kernel
theorem dX8_sharesDayWith_38 : decode cX8_sharesDayWith 38 = .ok (.goto 4, 3) := by decide +kernel
theorem dX8_sharesDayWith_41 : decode cX8_sharesDayWith 41 = .ok (.iconst 0, 1) := by decide +kernel
theorem dX8_sharesDayWith_42 : decode cX8_sharesDayWith 42 = .ok (.ireturn, 1) := by decide +kernel
theorem dX9_init_0 : decode cX9_init 0 = .ok (.aload_n 0, 1) := by decide +kernel
theorem dX9_init_1 : decode cX9_init 1 = .ok (.invokespecial 3, 3) := by decide +kernel
theorem dX9_init_4 : decode cX9_init 4 = .ok (.aload_n 0, 1) := by decide +kernel
theorem dX9_init_5 : decode cX9_init 5 = .ok (.new 9, 3) := by decide +kernel
theorem dX9_init_8 : decode cX9_init 8 = .ok (.dup, 1) := by decide +kernel
theorem dX9_init_9 : decode cX9_init 9 = .ok (.invokespecial 11, 3) := by decide +kernel
theorem dX9_init_12 : decode cX9_init 12 = .ok (.putfield 12, 3) := by decide +kernel
theorem dX9_init_15 : decode cX9_init 15 = .ok (.aload_n 0, 1) := by decide +kernel
theorem dX9_init_16 : decode cX9_init 16 = .ok (.new 9, 3) := by decide +kernel
theorem dX9_init_19 : decode cX9_init 19 = .ok (.dup, 1) := by decide +kernel
theorem dX9_init_20 : decode cX9_init 20 = .ok (.invokespecial 11, 3) := by decide +kernel
theorem dX9_init_23 : decode cX9_init 23 = .ok (.putfield 16, 3) := by decide +kernel
theorem dX9_init_26 : decode cX9_init 26 = .ok (.aload_n 0, 1) := by decide +kernel
theorem dX9_init_27 : decode cX9_init 27 = .ok (.bipush 6, 2) := by decide +kernel
theorem dX9_init_29 : decode cX9_init 29 = .ok (.anewarray 19, 3) := by decide +kernel
theorem dX9_init_32 : decode cX9_init 32 = .ok (.putfield 21, 3) := by decide +kernel
theorem dX9_init_35 : decode cX9_init 35 = .ok (.aload_n 0, 1) := by decide +kernel
theorem dX9_init_36 : decode cX9_init 36 = .ok (.new 25, 3) := by decide +kernel
theorem dX9_init_39 : decode cX9_init 39 = .ok (.dup, 1) := by decide +kernel
theorem dX9_init_40 : decode cX9_init 40 = .ok (.invokespecial 27, 3) := by decide +kernel
theorem dX9_init_43 : decode cX9_init 43 = .ok (.putfield 28, 3) := by decide +kernel
theorem dX9_init_46 : decode cX9_init 46 = .ok (.aload_n 0, 1) := by decide +kernel
theorem dX9_init_47 : decode cX9_init 47 = .ok (.new 32, 3) := by decide +kernel
theorem dX9_init_50 : decode cX9_init 50 = .ok (.dup, 1) := by decide +kernel
theorem dX9_init_51 : decode cX9_init 51 = .ok (.invokespecial 34, 3) := by decide +kernel
theorem dX9_init_54 : decode cX9_init 54 = .ok (.putfield 35, 3) := by decide +kernel
theorem dX9_init_57 : decode cX9_init 57 = .ok (.aload_n 0, 1) := by decide +kernel
theorem dX9_init_58 : decode cX9_init 58 = .ok (.new 39, 3) := by decide +kernel
theorem dX9_init_61 : decode cX9_init 61 = .ok (.dup, 1) := by decide +kernel
theorem dX9_init_62 : decode cX9_init 62 = .ok (.invokespecial 41, 3) := by decide +kernel
theorem dX9_init_65 : decode cX9_init 65 = .ok (.putfield 42, 3) := by decide +kernel
theorem dX9_init_68 : decode cX9_init 68 = .ok (.aload_n 0, 1) := by decide +kernel
theorem dX9_init_69 : decode cX9_init 69 = .ok (.new 46, 3) := by decide +kernel
theorem dX9_init_72 : decode cX9_init 72 = .ok (.dup, 1) := by decide +kernel
theorem dX9_init_73 : decode cX9_init 73 = .ok (.invokespecial 48, 3) := by decide +kernel
theorem dX9_init_76 : decode cX9_init 76 = .ok (.putfield 49, 3) := by decide +kernel
theorem dX9_init_79 : decode cX9_init 79 = .ok (.aload_n 0, 1) := by decide +kernel
theorem dX9_init_80 : decode cX9_init 80 = .ok (.iconst 4, 1) := by decide +kernel
theorem dX9_init_81 : decode cX9_init 81 = .ok (.anewarray 53, 3) := by decide +kernel
theorem dX9_init_84 : decode cX9_init 84 = .ok (.putfield 55, 3) := by decide +kernel
theorem dX9_init_87 : decode cX9_init 87 = .ok (.iconst 0, 1) := by decide +kernel
theorem dX9_init_88 : decode cX9_init 88 = .ok (.istore_n 1, 1) := by decide +kernel
theorem dX9_init_89 : decode cX9_init 89 = .ok (.iload_n 1, 1) := by decide +kernel
theorem dX9_init_90 : decode cX9_init 90 = .ok (.aload_n 0, 1) := by decide +kernel
theorem dX9_init_91 : decode cX9_init 91 = .ok (.getfield 21, 3) := by decide +kernel
theorem dX9_init_94 : decode cX9_init 94 = .ok (.arraylength, 1) := by decide +kernel
theorem dX9_init_95 : decode cX9_init 95 = .ok (.if_icmp .ge 22, 3) := by decide +kernel
theorem dX9_init_98 : decode cX9_init 98 = .ok (.aload_n 0, 1) := by decide +kernel
theorem dX9_init_99 : decode cX9_init 99 = .ok (.getfield 21, 3) := by decide +kernel
theorem dX9_init_102 : decode cX9_init 102 = .ok (.iload_n 1, 1) := by decide +kernel
theorem dX9_init_103 : decode cX9_init 103 = .ok (.new 19, 3) := by decide +kernel
theorem dX9_init_106 : decode cX9_init 106 = .ok (.dup, 1) := by decide +kernel
theorem dX9_init_107 : decode cX9_init 107 = .ok (.invokespecial 59, 3) := by decide +kernel
theorem dX9_init_110 : decode cX9_init 110 = .ok (.aastore, 1) := by decide +kernel
theorem dX9_init_111 : decode cX9_init 111 = .ok (.iinc 1 1, 3) := by decide +kernel
theorem dX9_init_114 : decode cX9_init 114 = .ok (.goto (-25), 3) := by decide +kernel
theorem dX9_init_117 : decode cX9_init 117 = .ok (.iconst 0, 1) := by decide +kernel
theorem dX9_init_118 : decode cX9_init 118 = .ok (.istore_n 1, 1) := by decide +kernel
theorem dX9_init_119 : decode cX9_init 119 = .ok (.iload_n 1, 1) := by decide +kernel
theorem dX9_init_120 : decode cX9_init 120 = .ok (.aload_n 0, 1) := by decide +kernel
theorem dX9_init_121 : decode cX9_init 121 = .ok (.getfield 55, 3) := by decide +kernel
theorem dX9_init_124 : decode cX9_init 124 = .ok (.arraylength, 1) := by decide +kernel
theorem dX9_init_125 : decode cX9_init 125 = .ok (.if_icmp .ge 22, 3) := by decide +kernel
theorem dX9_init_128 : decode cX9_init 128 = .ok (.aload_n 0, 1) := by decide +kernel
theorem dX9_init_129 : decode cX9_init 129 = .ok (.getfield 55, 3) := by decide +kernel
theorem dX9_init_132 : decode cX9_init 132 = .ok (.iload_n 1, 1) := by decide +kernel
theorem dX9_init_133 : decode cX9_init 133 = .ok (.new 53, 3) := by decide +kernel
theorem dX9_init_136 : decode cX9_init 136 = .ok (.dup, 1) := by decide +kernel
theorem dX9_init_137 : decode cX9_init 137 = .ok (.invokespecial 60, 3) := by decide +kernel
theorem dX9_init_140 : decode cX9_init 140 = .ok (.aastore, 1) := by decide +kernel
theorem dX9_init_141 : decode cX9_init 141 = .ok (.iinc 1 1, 3) := by decide +kernel
theorem dX9_init_144 : decode cX9_init 144 = .ok (.goto (-25), 3) := by decide +kernel
theorem dX9_init_147 : decode cX9_init 147 = .ok (.iconst 0, 1) := by decide +kernel
theorem dX9_init_148 : decode cX9_init 148 = .ok (.istore_n 1, 1) := by decide +kernel
theorem dX9_init_149 : decode cX9_init 149 = .ok (.iload_n 1, 1) := by decide +kernel
theorem dX9_init_150 : decode cX9_init 150 = .ok (.ldc 61, 2) := by decide +kernel
theorem dX9_init_152 : decode cX9_init 152 = .ok (.invokevirtual 63, 3) := by decide +kernel
theorem dX9_init_155 : decode cX9_init 155 = .ok (.if_icmp .ge 23, 3) := by decide +kernel
theorem dX9_init_158 : decode cX9_init 158 = .ok (.aload_n 0, 1) := by decide +kernel
theorem dX9_init_159 : decode cX9_init 159 = .ok (.getfield 28, 3) := by decide +kernel
theorem dX9_init_162 : decode cX9_init 162 = .ok (.ldc 61, 2) := by decide +kernel
theorem dX9_init_164 : decode cX9_init 164 = .ok (.iload_n 1, 1) := by decide +kernel
theorem dX9_init_165 : decode cX9_init 165 = .ok (.invokevirtual 69, 3) := by decide +kernel
theorem dX9_init_168 : decode cX9_init 168 = .ok (.invokevirtual 73, 3) := by decide +kernel
theorem dX9_init_171 : decode cX9_init 171 = .ok (.pop, 1) := by decide +kernel
theorem dX9_init_172 : decode cX9_init 172 = .ok (.iinc 1 1, 3) := by decide +kernel
theorem dX9_init_175 : decode cX9_init 175 = .ok (.goto (-26), 3) := by decide +kernel
theorem dX9_init_178 : decode cX9_init 178 = .ok (.aload_n 0, 1) := by decide +kernel
theorem dX9_init_179 : decode cX9_init 179 = .ok (.getfield 28, 3) := by decide +kernel
theorem dX9_init_182 : decode cX9_init 182 = .ok (.aload_n 0, 1) := by decide +kernel
theorem dX9_init_183 : decode cX9_init 183 = .ok (.getfield 21, 3) := by decide +kernel
theorem dX9_init_186 : decode cX9_init 186 = .ok (.iconst 0, 1) := by decide +kernel
theorem dX9_init_187 : decode cX9_init 187 = .ok (.aaload, 1) := by decide +kernel
theorem dX9_init_188 : decode cX9_init 188 = .ok (.invokevirtual 77, 3) := by decide +kernel
theorem dX9_init_191 : decode cX9_init 191 = .ok (.pop, 1) := by decide +kernel
theorem dX9_init_192 : decode cX9_init 192 = .ok (.aload_n 0, 1) := by decide +kernel
theorem dX9_init_193 : decode cX9_init 193 = .ok (.getfield 28, 3) := by decide +kernel
theorem dX9_init_196 : decode cX9_init 196 = .ok (.invokevirtual 81, 3) := by decide +kernel
theorem dX9_init_199 : decode cX9_init 199 = .ok (.aload_n 0, 1) := by decide +kernel
theorem dX9_init_200 : decode cX9_init 200 = .ok (.iconst 1, 1) := by decide +kernel
theorem dX9_init_201 : decode cX9_init 201 = .ok (.putfield 84, 3) := by decide +kernel
theorem dX9_init_204 : decode cX9_init 204 = .ok (.aload_n 0, 1) := by decide +kernel
theorem dX9_init_205 : decode cX9_init 205 = .ok (.new 88, 3) := by decide +kernel
theorem dX9_init_208 : decode cX9_init 208 = .ok (.dup, 1) := by decide +kernel
theorem dX9_init_209 : decode cX9_init 209 = .ok (.aload_n 0, 1) := by decide +kernel
theorem dX9_init_210 : decode cX9_init 210 = .ok (.getfield 12, 3) := by decide +kernel
theorem dX9_init_213 : decode cX9_init 213 = .ok (.aload_n 0, 1) := by decide +kernel
theorem dX9_init_214 : decode cX9_init 214 = .ok (.getfield 21, 3) := by decide +kernel
theorem dX9_init_217 : decode cX9_init 217 = .ok (.invokespecial 90, 3) := by decide +kernel
theorem dX9_init_220 : decode cX9_init 220 = .ok (.putfield 93, 3) := by decide +kernel
theorem dX9_init_223 : decode cX9_init 223 = .ok (.return_, 1) := by decide +kernel
theorem dX9_set_0 : decode cX9_set 0 = .ok (.iload_n 1, 1) := by decide +kernel
theorem dX9_set_1 : decode cX9_set 1 = .ok (.ifCond .ne 9, 3) := by decide +kernel
theorem dX9_set_4 : decode cX9_set 4 = .ok (.aload_n 0, 1) := by decide +kernel
theorem dX9_set_5 : decode cX9_set 5 = .ok (.iload_n 3, 1) := by decide +kernel
theorem dX9_set_6 : decode cX9_set 6 = .ok (.invokevirtual 97, 3) := by decide +kernel
theorem dX9_set_9 : decode cX9_set 9 = .ok (.ireturn, 1) := by decide +kernel
theorem dX9_set_10 : decode cX9_set 10 = .ok (.iload_n 1, 1) := by decide +kernel
theorem dX9_set_11 : decode cX9_set 11 = .ok (.iconst 3, 1) := by decide +kernel
theorem dX9_set_12 : decode cX9_set 12 = .ok (.if_icmp .gt 22, 3) := by decide +kernel
theorem dX9_set_15 : decode cX9_set 15 = .ok (.aload_n 0, 1) := by decide +kernel
theorem dX9_set_16 : decode cX9_set 16 = .ok (.getfield 12, 3) := by decide +kernel
theorem dX9_set_19 : decode cX9_set 19 = .ok (.iload_n 2, 1) := by decide +kernel
theorem dX9_set_20 : decode cX9_set 20 = .ok (.invokevirtual 100, 3) := by decide +kernel
theorem dX9_set_23 : decode cX9_set 23 = .ok (.ifCond .eq 11, 3) := by decide +kernel
theorem dX9_set_26 : decode cX9_set 26 = .ok (.iload_n 1, 1) := by decide +kernel
theorem dX9_set_27 : decode cX9_set 27 = .ok (.iload_n 3, 1) := by decide +kernel
theorem dX9_set_28 : decode cX9_set 28 = .ok (.invokestatic 104, 3) := by decide +kernel
theorem dX9_set_31 : decode cX9_set 31 = .ok (.ifCond .ne 6, 3) := by decide +kernel
theorem dX9_set_34 : decode cX9_set 34 = .ok (.bipush (-2), 2) := by decide +kernel
theorem dX9_set_36 : decode cX9_set 36 = .ok (.ireturn, 1) := by decide +kernel
theorem dX9_set_37 : decode cX9_set 37 = .ok (.aload_n 0, 1) := by decide +kernel
theorem dX9_set_38 : decode cX9_set 38 = .ok (.getfield 12, 3) := by decide +kernel
theorem dX9_set_41 : decode cX9_set 41 = .ok (.getfield 108, 3) := by decide +kernel
theorem dX9_set_44 : decode cX9_set 44 = .ok (.iload_n 2, 1) := by decide +kernel
theorem dX9_set_45 : decode cX9_set 45 = .ok (.aaload, 1) := by decide +kernel
theorem dX9_set_46 : decode cX9_set 46 = .ok (.astore 4, 2) := by decide +kernel
theorem dX9_set_48 : decode cX9_set 48 = .ok (.aload 4, 2) := by decide +kernel
theorem dX9_set_50 : decode cX9_set 50 = .ok (.iload_n 1, 1) := by decide +kernel
theorem dX9_set_51 : decode cX9_set 51 = .ok (.invokevirtual 112, 3) := by decide +kernel
theorem dX9_set_54 : decode cX9_set 54 = .ok (.istore 5, 2) := by decide +kernel
theorem dX9_set_56 : decode cX9_set 56 = .ok (.aload 4, 2) := by decide +kernel
theorem dX9_set_58 : decode cX9_set 58 = .ok (.iload_n 1, 1) := by decide +kernel
theorem dX9_set_59 : decode cX9_set 59 = .ok (.iload_n 3, 1) := by decide +kernel
theorem dX9_set_60 : decode cX9_set 60 = .ok (.invokevirtual 115, 3) := by decide +kernel
theorem dX9_set_63 : decode cX9_set 63 = .ok (.iload 5, 2) := by decide +kernel
theorem dX9_set_65 : decode cX9_set 65 = .ok (.ireturn, 1) := by decide +kernel
theorem dX9_setHolidays_0 : decode cX9_setHolidays 0 = .ok (.iload_n 1, 1) := by decide +kernel
theorem dX9_setHolidays_1 : decode cX9_setHolidays 1 = .ok (.iconst 0, 1) := by decide +kernel
theorem dX9_setHolidays_2 : decode cX9_setHolidays 2 = .ok (.bipush 127, 2) := by decide +kernel
theorem dX9_setHolidays_4 : decode cX9_setHolidays 4 = .ok (.invokestatic 119, 3) := by decide +kernel
theorem dX9_setHolidays_7 : decode cX9_setHolidays 7 = .ok (.ifCond .ne 6, 3) := by decide +kernel
theorem dX9_setHolidays_10 : decode cX9_setHolidays 10 = .ok (.bipush (-2), 2) := by decide +kernel
theorem dX9_setHolidays_12 : decode cX9_setHolidays 12 = .ok (.ireturn, 1) := by decide +kernel
theorem dX9_setHolidays_13 : decode cX9_setHolidays 13 = .ok (.aload_n 0, 1) := by decide +kernel
theorem dX9_setHolidays_14 : decode cX9_setHolidays 14 = .ok (.getfield 12, 3) := by decide +kernel
theorem dX9_setHolidays_17 : decode cX9_setHolidays 17 = .ok (.getfield 123, 3) := by decide +kernel
theorem dX9_setHolidays_20 : decode cX9_setHolidays 20 = .ok (.istore_n 2, 1) := by decide +kernel
theorem dX9_setHolidays_21 : decode cX9_setHolidays 21 = .ok (.aload_n 0, 1) := by decide +kernel
theorem dX9_setHolidays_22 : decode cX9_setHolidays 22 = .ok (.getfield 12, 3) := by decide +kernel
theorem dX9_setHolidays_25 : decode cX9_setHolidays 25 = .ok (.iload_n 1, 1) := by decide +kernel
theorem dX9_setHolidays_26 : decode cX9_setHolidays 26 = .ok (.putfield 123, 3) := by decide +kernel
theorem dX9_setHolidays_29 : decode cX9_setHolidays 29 = .ok (.iload_n 2, 1) := by decide +kernel
theorem dX9_setHolidays_30 : decode cX9_setHolidays 30 = .ok (.ireturn, 1) := by decide +kernel
theorem dX9_thing_0 : decode cX9_thing 0 = .ok (.iload_n 3, 1) := by decide +kernel
theorem dX9_thing_1 : decode cX9_thing 1 = .ok (.bipush 100, 2) := by decide +kernel
theorem dX9_thing_3 : decode cX9_thing 3 = .ok (.idiv, 1) := by decide +kernel
theorem dX9_thing_4 : decode cX9_thing 4 = .ok (.istore 4, 2) := by decide +kernel
theorem dX9_thing_6 : decode cX9_thing 6 = .ok (.iload_n 3, 1) := by decide +kernel
theorem dX9_thing_7 : decode cX9_thing 7 = .ok (.bipush 100, 2) := by decide +kernel
theorem dX9_thing_9 : decode cX9_thing 9 = .ok (.irem, 1) := by decide +kernel
theorem dX9_thing_10 : decode cX9_thing 10 = .ok (.istore 5, 2) := by decide +kernel
theorem dX9_thing_12 : decode cX9_thing 12 = .ok (.iconst 0, 1) := by decide +kernel
theorem dX9_thing_13 : decode cX9_thing 13 = .ok (.iload_n 1, 1) := by decide +kernel
theorem dX9_thing_14 : decode cX9_thing 14 = .ok (.invokestatic 104, 3) := by decide +kernel
theorem dX9_thing_17 : decode cX9_thing 17 = .ok (.ifCond .eq 29, 3) := by decide +kernel
theorem dX9_thing_20 : decode cX9_thing 20 = .ok (.iconst 1, 1) := by decide +kernel
theorem dX9_thing_21 : decode cX9_thing 21 = .ok (.iload_n 2, 1) := by decide +kernel
theorem dX9_thing_22 : decode cX9_thing 22 = .ok (.invokestatic 104, 3) := by decide +kernel
theorem dX9_thing_25 : decode cX9_thing 25 = .ok (.ifCond .eq 21, 3) := by decide +kernel
theorem dX9_thing_28 : decode cX9_thing 28 = .ok (.iconst 2, 1) := by decide +kernel
theorem dX9_thing_29 : decode cX9_thing 29 = .ok (.iload 4, 2) := by decide +kernel
theorem dX9_thing_31 : decode cX9_thing 31 = .ok (.invokestatic 104, 3) := by decide +kernel
theorem dX9_thing_34 : decode cX9_thing 34 = .ok (.ifCond .eq 12, 3) := by decide +kernel
theorem dX9_thing_37 : decode cX9_thing 37 = .ok (.iconst 3, 1) := by decide +kernel
theorem dX9_thing_38 : decode cX9_thing 38 = .ok (.iload 5, 2) := by decide +kernel
theorem dX9_thing_40 : decode cX9_thing 40 = .ok (.invokestatic 104, 3) := by decide +kernel
theorem dX9_thing_43 : decode cX9_thing 43 = .ok (.ifCond .ne 6, 3) := by decide +kernel
theorem dX9_thing_46 : decode cX9_thing 46 = .ok (.bipush (-2), 2) := by decide +kernel
theorem dX9_thing_48 : decode cX9_thing 48 = .ok (.ireturn, 1) := by decide +kernel
theorem dX9_thing_49 : decode cX9_thing 49 = .ok (.aload_n 0, 1) := by decide +kernel
theorem dX9_thing_50 : decode cX9_thing 50 = .ok (.getfield 12, 3) := by decide +kernel
theorem dX9_thing_53 : decode cX9_thing 53 = .ok (.iload_n 1, 1) := by decide +kernel
theorem dX9_thing_54 : decode cX9_thing 54 = .ok (.iload_n 2, 1) := by decide +kernel
theorem dX9_thing_55 : decode cX9_thing 55 = .ok (.iload 4, 2) := by decide +kernel
theorem dX9_thing_57 : decode cX9_thing 57 = .ok (.iload 5, 2) := by decide +kernel
theorem dX9_thing_59 : decode cX9_thing 59 = .ok (.invokevirtual 126, 3) := by decide +kernel
theorem dX9_thing_62 : decode cX9_thing 62 = .ok (.ireturn, 1) := by decide +kernel
theorem dX9_told_0 : decode cX9_told 0 = .ok (.aload_n 0, 1) := by decide +kernel
theorem dX9_told_1 : decode cX9_told 1 = .ok (.getfield 12, 3) := by decide +kernel
theorem dX9_told_4 : decode cX9_told 4 = .ok (.iload_n 1, 1) := by decide +kernel
theorem dX9_told_5 : decode cX9_told 5 = .ok (.invokevirtual 100, 3) := by decide +kernel
theorem dX9_told_8 : decode cX9_told 8 = .ok (.ifCond .eq 28, 3) := by decide +kernel
theorem dX9_told_11 : decode cX9_told 11 = .ok (.iload_n 2, 1) := by decide +kernel
theorem dX9_told_12 : decode cX9_told 12 = .ok (.iconst 0, 1) := by decide +kernel
theorem dX9_told_13 : decode cX9_told 13 = .ok (.iconst 3, 1) := by decide +kernel
theorem dX9_told_14 : decode cX9_told 14 = .ok (.invokestatic 119, 3) := by decide +kernel
theorem dX9_told_17 : decode cX9_told 17 = .ok (.ifCond .eq 19, 3) := by decide +kernel
theorem dX9_told_20 : decode cX9_told 20 = .ok (.aload_n 0, 1) := by decide +kernel
theorem dX9_told_21 : decode cX9_told 21 = .ok (.getfield 12, 3) := by decide +kernel
theorem dX9_told_24 : decode cX9_told 24 = .ok (.getfield 108, 3) := by decide +kernel
theorem dX9_told_27 : decode cX9_told 27 = .ok (.iload_n 1, 1) := by decide +kernel
theorem dX9_told_28 : decode cX9_told 28 = .ok (.aaload, 1) := by decide +kernel
theorem dX9_told_29 : decode cX9_told 29 = .ok (.iload_n 2, 1) := by decide +kernel
theorem dX9_told_30 : decode cX9_told 30 = .ok (.invokevirtual 112, 3) := by decide +kernel
theorem dX9_told_33 : decode cX9_told 33 = .ok (.goto 5, 3) := by decide +kernel
theorem dX9_told_36 : decode cX9_told 36 = .ok (.bipush (-2), 2) := by decide +kernel
theorem dX9_told_38 : decode cX9_told 38 = .ok (.ireturn, 1) := by decide +kernel
theorem dX9_feed_0 : decode cX9_feed 0 = .ok (.iload_n 1, 1) := by decide +kernel
theorem dX9_feed_1 : decode cX9_feed 1 = .ok (.iconst 0, 1) := by decide +kernel
theorem dX9_feed_2 : decode cX9_feed 2 = .ok (.sipush 255, 3) := by decide +kernel
theorem dX9_feed_5 : decode cX9_feed 5 = .ok (.invokestatic 119, 3) := by decide +kernel
theorem dX9_feed_8 : decode cX9_feed 8 = .ok (.ifCond .ne 6, 3) := by decide +kernel
theorem dX9_feed_11 : decode cX9_feed 11 = .ok (.bipush (-2), 2) := by decide +kernel
theorem dX9_feed_13 : decode cX9_feed 13 = .ok (.ireturn, 1) := by decide +kernel
theorem dX9_feed_14 : decode cX9_feed 14 = .ok (.aload_n 0, 1) := by decide +kernel
theorem dX9_feed_15 : decode cX9_feed 15 = .ok (.getfield 28, 3) := by decide +kernel
theorem dX9_feed_18 : decode cX9_feed 18 = .ok (.iload_n 1, 1) := by decide +kernel
theorem dX9_feed_19 : decode cX9_feed 19 = .ok (.invokevirtual 73, 3) := by decide +kernel
theorem dX9_feed_22 : decode cX9_feed 22 = .ok (.ireturn, 1) := by decide +kernel
theorem dX9_text_0 : decode cX9_text 0 = .ok (.aload_n 0, 1) := by decide +kernel
theorem dX9_text_1 : decode cX9_text 1 = .ok (.getfield 84, 3) := by decide +kernel
theorem dX9_text_4 : decode cX9_text 4 = .ok (.ifCond .lt 15, 3) := by decide +kernel
theorem dX9_text_7 : decode cX9_text 7 = .ok (.aload_n 0, 1) := by decide +kernel
theorem dX9_text_8 : decode cX9_text 8 = .ok (.getfield 84, 3) := by decide +kernel
theorem dX9_text_11 : decode cX9_text 11 = .ok (.aload_n 0, 1) := by decide +kernel
theorem dX9_text_12 : decode cX9_text 12 = .ok (.getfield 21, 3) := by decide +kernel
theorem dX9_text_15 : decode cX9_text 15 = .ok (.arraylength, 1) := by decide +kernel
theorem dX9_text_16 : decode cX9_text 16 = .ok (.if_icmp .lt 6, 3) := by decide +kernel
theorem dX9_text_19 : decode cX9_text 19 = .ok (.bipush (-4), 2) := by decide +kernel
theorem dX9_text_21 : decode cX9_text 21 = .ok (.ireturn, 1) := by decide +kernel
theorem dX9_text_22 : decode cX9_text 22 = .ok (.aload_n 0, 1) := by decide +kernel
theorem dX9_text_23 : decode cX9_text 23 = .ok (.getfield 28, 3) := by decide +kernel
theorem dX9_text_26 : decode cX9_text 26 = .ok (.aload_n 0, 1) := by decide +kernel
theorem dX9_text_27 : decode cX9_text 27 = .ok (.getfield 21, 3) := by decide +kernel
theorem dX9_text_30 : decode cX9_text 30 = .ok (.aload_n 0, 1) := by decide +kernel
theorem dX9_text_31 : decode cX9_text 31 = .ok (.getfield 84, 3) := by decide +kernel
theorem dX9_text_34 : decode cX9_text 34 = .ok (.aaload, 1) := by decide +kernel
theorem dX9_text_35 : decode cX9_text 35 = .ok (.invokevirtual 77, 3) := by decide +kernel
theorem dX9_text_38 : decode cX9_text 38 = .ok (.istore_n 1, 1) := by decide +kernel
theorem dX9_text_39 : decode cX9_text 39 = .ok (.aload_n 0, 1) := by decide +kernel
theorem dX9_text_40 : decode cX9_text 40 = .ok (.getfield 28, 3) := by decide +kernel
theorem dX9_text_43 : decode cX9_text 43 = .ok (.invokevirtual 81, 3) := by decide +kernel
theorem dX9_text_46 : decode cX9_text 46 = .ok (.iload_n 1, 1) := by decide +kernel
theorem dX9_text_47 : decode cX9_text 47 = .ok (.iconst (-1), 1) := by decide +kernel
theorem dX9_text_48 : decode cX9_text 48 = .ok (.if_icmp .eq 8, 3) := by decide +kernel
theorem dX9_text_51 : decode cX9_text 51 = .ok (.bipush (-100), 2) := by decide +kernel
theorem dX9_text_53 : decode cX9_text 53 = .ok (.iload_n 1, 1) := by decide +kernel
theorem dX9_text_54 : decode cX9_text 54 = .ok (.isub, 1) := by decide +kernel
theorem dX9_text_55 : decode cX9_text 55 = .ok (.ireturn, 1) := by decide +kernel
theorem dX9_text_56 : decode cX9_text 56 = .ok (.aload_n 0, 1) := by decide +kernel
theorem dX9_text_57 : decode cX9_text 57 = .ok (.dup, 1) := by decide +kernel
theorem dX9_text_58 : decode cX9_text 58 = .ok (.getfield 84, 3) := by decide +kernel
theorem dX9_text_61 : decode cX9_text 61 = .ok (.iconst 1, 1) := by decide +kernel
theorem dX9_text_62 : decode cX9_text 62 = .ok (.iadd, 1) := by decide +kernel
theorem dX9_text_63 : decode cX9_text 63 = .ok (.putfield 84, 3) := by decide +kernel
theorem dX9_text_66 : decode cX9_text 66 = .ok (.aload_n 0, 1) := by decide +kernel
theorem dX9_text_67 : decode cX9_text 67 = .ok (.getfield 84, 3) := by decide +kernel
theorem dX9_text_70 : decode cX9_text 70 = .ok (.iconst 1, 1) := by decide +kernel
theorem dX9_text_71 : decode cX9_text 71 = .ok (.isub, 1) := by decide +kernel
theorem dX9_text_72 : decode cX9_text 72 = .ok (.ireturn, 1) := by decide +kernel
theorem dX9_force_0 : decode cX9_force 0 = .ok (.iload_n 1, 1) := by decide +kernel
theorem dX9_force_1 : decode cX9_force 1 = .ok (.iconst 0, 1) := by decide +kernel
theorem dX9_force_2 : decode cX9_force 2 = .ok (.aload_n 0, 1) := by decide +kernel
theorem dX9_force_3 : decode cX9_force 3 = .ok (.getfield 84, 3) := by decide +kernel
theorem dX9_force_6 : decode cX9_force 6 = .ok (.iconst 1, 1) := by decide +kernel
theorem dX9_force_7 : decode cX9_force 7 = .ok (.isub, 1) := by decide +kernel
theorem dX9_force_8 : decode cX9_force 8 = .ok (.invokestatic 119, 3) := by decide +kernel
theorem dX9_force_11 : decode cX9_force 11 = .ok (.ifCond .ne 6, 3) := by decide +kernel
theorem dX9_force_14 : decode cX9_force 14 = .ok (.bipush (-2), 2) := by decide +kernel
theorem dX9_force_16 : decode cX9_force 16 = .ok (.ireturn, 1) := by decide +kernel
theorem dX9_force_17 : decode cX9_force 17 = .ok (.aload_n 0, 1) := by decide +kernel
theorem dX9_force_18 : decode cX9_force 18 = .ok (.getfield 12, 3) := by decide +kernel
theorem dX9_force_21 : decode cX9_force 21 = .ok (.getfield 129, 3) := by decide +kernel
theorem dX9_force_24 : decode cX9_force 24 = .ok (.istore_n 2, 1) := by decide +kernel
theorem dX9_force_25 : decode cX9_force 25 = .ok (.aload_n 0, 1) := by decide +kernel
theorem dX9_force_26 : decode cX9_force 26 = .ok (.getfield 12, 3) := by decide +kernel
theorem dX9_force_29 : decode cX9_force 29 = .ok (.iload_n 1, 1) := by decide +kernel
theorem dX9_force_30 : decode cX9_force 30 = .ok (.putfield 129, 3) := by decide +kernel
theorem dX9_force_33 : decode cX9_force 33 = .ok (.iload_n 2, 1) := by decide +kernel
theorem dX9_force_34 : decode cX9_force 34 = .ok (.ireturn, 1) := by decide +kernel
theorem dX9_day_0 : decode cX9_day 0 = .ok (.iload_n 1, 1) := by decide +kernel
theorem dX9_day_1 : decode cX9_day 1 = .ok (.invokestatic 132, 3) := by decide +kernel
theorem dX9_day_4 : decode cX9_day 4 = .ok (.ifCond .eq 12, 3) := by decide +kernel
theorem dX9_day_7 : decode cX9_day 7 = .ok (.iload_n 2, 1) := by decide +kernel
theorem dX9_day_8 : decode cX9_day 8 = .ok (.iconst 0, 1) := by decide +kernel
theorem dX9_day_9 : decode cX9_day 9 = .ok (.iconst 2, 1) := by decide +kernel
theorem dX9_day_10 : decode cX9_day 10 = .ok (.invokestatic 119, 3) := by decide +kernel
theorem dX9_day_13 : decode cX9_day 13 = .ok (.ifCond .ne 6, 3) := by decide +kernel
theorem dX9_day_16 : decode cX9_day 16 = .ok (.bipush (-2), 2) := by decide +kernel
theorem dX9_day_18 : decode cX9_day 18 = .ok (.ireturn, 1) := by decide +kernel
theorem dX9_day_19 : decode cX9_day 19 = .ok (.iload_n 2, 1) := by decide +kernel
theorem dX9_day_20 : decode cX9_day 20 = .ok (.lookupswitch 67 #[(0, 28), (1, 44)], 28) := by decide +kernel
theorem dX9_day_48 : decode cX9_day 48 = .ok (.aload_n 0, 1) := by decide +kernel
theorem dX9_day_49 : decode cX9_day 49 = .ok (.getfield 12, 3) := by decide +kernel
theorem dX9_day_52 : decode cX9_day 52 = .ok (.iload_n 1, 1) := by decide +kernel
theorem dX9_day_53 : decode cX9_day 53 = .ok (.aload_n 0, 1) := by decide +kernel
theorem dX9_day_54 : decode cX9_day 54 = .ok (.getfield 12, 3) := by decide +kernel
theorem dX9_day_57 : decode cX9_day 57 = .ok (.getfield 123, 3) := by decide +kernel
theorem dX9_day_60 : decode cX9_day 60 = .ok (.invokevirtual 135, 3) := by decide +kernel
theorem dX9_day_63 : decode cX9_day 63 = .ok (.ireturn, 1) := by decide +kernel
theorem dX9_day_64 : decode cX9_day 64 = .ok (.aload_n 0, 1) := by decide +kernel
theorem dX9_day_65 : decode cX9_day 65 = .ok (.getfield 93, 3) := by decide +kernel
theorem dX9_day_68 : decode cX9_day 68 = .ok (.aload_n 0, 1) := by decide +kernel
theorem dX9_day_69 : decode cX9_day 69 = .ok (.getfield 12, 3) := by decide +kernel
theorem dX9_day_72 : decode cX9_day 72 = .ok (.getfield 123, 3) := by decide +kernel
theorem dX9_day_75 : decode cX9_day 75 = .ok (.invokevirtual 139, 3) := by decide +kernel
theorem dX9_day_78 : decode cX9_day 78 = .ok (.aload_n 0, 1) := by decide +kernel
theorem dX9_day_79 : decode cX9_day 79 = .ok (.getfield 93, 3) := by decide +kernel
theorem dX9_day_82 : decode cX9_day 82 = .ok (.iload_n 1, 1) := by decide +kernel
theorem dX9_day_83 : decode cX9_day 83 = .ok (.invokevirtual 143, 3) := by decide +kernel
theorem dX9_day_86 : decode cX9_day 86 = .ok (.ireturn, 1) := by decide +kernel
theorem dX9_day_87 : decode cX9_day 87 = .ok (.iload_n 1, 1) := by decide +kernel
theorem dX9_day_88 : decode cX9_day 88 = .ok (.aload_n 0, 1) := by decide +kernel
theorem dX9_day_89 : decode cX9_day 89 = .ok (.getfield 12, 3) := by decide +kernel
theorem dX9_day_92 : decode cX9_day 92 = .ok (.getfield 123, 3) := by decide +kernel
theorem dX9_day_95 : decode cX9_day 95 = .ok (.invokestatic 146, 3) := by decide +kernel
theorem dX9_day_98 : decode cX9_day 98 = .ok (.ifCond .eq 7, 3) := by decide +kernel
theorem dX9_day_101 : decode cX9_day 101 = .ok (.iconst 1, 1) := by decide +kernel
theorem dX9_day_102 : decode cX9_day 102 = .ok (.goto 4, 3) := by decide +kernel
theorem dX9_day_105 : decode cX9_day 105 = .ok (.iconst 0, 1) := by decide +kernel
theorem dX9_day_106 : decode cX9_day 106 = .ok (.ireturn, 1) := by decide +kernel
theorem dX9_when_0 : decode cX9_when 0 = .ok (.aload_n 0, 1) := by decide +kernel
theorem dX9_when_1 : decode cX9_when 1 = .ok (.getfield 12, 3) := by decide +kernel
theorem dX9_when_4 : decode cX9_when 4 = .ok (.iload_n 1, 1) := by decide +kernel
theorem dX9_when_5 : decode cX9_when 5 = .ok (.invokevirtual 100, 3) := by decide +kernel
theorem dX9_when_8 : decode cX9_when 8 = .ok (.ifCond .eq 10, 3) := by decide +kernel
theorem dX9_when_11 : decode cX9_when 11 = .ok (.iload_n 2, 1) := by decide +kernel
theorem dX9_when_12 : decode cX9_when 12 = .ok (.invokestatic 132, 3) := by decide +kernel
theorem dX9_when_15 : decode cX9_when 15 = .ok (.ifCond .ne 6, 3) := by decide +kernel
theorem dX9_when_18 : decode cX9_when 18 = .ok (.bipush (-2), 2) := by decide +kernel
theorem dX9_when_20 : decode cX9_when 20 = .ok (.ireturn, 1) := by decide +kernel
theorem dX9_when_21 : decode cX9_when 21 = .ok (.aload_n 0, 1) := by decide +kernel
theorem dX9_when_22 : decode cX9_when 22 = .ok (.aload_n 0, 1) := by decide +kernel
theorem dX9_when_23 : decode cX9_when 23 = .ok (.getfield 12, 3) := by decide +kernel
theorem dX9_when_26 : decode cX9_when 26 = .ok (.getfield 108, 3) := by decide +kernel
theorem dX9_when_29 : decode cX9_when 29 = .ok (.iload_n 1, 1) := by decide +kernel
theorem dX9_when_30 : decode cX9_when 30 = .ok (.aaload, 1) := by decide +kernel
theorem dX9_when_31 : decode cX9_when 31 = .ok (.iload_n 2, 1) := by decide +kernel
theorem dX9_when_32 : decode cX9_when 32 = .ok (.invokevirtual 149, 3) := by decide +kernel
theorem dX9_when_35 : decode cX9_when 35 = .ok (.ireturn, 1) := by decide +kernel
theorem dX9_nextComing_0 : decode cX9_nextComing 0 = .ok (.iload_n 2, 1) := by decide +kernel
theorem dX9_nextComing_1 : decode cX9_nextComing 1 = .ok (.istore_n 3, 1) := by decide +kernel
theorem dX9_nextComing_2 : decode cX9_nextComing 2 = .ok (.iload_n 3, 1) := by decide +kernel
theorem dX9_nextComing_3 : decode cX9_nextComing 3 = .ok (.sipush 400, 3) := by decide +kernel
theorem dX9_nextComing_6 : decode cX9_nextComing 6 = .ok (.if_icmp .ge 26, 3) := by decide +kernel
theorem dX9_nextComing_9 : decode cX9_nextComing 9 = .ok (.aload_n 1, 1) := by decide +kernel
theorem dX9_nextComing_10 : decode cX9_nextComing 10 = .ok (.iload_n 3, 1) := by decide +kernel
theorem dX9_nextComing_11 : decode cX9_nextComing 11 = .ok (.aload_n 0, 1) := by decide +kernel
theorem dX9_nextComing_12 : decode cX9_nextComing 12 = .ok (.getfield 12, 3) := by decide +kernel
theorem dX9_nextComing_15 : decode cX9_nextComing 15 = .ok (.getfield 123, 3) := by decide +kernel
theorem dX9_nextComing_18 : decode cX9_nextComing 18 = .ok (.invokevirtual 153, 3) := by decide +kernel
theorem dX9_nextComing_21 : decode cX9_nextComing 21 = .ok (.ifCond .eq 5, 3) := by decide +kernel
theorem dX9_nextComing_24 : decode cX9_nextComing 24 = .ok (.iload_n 3, 1) := by decide +kernel
theorem dX9_nextComing_25 : decode cX9_nextComing 25 = .ok (.ireturn, 1) := by decide +kernel
theorem dX9_nextComing_26 : decode cX9_nextComing 26 = .ok (.iinc 3 1, 3) := by decide +kernel
theorem dX9_nextComing_29 : decode cX9_nextComing 29 = .ok (.goto (-27), 3) := by decide +kernel
theorem dX9_nextComing_32 : decode cX9_nextComing 32 = .ok (.iconst (-1), 1) := by decide +kernel
theorem dX9_nextComing_33 : decode cX9_nextComing 33 = .ok (.ireturn, 1) := by decide +kernel
theorem dX9_often_0 : decode cX9_often 0 = .ok (.aload_n 0, 1) := by decide +kernel
theorem dX9_often_1 : decode cX9_often 1 = .ok (.getfield 12, 3) := by decide +kernel
theorem dX9_often_4 : decode cX9_often 4 = .ok (.iload_n 1, 1) := by decide +kernel
theorem dX9_often_5 : decode cX9_often 5 = .ok (.invokevirtual 100, 3) := by decide +kernel
theorem dX9_often_8 : decode cX9_often 8 = .ok (.ifCond .eq 14, 3) := by decide +kernel
theorem dX9_often_11 : decode cX9_often 11 = .ok (.iload_n 2, 1) := by decide +kernel
theorem dX9_often_12 : decode cX9_often 12 = .ok (.iconst 0, 1) := by decide +kernel
theorem dX9_often_13 : decode cX9_often 13 = .ok (.sipush 400, 3) := by decide +kernel
theorem dX9_often_16 : decode cX9_often 16 = .ok (.invokestatic 119, 3) := by decide +kernel
theorem dX9_often_19 : decode cX9_often 19 = .ok (.ifCond .ne 6, 3) := by decide +kernel
theorem dX9_often_22 : decode cX9_often 22 = .ok (.bipush (-2), 2) := by decide +kernel
theorem dX9_often_24 : decode cX9_often 24 = .ok (.ireturn, 1) := by decide +kernel
theorem dX9_often_25 : decode cX9_often 25 = .ok (.iconst 0, 1) := by decide +kernel
theorem dX9_often_26 : decode cX9_often 26 = .ok (.istore_n 3, 1) := by decide +kernel
theorem dX9_often_27 : decode cX9_often 27 = .ok (.iconst 0, 1) := by decide +kernel
theorem dX9_often_28 : decode cX9_often 28 = .ok (.istore 4, 2) := by decide +kernel
theorem dX9_often_30 : decode cX9_often 30 = .ok (.iload 4, 2) := by decide +kernel
theorem dX9_often_32 : decode cX9_often 32 = .ok (.iload_n 2, 1) := by decide +kernel
theorem dX9_often_33 : decode cX9_often 33 = .ok (.if_icmp .ge 36, 3) := by decide +kernel
theorem dX9_often_36 : decode cX9_often 36 = .ok (.aload_n 0, 1) := by decide +kernel
theorem dX9_often_37 : decode cX9_often 37 = .ok (.getfield 12, 3) := by decide +kernel
theorem dX9_often_40 : decode cX9_often 40 = .ok (.getfield 108, 3) := by decide +kernel
theorem dX9_often_43 : decode cX9_often 43 = .ok (.iload_n 1, 1) := by decide +kernel
theorem dX9_often_44 : decode cX9_often 44 = .ok (.aaload, 1) := by decide +kernel
theorem dX9_often_45 : decode cX9_often 45 = .ok (.iload 4, 2) := by decide +kernel
theorem dX9_often_47 : decode cX9_often 47 = .ok (.aload_n 0, 1) := by decide +kernel
theorem dX9_often_48 : decode cX9_often 48 = .ok (.getfield 12, 3) := by decide +kernel
theorem dX9_often_51 : decode cX9_often 51 = .ok (.getfield 123, 3) := by decide +kernel
theorem dX9_often_54 : decode cX9_often 54 = .ok (.invokevirtual 153, 3) := by decide +kernel
theorem dX9_often_57 : decode cX9_often 57 = .ok (.ifCond .eq 6, 3) := by decide +kernel
theorem dX9_often_60 : decode cX9_often 60 = .ok (.iinc 3 1, 3) := by decide +kernel
theorem dX9_often_63 : decode cX9_often 63 = .ok (.iinc 4 1, 3) := by decide +kernel
theorem dX9_often_66 : decode cX9_often 66 = .ok (.goto (-36), 3) := by decide +kernel
theorem dX9_often_69 : decode cX9_often 69 = .ok (.iload_n 3, 1) := by decide +kernel
theorem dX9_often_70 : decode cX9_often 70 = .ok (.ireturn, 1) := by decide +kernel
theorem dX9_year_0 : decode cX9_year 0 = .ok (.iload_n 1, 1) := by decide +kernel
theorem dX9_year_1 : decode cX9_year 1 = .ok (.iconst 0, 1) := by decide +kernel
theorem dX9_year_2 : decode cX9_year 2 = .ok (.bipush 8, 2) := by decide +kernel
theorem dX9_year_4 : decode cX9_year 4 = .ok (.invokestatic 119, 3) := by decide +kernel
theorem dX9_year_7 : decode cX9_year 7 = .ok (.ifCond .ne 6, 3) := by decide +kernel
theorem dX9_year_10 : decode cX9_year 10 = .ok (.bipush (-2), 2) := by decide +kernel
theorem dX9_year_12 : decode cX9_year 12 = .ok (.ireturn, 1) := by decide +kernel
theorem dX9_year_13 : decode cX9_year 13 = .ok (.aload_n 0, 1) := by decide +kernel
theorem dX9_year_14 : decode cX9_year 14 = .ok (.getfield 93, 3) := by decide +kernel
theorem dX9_year_17 : decode cX9_year 17 = .ok (.aload_n 0, 1) := by decide +kernel
theorem dX9_year_18 : decode cX9_year 18 = .ok (.getfield 12, 3) := by decide +kernel
theorem dX9_year_21 : decode cX9_year 21 = .ok (.getfield 123, 3) := by decide +kernel
theorem dX9_year_24 : decode cX9_year 24 = .ok (.invokevirtual 139, 3) := by decide +kernel
theorem dX9_year_27 : decode cX9_year 27 = .ok (.iload_n 1, 1) := by decide +kernel
theorem dX9_year_28 : decode cX9_year 28 = .ok (.tableswitch 128 0 7 #[48, 56, 65, 74, 89, 97, 105, 120], 48) := by decide +kernel
theorem dX9_year_76 : decode cX9_year 76 = .ok (.aload_n 0, 1) := by decide +kernel
theorem dX9_year_77 : decode cX9_year 77 = .ok (.getfield 93, 3) := by decide +kernel
theorem dX9_year_80 : decode cX9_year 80 = .ok (.invokevirtual 156, 3) := by decide +kernel
theorem dX9_year_83 : decode cX9_year 83 = .ok (.ireturn, 1) := by decide +kernel
theorem dX9_year_84 : decode cX9_year 84 = .ok (.aload_n 0, 1) := by decide +kernel
theorem dX9_year_85 : decode cX9_year 85 = .ok (.getfield 93, 3) := by decide +kernel
theorem dX9_year_88 : decode cX9_year 88 = .ok (.iconst 1, 1) := by decide +kernel
theorem dX9_year_89 : decode cX9_year 89 = .ok (.invokevirtual 159, 3) := by decide +kernel
theorem dX9_year_92 : decode cX9_year 92 = .ok (.ireturn, 1) := by decide +kernel
theorem dX9_year_93 : decode cX9_year 93 = .ok (.aload_n 0, 1) := by decide +kernel
theorem dX9_year_94 : decode cX9_year 94 = .ok (.getfield 93, 3) := by decide +kernel
theorem dX9_year_97 : decode cX9_year 97 = .ok (.iconst 2, 1) := by decide +kernel
theorem dX9_year_98 : decode cX9_year 98 = .ok (.invokevirtual 159, 3) := by decide +kernel
theorem dX9_year_101 : decode cX9_year 101 = .ok (.ireturn, 1) := by decide +kernel
theorem dX9_year_102 : decode cX9_year 102 = .ok (.aload_n 0, 1) := by decide +kernel
theorem dX9_year_103 : decode cX9_year 103 = .ok (.getfield 93, 3) := by decide +kernel
theorem dX9_year_106 : decode cX9_year 106 = .ok (.aload_n 0, 1) := by decide +kernel
theorem dX9_year_107 : decode cX9_year 107 = .ok (.getfield 93, 3) := by decide +kernel
theorem dX9_year_110 : decode cX9_year 110 = .ok (.invokevirtual 162, 3) := by decide +kernel
theorem dX9_year_113 : decode cX9_year 113 = .ok (.invokevirtual 165, 3) := by decide +kernel
theorem dX9_year_116 : decode cX9_year 116 = .ok (.ireturn, 1) := by decide +kernel
theorem dX9_year_117 : decode cX9_year 117 = .ok (.aload_n 0, 1) := by decide +kernel
theorem dX9_year_118 : decode cX9_year 118 = .ok (.getfield 93, 3) := by decide +kernel
theorem dX9_year_121 : decode cX9_year 121 = .ok (.invokevirtual 162, 3) := by decide +kernel
theorem dX9_year_124 : decode cX9_year 124 = .ok (.ireturn, 1) := by decide +kernel
theorem dX9_year_125 : decode cX9_year 125 = .ok (.aload_n 0, 1) := by decide +kernel
theorem dX9_year_126 : decode cX9_year 126 = .ok (.getfield 93, 3) := by decide +kernel
theorem dX9_year_129 : decode cX9_year 129 = .ok (.invokevirtual 168, 3) := by decide +kernel
theorem dX9_year_132 : decode cX9_year 132 = .ok (.ireturn, 1) := by decide +kernel
theorem dX9_year_133 : decode cX9_year 133 = .ok (.aload_n 0, 1) := by decide +kernel
theorem dX9_year_134 : decode cX9_year 134 = .ok (.getfield 93, 3) := by decide +kernel
theorem dX9_year_137 : decode cX9_year 137 = .ok (.aload_n 0, 1) := by decide +kernel
theorem dX9_year_138 : decode cX9_year 138 = .ok (.getfield 93, 3) := by decide +kernel
theorem dX9_year_141 : decode cX9_year 141 = .ok (.invokevirtual 168, 3) := by decide +kernel
theorem dX9_year_144 : decode cX9_year 144 = .ok (.invokevirtual 171, 3) := by decide +kernel
theorem dX9_year_147 : decode cX9_year 147 = .ok (.ireturn, 1) := by decide +kernel
theorem dX9_year_148 : decode cX9_year 148 = .ok (.aload_n 0, 1) := by decide +kernel
theorem dX9_year_149 : decode cX9_year 149 = .ok (.getfield 93, 3) := by decide +kernel
theorem dX9_year_152 : decode cX9_year 152 = .ok (.invokevirtual 174, 3) := by decide +kernel
theorem dX9_year_155 : decode cX9_year 155 = .ok (.ireturn, 1) := by decide +kernel
theorem dX9_year_156 : decode cX9_year 156 = .ok (.aload_n 0, 1) := by decide +kernel
theorem dX9_year_157 : decode cX9_year 157 = .ok (.getfield 93, 3) := by decide +kernel
theorem dX9_year_160 : decode cX9_year 160 = .ok (.aload_n 0, 1) := by decide +kernel
theorem dX9_year_161 : decode cX9_year 161 = .ok (.getfield 93, 3) := by decide +kernel
theorem dX9_year_164 : decode cX9_year 164 = .ok (.invokevirtual 174, 3) := by decide +kernel
theorem dX9_year_167 : decode cX9_year 167 = .ok (.invokevirtual 143, 3) := by decide +kernel
theorem dX9_year_170 : decode cX9_year 170 = .ok (.ireturn, 1) := by decide +kernel
theorem dX9_meet_0 : decode cX9_meet 0 = .ok (.aload_n 0, 1) := by decide +kernel
theorem dX9_meet_1 : decode cX9_meet 1 = .ok (.iload_n 1, 1) := by decide +kernel
theorem dX9_meet_2 : decode cX9_meet 2 = .ok (.invokevirtual 177, 3) := by decide +kernel
theorem dX9_meet_5 : decode cX9_meet 5 = .ok (.ifCond .eq 13, 3) := by decide +kernel
theorem dX9_meet_8 : decode cX9_meet 8 = .ok (.aload_n 0, 1) := by decide +kernel
theorem dX9_meet_9 : decode cX9_meet 9 = .ok (.getfield 35, 3) := by decide +kernel
theorem dX9_meet_12 : decode cX9_meet 12 = .ok (.getfield 180, 3) := by decide +kernel
theorem dX9_meet_15 : decode cX9_meet 15 = .ok (.goto 6, 3) := by decide +kernel
theorem dX9_meet_18 : decode cX9_meet 18 = .ok (.ldc2_w 184, 3) := by decide +kernel
theorem dX9_meet_21 : decode cX9_meet 21 = .ok (.lreturn, 1) := by decide +kernel
theorem dX9_every_0 : decode cX9_every 0 = .ok (.aload_n 0, 1) := by decide +kernel
theorem dX9_every_1 : decode cX9_every 1 = .ok (.iload_n 1, 1) := by decide +kernel
theorem dX9_every_2 : decode cX9_every 2 = .ok (.invokevirtual 177, 3) := by decide +kernel
theorem dX9_every_5 : decode cX9_every 5 = .ok (.ifCond .eq 13, 3) := by decide +kernel
theorem dX9_every_8 : decode cX9_every 8 = .ok (.aload_n 0, 1) := by decide +kernel
theorem dX9_every_9 : decode cX9_every 9 = .ok (.getfield 35, 3) := by decide +kernel
theorem dX9_every_12 : decode cX9_every 12 = .ok (.getfield 186, 3) := by decide +kernel
theorem dX9_every_15 : decode cX9_every 15 = .ok (.goto 6, 3) := by decide +kernel
theorem dX9_every_18 : decode cX9_every 18 = .ok (.ldc2_w 184, 3) := by decide +kernel
theorem dX9_every_21 : decode cX9_every 21 = .ok (.lreturn, 1) := by decide +kernel
theorem dX9_findMeeting_0 : decode cX9_findMeeting 0 = .ok (.aload_n 0, 1) := by decide +kernel
theorem dX9_findMeeting_1 : decode cX9_findMeeting 1 = .ok (.getfield 12, 3) := by decide +kernel
theorem dX9_findMeeting_4 : decode cX9_findMeeting 4 = .ok (.iload_n 1, 1) := by decide +kernel
theorem dX9_findMeeting_5 : decode cX9_findMeeting 5 = .ok (.invokevirtual 189, 3) := by decide +kernel
theorem dX9_findMeeting_8 : decode cX9_findMeeting 8 = .ok (.ifCond .ne 5, 3) := by decide +kernel
theorem dX9_findMeeting_11 : decode cX9_findMeeting 11 = .ok (.iconst 0, 1) := by decide +kernel
theorem dX9_findMeeting_12 : decode cX9_findMeeting 12 = .ok (.ireturn, 1) := by decide +kernel
theorem dX9_findMeeting_13 : decode cX9_findMeeting 13 = .ok (.aload_n 0, 1) := by decide +kernel
theorem dX9_findMeeting_14 : decode cX9_findMeeting 14 = .ok (.getfield 35, 3) := by decide +kernel
theorem dX9_findMeeting_17 : decode cX9_findMeeting 17 = .ok (.invokevirtual 192, 3) := by decide +kernel
theorem dX9_findMeeting_20 : decode cX9_findMeeting 20 = .ok (.iconst 0, 1) := by decide +kernel
theorem dX9_findMeeting_21 : decode cX9_findMeeting 21 = .ok (.istore_n 2, 1) := by decide +kernel
theorem dX9_findMeeting_22 : decode cX9_findMeeting 22 = .ok (.iload_n 2, 1) := by decide +kernel
theorem dX9_findMeeting_23 : decode cX9_findMeeting 23 = .ok (.bipush 6, 2) := by decide +kernel
theorem dX9_findMeeting_25 : decode cX9_findMeeting 25 = .ok (.if_icmp .ge 49, 3) := by decide +kernel
theorem dX9_findMeeting_28 : decode cX9_findMeeting 28 = .ok (.iload_n 1, 1) := by decide +kernel
theorem dX9_findMeeting_29 : decode cX9_findMeeting 29 = .ok (.iload_n 2, 1) := by decide +kernel
theorem dX9_findMeeting_30 : decode cX9_findMeeting 30 = .ok (.invokestatic 195, 3) := by decide +kernel
theorem dX9_findMeeting_33 : decode cX9_findMeeting 33 = .ok (.ifCond .eq 35, 3) := by decide +kernel
theorem dX9_findMeeting_36 : decode cX9_findMeeting 36 = .ok (.aload_n 0, 1) := by decide +kernel
theorem dX9_findMeeting_37 : decode cX9_findMeeting 37 = .ok (.getfield 12, 3) := by decide +kernel
theorem dX9_findMeeting_40 : decode cX9_findMeeting 40 = .ok (.iload_n 2, 1) := by decide +kernel
theorem dX9_findMeeting_41 : decode cX9_findMeeting 41 = .ok (.invokevirtual 100, 3) := by decide +kernel
theorem dX9_findMeeting_44 : decode cX9_findMeeting 44 = .ok (.ifCond .eq 24, 3) := by decide +kernel
theorem dX9_findMeeting_47 : decode cX9_findMeeting 47 = .ok (.aload_n 0, 1) := by decide +kernel
theorem dX9_findMeeting_48 : decode cX9_findMeeting 48 = .ok (.getfield 35, 3) := by decide +kernel
theorem dX9_findMeeting_51 : decode cX9_findMeeting 51 = .ok (.aload_n 0, 1) := by decide +kernel
theorem dX9_findMeeting_52 : decode cX9_findMeeting 52 = .ok (.getfield 12, 3) := by decide +kernel
theorem dX9_findMeeting_55 : decode cX9_findMeeting 55 = .ok (.getfield 108, 3) := by decide +kernel
theorem dX9_findMeeting_58 : decode cX9_findMeeting 58 = .ok (.iload_n 2, 1) := by decide +kernel
theorem dX9_findMeeting_59 : decode cX9_findMeeting 59 = .ok (.aaload, 1) := by decide +kernel
theorem dX9_findMeeting_60 : decode cX9_findMeeting 60 = .ok (.invokevirtual 198, 3) := by decide +kernel
theorem dX9_findMeeting_63 : decode cX9_findMeeting 63 = .ok (.ifCond .ne 5, 3) := by decide +kernel
theorem dX9_findMeeting_66 : decode cX9_findMeeting 66 = .ok (.iconst 0, 1) := by decide +kernel
theorem dX9_findMeeting_67 : decode cX9_findMeeting 67 = .ok (.ireturn, 1) := by decide +kernel
theorem dX9_findMeeting_68 : decode cX9_findMeeting 68 = .ok (.iinc 2 1, 3) := by decide +kernel
theorem dX9_findMeeting_71 : decode cX9_findMeeting 71 = .ok (.goto (-49), 3) := by decide +kernel
theorem dX9_findMeeting_74 : decode cX9_findMeeting 74 = .ok (.iconst 1, 1) := by decide +kernel
theorem dX9_findMeeting_75 : decode cX9_findMeeting 75 = .ok (.ireturn, 1) := by decide +kernel
theorem dX9_why_0 : decode cX9_why 0 = .ok (.aload_n 0, 1) := by decide +kernel
theorem dX9_why_1 : decode cX9_why 1 = .ok (.getfield 12, 3) := by decide +kernel
theorem dX9_why_4 : decode cX9_why 4 = .ok (.iload_n 1, 1) := by decide +kernel
theorem dX9_why_5 : decode cX9_why 5 = .ok (.invokevirtual 189, 3) := by decide +kernel
theorem dX9_why_8 : decode cX9_why 8 = .ok (.ifCond .ne 6, 3) := by decide +kernel
theorem dX9_why_11 : decode cX9_why 11 = .ok (.bipush (-2), 2) := by decide +kernel
theorem dX9_why_13 : decode cX9_why 13 = .ok (.ireturn, 1) := by decide +kernel
theorem dX9_why_14 : decode cX9_why 14 = .ok (.iconst 0, 1) := by decide +kernel
theorem dX9_why_15 : decode cX9_why 15 = .ok (.istore_n 2, 1) := by decide +kernel
theorem dX9_why_16 : decode cX9_why 16 = .ok (.iload_n 2, 1) := by decide +kernel
theorem dX9_why_17 : decode cX9_why 17 = .ok (.bipush 6, 2) := by decide +kernel
theorem dX9_why_19 : decode cX9_why 19 = .ok (.if_icmp .ge 57, 3) := by decide +kernel
theorem dX9_why_22 : decode cX9_why 22 = .ok (.iload_n 2, 1) := by decide +kernel
theorem dX9_why_23 : decode cX9_why 23 = .ok (.iconst 1, 1) := by decide +kernel
theorem dX9_why_24 : decode cX9_why 24 = .ok (.iadd, 1) := by decide +kernel
theorem dX9_why_25 : decode cX9_why 25 = .ok (.istore_n 3, 1) := by decide +kernel
theorem dX9_why_26 : decode cX9_why 26 = .ok (.iload_n 3, 1) := by decide +kernel
theorem dX9_why_27 : decode cX9_why 27 = .ok (.bipush 6, 2) := by decide +kernel
theorem dX9_why_29 : decode cX9_why 29 = .ok (.if_icmp .ge 41, 3) := by decide +kernel
theorem dX9_why_32 : decode cX9_why 32 = .ok (.iload_n 1, 1) := by decide +kernel
theorem dX9_why_33 : decode cX9_why 33 = .ok (.iload_n 2, 1) := by decide +kernel
theorem dX9_why_34 : decode cX9_why 34 = .ok (.invokestatic 195, 3) := by decide +kernel
theorem dX9_why_37 : decode cX9_why 37 = .ok (.ifCond .eq 27, 3) := by decide +kernel
theorem dX9_why_40 : decode cX9_why 40 = .ok (.iload_n 1, 1) := by decide +kernel
theorem dX9_why_41 : decode cX9_why 41 = .ok (.iload_n 3, 1) := by decide +kernel
theorem dX9_why_42 : decode cX9_why 42 = .ok (.invokestatic 195, 3) := by decide +kernel
theorem dX9_why_45 : decode cX9_why 45 = .ok (.ifCond .eq 19, 3) := by decide +kernel
theorem dX9_why_48 : decode cX9_why 48 = .ok (.aload_n 0, 1) := by decide +kernel
theorem dX9_why_49 : decode cX9_why 49 = .ok (.iload_n 2, 1) := by decide +kernel
theorem dX9_why_50 : decode cX9_why 50 = .ok (.iload_n 3, 1) := by decide +kernel
theorem dX9_why_51 : decode cX9_why 51 = .ok (.invokevirtual 202, 3) := by decide +kernel
theorem dX9_why_54 : decode cX9_why 54 = .ok (.ifCond .eq 10, 3) := by decide +kernel
theorem dX9_why_57 : decode cX9_why 57 = .ok (.bipush 10, 2) := by decide +kernel
theorem dX9_why_59 : decode cX9_why 59 = .ok (.iload_n 2, 1) := by decide +kernel
theorem dX9_why_60 : decode cX9_why 60 = .ok (.imul, 1) := by decide +kernel
theorem dX9_why_61 : decode cX9_why 61 = .ok (.iload_n 3, 1) := by decide +kernel
theorem dX9_why_62 : decode cX9_why 62 = .ok (.iadd, 1) := by decide +kernel
theorem dX9_why_63 : decode cX9_why 63 = .ok (.ireturn, 1) := by decide +kernel
theorem dX9_why_64 : decode cX9_why 64 = .ok (.iinc 3 1, 3) := by decide +kernel
theorem dX9_why_67 : decode cX9_why 67 = .ok (.goto (-41), 3) := by decide +kernel
theorem dX9_why_70 : decode cX9_why 70 = .ok (.iinc 2 1, 3) := by decide +kernel
theorem dX9_why_73 : decode cX9_why 73 = .ok (.goto (-57), 3) := by decide +kernel
theorem dX9_why_76 : decode cX9_why 76 = .ok (.iconst (-1), 1) := by decide +kernel
theorem dX9_why_77 : decode cX9_why 77 = .ok (.ireturn, 1) := by decide +kernel
theorem dX9_neverMeet_0 : decode cX9_neverMeet 0 = .ok (.aload_n 0, 1) := by decide +kernel
theorem dX9_neverMeet_1 : decode cX9_neverMeet 1 = .ok (.getfield 12, 3) := by decide +kernel
theorem dX9_neverMeet_4 : decode cX9_neverMeet 4 = .ok (.iload_n 1, 1) := by decide +kernel
theorem dX9_neverMeet_5 : decode cX9_neverMeet 5 = .ok (.invokevirtual 100, 3) := by decide +kernel
theorem dX9_neverMeet_8 : decode cX9_neverMeet 8 = .ok (.ifCond .eq 42, 3) := by decide +kernel
theorem dX9_neverMeet_11 : decode cX9_neverMeet 11 = .ok (.aload_n 0, 1) := by decide +kernel
theorem dX9_neverMeet_12 : decode cX9_neverMeet 12 = .ok (.getfield 12, 3) := by decide +kernel
theorem dX9_neverMeet_15 : decode cX9_neverMeet 15 = .ok (.iload_n 2, 1) := by decide +kernel
theorem dX9_neverMeet_16 : decode cX9_neverMeet 16 = .ok (.invokevirtual 100, 3) := by decide +kernel
theorem dX9_neverMeet_19 : decode cX9_neverMeet 19 = .ok (.ifCond .eq 31, 3) := by decide +kernel
theorem dX9_neverMeet_22 : decode cX9_neverMeet 22 = .ok (.aload_n 0, 1) := by decide +kernel
theorem dX9_neverMeet_23 : decode cX9_neverMeet 23 = .ok (.getfield 12, 3) := by decide +kernel
theorem dX9_neverMeet_26 : decode cX9_neverMeet 26 = .ok (.getfield 108, 3) := by decide +kernel
theorem dX9_neverMeet_29 : decode cX9_neverMeet 29 = .ok (.iload_n 1, 1) := by decide +kernel
theorem dX9_neverMeet_30 : decode cX9_neverMeet 30 = .ok (.aaload, 1) := by decide +kernel
theorem dX9_neverMeet_31 : decode cX9_neverMeet 31 = .ok (.aload_n 0, 1) := by decide +kernel
theorem dX9_neverMeet_32 : decode cX9_neverMeet 32 = .ok (.getfield 12, 3) := by decide +kernel
theorem dX9_neverMeet_35 : decode cX9_neverMeet 35 = .ok (.getfield 108, 3) := by decide +kernel
theorem dX9_neverMeet_38 : decode cX9_neverMeet 38 = .ok (.iload_n 2, 1) := by decide +kernel
theorem dX9_neverMeet_39 : decode cX9_neverMeet 39 = .ok (.aaload, 1) := by decide +kernel
theorem dX9_neverMeet_40 : decode cX9_neverMeet 40 = .ok (.invokevirtual 205, 3) := by decide +kernel
theorem dX9_neverMeet_43 : decode cX9_neverMeet 43 = .ok (.ifCond .ne 7, 3) := by decide +kernel
theorem dX9_neverMeet_46 : decode cX9_neverMeet 46 = .ok (.iconst 1, 1) := by decide +kernel
theorem dX9_neverMeet_47 : decode cX9_neverMeet 47 = .ok (.goto 4, 3) := by decide +kernel
theorem dX9_neverMeet_50 : decode cX9_neverMeet 50 = .ok (.iconst 0, 1) := by decide +kernel
theorem dX9_neverMeet_51 : decode cX9_neverMeet 51 = .ok (.ireturn, 1) := by decide +kernel
theorem dX9_full_0 : decode cX9_full 0 = .ok (.iload_n 1, 1) := by decide +kernel
theorem dX9_full_1 : decode cX9_full 1 = .ok (.iconst 0, 1) := by decide +kernel
theorem dX9_full_2 : decode cX9_full 2 = .ok (.iconst 1, 1) := by decide +kernel
theorem dX9_full_3 : decode cX9_full 3 = .ok (.invokestatic 119, 3) := by decide +kernel
theorem dX9_full_6 : decode cX9_full 6 = .ok (.ifCond .ne 7, 3) := by decide +kernel
theorem dX9_full_9 : decode cX9_full 9 = .ok (.ldc2_w 184, 3) := by decide +kernel
theorem dX9_full_12 : decode cX9_full 12 = .ok (.lreturn, 1) := by decide +kernel
theorem dX9_full_13 : decode cX9_full 13 = .ok (.lconst 0, 1) := by decide +kernel
theorem dX9_full_14 : decode cX9_full 14 = .ok (.lstore_n 2, 1) := by decide +kernel
theorem dX9_full_15 : decode cX9_full 15 = .ok (.lconst 1, 1) := by decide +kernel
theorem dX9_full_16 : decode cX9_full 16 = .ok (.lstore 4, 2) := by decide +kernel
theorem dX9_full_18 : decode cX9_full 18 = .ok (.iconst 0, 1) := by decide +kernel
theorem dX9_full_19 : decode cX9_full 19 = .ok (.istore 6, 2) := by decide +kernel
theorem dX9_full_21 : decode cX9_full 21 = .ok (.iload 6, 2) := by decide +kernel
theorem dX9_full_23 : decode cX9_full 23 = .ok (.bipush 6, 2) := by decide +kernel
theorem dX9_full_25 : decode cX9_full 25 = .ok (.if_icmp .ge 53, 3) := by decide +kernel
theorem dX9_full_28 : decode cX9_full 28 = .ok (.aload_n 0, 1) := by decide +kernel
theorem dX9_full_29 : decode cX9_full 29 = .ok (.getfield 12, 3) := by decide +kernel
theorem dX9_full_32 : decode cX9_full 32 = .ok (.iload 6, 2) := by decide +kernel
theorem dX9_full_34 : decode cX9_full 34 = .ok (.invokevirtual 100, 3) := by decide +kernel
theorem dX9_full_37 : decode cX9_full 37 = .ok (.ifCond .eq 35, 3) := by decide +kernel
theorem dX9_full_40 : decode cX9_full 40 = .ok (.aload_n 0, 1) := by decide +kernel
theorem dX9_full_41 : decode cX9_full 41 = .ok (.getfield 12, 3) := by decide +kernel
theorem dX9_full_44 : decode cX9_full 44 = .ok (.getfield 108, 3) := by decide +kernel
theorem dX9_full_47 : decode cX9_full 47 = .ok (.iload 6, 2) := by decide +kernel
theorem dX9_full_49 : decode cX9_full 49 = .ok (.aaload, 1) := by decide +kernel
theorem dX9_full_50 : decode cX9_full 50 = .ok (.getfield 208, 3) := by decide +kernel
theorem dX9_full_53 : decode cX9_full 53 = .ok (.istore 7, 2) := by decide +kernel
theorem dX9_full_55 : decode cX9_full 55 = .ok (.lload_n 2, 1) := by decide +kernel
theorem dX9_full_56 : decode cX9_full 56 = .ok (.iload 7, 2) := by decide +kernel
theorem dX9_full_58 : decode cX9_full 58 = .ok (.i2l, 1) := by decide +kernel
theorem dX9_full_59 : decode cX9_full 59 = .ok (.lmul, 1) := by decide +kernel
theorem dX9_full_60 : decode cX9_full 60 = .ok (.lload 4, 2) := by decide +kernel
theorem dX9_full_62 : decode cX9_full 62 = .ok (.ladd, 1) := by decide +kernel
theorem dX9_full_63 : decode cX9_full 63 = .ok (.lstore_n 2, 1) := by decide +kernel
theorem dX9_full_64 : decode cX9_full 64 = .ok (.lload 4, 2) := by decide +kernel
theorem dX9_full_66 : decode cX9_full 66 = .ok (.iload 7, 2) := by decide +kernel
theorem dX9_full_68 : decode cX9_full 68 = .ok (.i2l, 1) := by decide +kernel
theorem dX9_full_69 : decode cX9_full 69 = .ok (.lmul, 1) := by decide +kernel
theorem dX9_full_70 : decode cX9_full 70 = .ok (.lstore 4, 2) := by decide +kernel
theorem dX9_full_72 : decode cX9_full 72 = .ok (.iinc 6 1, 3) := by decide +kernel
theorem dX9_full_75 : decode cX9_full 75 = .ok (.goto (-54), 3) := by decide +kernel
theorem dX9_full_78 : decode cX9_full 78 = .ok (.lload_n 2, 1) := by decide +kernel
theorem dX9_full_79 : decode cX9_full 79 = .ok (.lload 4, 2) := by decide +kernel
theorem dX9_full_81 : decode cX9_full 81 = .ok (.iload_n 1, 1) := by decide +kernel
theorem dX9_full_82 : decode cX9_full 82 = .ok (.invokestatic 211, 3) := by decide +kernel
theorem dX9_full_85 : decode cX9_full 85 = .ok (.lreturn, 1) := by decide +kernel
theorem dX9_shift_0 : decode cX9_shift 0 = .ok (.aload_n 0, 1) := by decide +kernel
theorem dX9_shift_1 : decode cX9_shift 1 = .ok (.getfield 12, 3) := by decide +kernel
theorem dX9_shift_4 : decode cX9_shift 4 = .ok (.iload_n 1, 1) := by decide +kernel
theorem dX9_shift_5 : decode cX9_shift 5 = .ok (.invokevirtual 100, 3) := by decide +kernel
theorem dX9_shift_8 : decode cX9_shift 8 = .ok (.ifCond .ne 6, 3) := by decide +kernel
theorem dX9_shift_11 : decode cX9_shift 11 = .ok (.bipush (-2), 2) := by decide +kernel
theorem dX9_shift_13 : decode cX9_shift 13 = .ok (.ireturn, 1) := by decide +kernel
theorem dX9_shift_14 : decode cX9_shift 14 = .ok (.aload_n 0, 1) := by decide +kernel
theorem dX9_shift_15 : decode cX9_shift 15 = .ok (.getfield 93, 3) := by decide +kernel
theorem dX9_shift_18 : decode cX9_shift 18 = .ok (.aload_n 0, 1) := by decide +kernel
theorem dX9_shift_19 : decode cX9_shift 19 = .ok (.getfield 12, 3) := by decide +kernel
theorem dX9_shift_22 : decode cX9_shift 22 = .ok (.getfield 123, 3) := by decide +kernel
theorem dX9_shift_25 : decode cX9_shift 25 = .ok (.invokevirtual 139, 3) := by decide +kernel
theorem dX9_shift_28 : decode cX9_shift 28 = .ok (.iconst 0, 1) := by decide +kernel
theorem dX9_shift_29 : decode cX9_shift 29 = .ok (.istore_n 2, 1) := by decide +kernel
theorem dX9_shift_30 : decode cX9_shift 30 = .ok (.iload_n 2, 1) := by decide +kernel
theorem dX9_shift_31 : decode cX9_shift 31 = .ok (.bipush 60, 2) := by decide +kernel
theorem dX9_shift_33 : decode cX9_shift 33 = .ok (.if_icmp .ge 31, 3) := by decide +kernel
theorem dX9_shift_36 : decode cX9_shift 36 = .ok (.aload_n 0, 1) := by decide +kernel
theorem dX9_shift_37 : decode cX9_shift 37 = .ok (.getfield 93, 3) := by decide +kernel
theorem dX9_shift_40 : decode cX9_shift 40 = .ok (.iload_n 1, 1) := by decide +kernel
theorem dX9_shift_41 : decode cX9_shift 41 = .ok (.iload_n 2, 1) := by decide +kernel
theorem dX9_shift_42 : decode cX9_shift 42 = .ok (.invokevirtual 215, 3) := by decide +kernel
theorem dX9_shift_45 : decode cX9_shift 45 = .ok (.aload_n 0, 1) := by decide +kernel
theorem dX9_shift_46 : decode cX9_shift 46 = .ok (.getfield 93, 3) := by decide +kernel
theorem dX9_shift_49 : decode cX9_shift 49 = .ok (.iload_n 1, 1) := by decide +kernel
theorem dX9_shift_50 : decode cX9_shift 50 = .ok (.invokevirtual 218, 3) := by decide +kernel
theorem dX9_shift_53 : decode cX9_shift 53 = .ok (.ifCond .ne 5, 3) := by decide +kernel
theorem dX9_shift_56 : decode cX9_shift 56 = .ok (.iload_n 2, 1) := by decide +kernel
theorem dX9_shift_57 : decode cX9_shift 57 = .ok (.ireturn, 1) := by decide +kernel
theorem dX9_shift_58 : decode cX9_shift 58 = .ok (.iinc 2 1, 3) := by decide +kernel
theorem dX9_shift_61 : decode cX9_shift 61 = .ok (.goto (-31), 3) := by decide +kernel
theorem dX9_shift_64 : decode cX9_shift 64 = .ok (.iconst (-1), 1) := by decide +kernel
theorem dX9_shift_65 : decode cX9_shift 65 = .ok (.ireturn, 1) := by decide +kernel
theorem dX9_join_0 : decode cX9_join 0 = .ok (.aload_n 0, 1) := by decide +kernel
theorem dX9_join_1 : decode cX9_join 1 = .ok (.getfield 12, 3) := by decide +kernel
theorem dX9_join_4 : decode cX9_join 4 = .ok (.iload_n 1, 1) := by decide +kernel
theorem dX9_join_5 : decode cX9_join 5 = .ok (.invokevirtual 100, 3) := by decide +kernel
theorem dX9_join_8 : decode cX9_join 8 = .ok (.ifCond .eq 19, 3) := by decide +kernel
theorem dX9_join_11 : decode cX9_join 11 = .ok (.aload_n 0, 1) := by decide +kernel
theorem dX9_join_12 : decode cX9_join 12 = .ok (.getfield 12, 3) := by decide +kernel
theorem dX9_join_15 : decode cX9_join 15 = .ok (.iload_n 2, 1) := by decide +kernel
theorem dX9_join_16 : decode cX9_join 16 = .ok (.invokevirtual 100, 3) := by decide +kernel
theorem dX9_join_19 : decode cX9_join 19 = .ok (.ifCond .eq 8, 3) := by decide +kernel
theorem dX9_join_22 : decode cX9_join 22 = .ok (.iload_n 1, 1) := by decide +kernel
theorem dX9_join_23 : decode cX9_join 23 = .ok (.iload_n 2, 1) := by decide +kernel
theorem dX9_join_24 : decode cX9_join 24 = .ok (.if_icmp .ne 6, 3) := by decide +kernel
theorem dX9_join_27 : decode cX9_join 27 = .ok (.bipush (-2), 2) := by decide +kernel
theorem dX9_join_29 : decode cX9_join 29 = .ok (.ireturn, 1) := by decide +kernel
theorem dX9_join_30 : decode cX9_join 30 = .ok (.iconst 0, 1) := by decide +kernel
theorem dX9_join_31 : decode cX9_join 31 = .ok (.istore_n 3, 1) := by decide +kernel
theorem dX9_join_32 : decode cX9_join 32 = .ok (.iload_n 3, 1) := by decide +kernel
theorem dX9_join_33 : decode cX9_join 33 = .ok (.bipush 60, 2) := by decide +kernel
theorem dX9_join_35 : decode cX9_join 35 = .ok (.if_icmp .ge 47, 3) := by decide +kernel
theorem dX9_join_38 : decode cX9_join 38 = .ok (.aload_n 0, 1) := by decide +kernel
theorem dX9_join_39 : decode cX9_join 39 = .ok (.getfield 49, 3) := by decide +kernel
theorem dX9_join_42 : decode cX9_join 42 = .ok (.aload_n 0, 1) := by decide +kernel
theorem dX9_join_43 : decode cX9_join 43 = .ok (.getfield 12, 3) := by decide +kernel
theorem dX9_join_46 : decode cX9_join 46 = .ok (.getfield 108, 3) := by decide +kernel
theorem dX9_join_49 : decode cX9_join 49 = .ok (.iload_n 1, 1) := by decide +kernel
theorem dX9_join_50 : decode cX9_join 50 = .ok (.aaload, 1) := by decide +kernel
theorem dX9_join_51 : decode cX9_join 51 = .ok (.iload_n 3, 1) := by decide +kernel
theorem dX9_join_52 : decode cX9_join 52 = .ok (.invokevirtual 221, 3) := by decide +kernel
theorem dX9_join_55 : decode cX9_join 55 = .ok (.aload_n 0, 1) := by decide +kernel
theorem dX9_join_56 : decode cX9_join 56 = .ok (.getfield 49, 3) := by decide +kernel
theorem dX9_join_59 : decode cX9_join 59 = .ok (.aload_n 0, 1) := by decide +kernel
theorem dX9_join_60 : decode cX9_join 60 = .ok (.getfield 12, 3) := by decide +kernel
theorem dX9_join_63 : decode cX9_join 63 = .ok (.getfield 108, 3) := by decide +kernel
theorem dX9_join_66 : decode cX9_join 66 = .ok (.iload_n 2, 1) := by decide +kernel
theorem dX9_join_67 : decode cX9_join 67 = .ok (.aaload, 1) := by decide +kernel
theorem dX9_join_68 : decode cX9_join 68 = .ok (.invokevirtual 205, 3) := by decide +kernel
theorem dX9_join_71 : decode cX9_join 71 = .ok (.ifCond .eq 5, 3) := by decide +kernel
theorem dX9_join_74 : decode cX9_join 74 = .ok (.iload_n 3, 1) := by decide +kernel
theorem dX9_join_75 : decode cX9_join 75 = .ok (.ireturn, 1) := by decide +kernel
theorem dX9_join_76 : decode cX9_join 76 = .ok (.iinc 3 1, 3) := by decide +kernel
theorem dX9_join_79 : decode cX9_join 79 = .ok (.goto (-47), 3) := by decide +kernel
theorem dX9_join_82 : decode cX9_join 82 = .ok (.iconst (-1), 1) := by decide +kernel
theorem dX9_join_83 : decode cX9_join 83 = .ok (.ireturn, 1) := by decide +kernel
theorem dX9_goodShift_0 : decode cX9_goodShift 0 = .ok (.aload_n 0, 1) := by decide +kernel
theorem dX9_goodShift_1 : decode cX9_goodShift 1 = .ok (.getfield 12, 3) := by decide +kernel
theorem dX9_goodShift_4 : decode cX9_goodShift 4 = .ok (.iload_n 1, 1) := by decide +kernel
theorem dX9_goodShift_5 : decode cX9_goodShift 5 = .ok (.invokevirtual 100, 3) := by decide +kernel
theorem dX9_goodShift_8 : decode cX9_goodShift 8 = .ok (.ifCond .eq 12, 3) := by decide +kernel
theorem dX9_goodShift_11 : decode cX9_goodShift 11 = .ok (.iload_n 2, 1) := by decide +kernel
theorem dX9_goodShift_12 : decode cX9_goodShift 12 = .ok (.iconst 0, 1) := by decide +kernel
theorem dX9_goodShift_13 : decode cX9_goodShift 13 = .ok (.iconst 1, 1) := by decide +kernel
theorem dX9_goodShift_14 : decode cX9_goodShift 14 = .ok (.invokestatic 119, 3) := by decide +kernel
theorem dX9_goodShift_17 : decode cX9_goodShift 17 = .ok (.ifCond .ne 6, 3) := by decide +kernel
theorem dX9_goodShift_20 : decode cX9_goodShift 20 = .ok (.bipush (-2), 2) := by decide +kernel
theorem dX9_goodShift_22 : decode cX9_goodShift 22 = .ok (.ireturn, 1) := by decide +kernel
theorem dX9_goodShift_23 : decode cX9_goodShift 23 = .ok (.aload_n 0, 1) := by decide +kernel
theorem dX9_goodShift_24 : decode cX9_goodShift 24 = .ok (.getfield 93, 3) := by decide +kernel
theorem dX9_goodShift_27 : decode cX9_goodShift 27 = .ok (.aload_n 0, 1) := by decide +kernel
theorem dX9_goodShift_28 : decode cX9_goodShift 28 = .ok (.getfield 12, 3) := by decide +kernel
theorem dX9_goodShift_31 : decode cX9_goodShift 31 = .ok (.getfield 123, 3) := by decide +kernel
theorem dX9_goodShift_34 : decode cX9_goodShift 34 = .ok (.invokevirtual 139, 3) := by decide +kernel
theorem dX9_goodShift_37 : decode cX9_goodShift 37 = .ok (.iconst 0, 1) := by decide +kernel
theorem dX9_goodShift_38 : decode cX9_goodShift 38 = .ok (.istore_n 3, 1) := by decide +kernel
theorem dX9_goodShift_39 : decode cX9_goodShift 39 = .ok (.iconst 0, 1) := by decide +kernel
theorem dX9_goodShift_40 : decode cX9_goodShift 40 = .ok (.istore 4, 2) := by decide +kernel
theorem dX9_goodShift_42 : decode cX9_goodShift 42 = .ok (.iconst 0, 1) := by decide +kernel
theorem dX9_goodShift_43 : decode cX9_goodShift 43 = .ok (.istore 5, 2) := by decide +kernel
theorem dX9_goodShift_45 : decode cX9_goodShift 45 = .ok (.iload 5, 2) := by decide +kernel
theorem dX9_goodShift_47 : decode cX9_goodShift 47 = .ok (.bipush 60, 2) := by decide +kernel
theorem dX9_goodShift_49 : decode cX9_goodShift 49 = .ok (.if_icmp .ge 58, 3) := by decide +kernel
theorem dX9_goodShift_52 : decode cX9_goodShift 52 = .ok (.aload_n 0, 1) := by decide +kernel
theorem dX9_goodShift_53 : decode cX9_goodShift 53 = .ok (.getfield 93, 3) := by decide +kernel
theorem dX9_goodShift_56 : decode cX9_goodShift 56 = .ok (.iload_n 1, 1) := by decide +kernel
theorem dX9_goodShift_57 : decode cX9_goodShift 57 = .ok (.iload 5, 2) := by decide +kernel
theorem dX9_goodShift_59 : decode cX9_goodShift 59 = .ok (.invokevirtual 215, 3) := by decide +kernel
theorem dX9_goodShift_62 : decode cX9_goodShift 62 = .ok (.aload_n 0, 1) := by decide +kernel
theorem dX9_goodShift_63 : decode cX9_goodShift 63 = .ok (.getfield 93, 3) := by decide +kernel
theorem dX9_goodShift_66 : decode cX9_goodShift 66 = .ok (.invokevirtual 156, 3) := by decide +kernel
theorem dX9_goodShift_69 : decode cX9_goodShift 69 = .ok (.aload_n 0, 1) := by decide +kernel
theorem dX9_goodShift_70 : decode cX9_goodShift 70 = .ok (.getfield 93, 3) := by decide +kernel
theorem dX9_goodShift_73 : decode cX9_goodShift 73 = .ok (.iload_n 1, 1) := by decide +kernel
theorem dX9_goodShift_74 : decode cX9_goodShift 74 = .ok (.iload 5, 2) := by decide +kernel
theorem dX9_goodShift_76 : decode cX9_goodShift 76 = .ok (.invokevirtual 225, 3) := by decide +kernel
theorem dX9_goodShift_79 : decode cX9_goodShift 79 = .ok (.iadd, 1) := by decide +kernel
theorem dX9_goodShift_80 : decode cX9_goodShift 80 = .ok (.istore 6, 2) := by decide +kernel
theorem dX9_goodShift_82 : decode cX9_goodShift 82 = .ok (.iload 5, 2) := by decide +kernel
theorem dX9_goodShift_84 : decode cX9_goodShift 84 = .ok (.ifCond .eq 10, 3) := by decide +kernel
theorem dX9_goodShift_87 : decode cX9_goodShift 87 = .ok (.iload 6, 2) := by decide +kernel
theorem dX9_goodShift_89 : decode cX9_goodShift 89 = .ok (.iload 4, 2) := by decide +kernel
theorem dX9_goodShift_91 : decode cX9_goodShift 91 = .ok (.if_icmp .ge 10, 3) := by decide +kernel
theorem dX9_goodShift_94 : decode cX9_goodShift 94 = .ok (.iload 5, 2) := by decide +kernel
theorem dX9_goodShift_96 : decode cX9_goodShift 96 = .ok (.istore_n 3, 1) := by decide +kernel
theorem dX9_goodShift_97 : decode cX9_goodShift 97 = .ok (.iload 6, 2) := by decide +kernel
theorem dX9_goodShift_99 : decode cX9_goodShift 99 = .ok (.istore 4, 2) := by decide +kernel
theorem dX9_goodShift_101 : decode cX9_goodShift 101 = .ok (.iinc 5 1, 3) := by decide +kernel
theorem dX9_goodShift_104 : decode cX9_goodShift 104 = .ok (.goto (-59), 3) := by decide +kernel
theorem dX9_goodShift_107 : decode cX9_goodShift 107 = .ok (.iload_n 2, 1) := by decide +kernel
theorem dX9_goodShift_108 : decode cX9_goodShift 108 = .ok (.ifCond .ne 7, 3) := by decide +kernel
theorem dX9_goodShift_111 : decode cX9_goodShift 111 = .ok (.iload_n 3, 1) := by decide +kernel
theorem dX9_goodShift_112 : decode cX9_goodShift 112 = .ok (.goto 5, 3) := by decide +kernel
theorem dX9_goodShift_115 : decode cX9_goodShift 115 = .ok (.iload 4, 2) := by decide +kernel
theorem dX9_goodShift_117 : decode cX9_goodShift 117 = .ok (.ireturn, 1) := by decide +kernel
theorem dX9_diary_0 : decode cX9_diary 0 = .ok (.iload_n 1, 1) := by decide +kernel
theorem dX9_diary_1 : decode cX9_diary 1 = .ok (.invokestatic 228, 3) := by decide +kernel
theorem dX9_diary_4 : decode cX9_diary 4 = .ok (.ifCond .eq 28, 3) := by decide +kernel
theorem dX9_diary_7 : decode cX9_diary 7 = .ok (.iload_n 2, 1) := by decide +kernel
theorem dX9_diary_8 : decode cX9_diary 8 = .ok (.iconst 0, 1) := by decide +kernel
theorem dX9_diary_9 : decode cX9_diary 9 = .ok (.iconst 1, 1) := by decide +kernel
theorem dX9_diary_10 : decode cX9_diary 10 = .ok (.invokestatic 119, 3) := by decide +kernel
theorem dX9_diary_13 : decode cX9_diary 13 = .ok (.ifCond .eq 19, 3) := by decide +kernel
theorem dX9_diary_16 : decode cX9_diary 16 = .ok (.iload_n 2, 1) := by decide +kernel
theorem dX9_diary_17 : decode cX9_diary 17 = .ok (.iconst 1, 1) := by decide +kernel
theorem dX9_diary_18 : decode cX9_diary 18 = .ok (.if_icmp .ne 17, 3) := by decide +kernel
theorem dX9_diary_21 : decode cX9_diary 21 = .ok (.aload_n 0, 1) := by decide +kernel
theorem dX9_diary_22 : decode cX9_diary 22 = .ok (.getfield 12, 3) := by decide +kernel
theorem dX9_diary_25 : decode cX9_diary 25 = .ok (.iload_n 3, 1) := by decide +kernel
theorem dX9_diary_26 : decode cX9_diary 26 = .ok (.invokevirtual 100, 3) := by decide +kernel
theorem dX9_diary_29 : decode cX9_diary 29 = .ok (.ifCond .ne 6, 3) := by decide +kernel
theorem dX9_diary_32 : decode cX9_diary 32 = .ok (.bipush (-2), 2) := by decide +kernel
theorem dX9_diary_34 : decode cX9_diary 34 = .ok (.ireturn, 1) := by decide +kernel
theorem dX9_diary_35 : decode cX9_diary 35 = .ok (.aload_n 0, 1) := by decide +kernel
theorem dX9_diary_36 : decode cX9_diary 36 = .ok (.getfield 55, 3) := by decide +kernel
theorem dX9_diary_39 : decode cX9_diary 39 = .ok (.iload_n 1, 1) := by decide +kernel
theorem dX9_diary_40 : decode cX9_diary 40 = .ok (.aaload, 1) := by decide +kernel
theorem dX9_diary_41 : decode cX9_diary 41 = .ok (.invokevirtual 231, 3) := by decide +kernel
theorem dX9_diary_44 : decode cX9_diary 44 = .ok (.ifCond .eq 6, 3) := by decide +kernel
theorem dX9_diary_47 : decode cX9_diary 47 = .ok (.bipush (-11), 2) := by decide +kernel
theorem dX9_diary_49 : decode cX9_diary 49 = .ok (.ireturn, 1) := by decide +kernel
theorem dX9_diary_50 : decode cX9_diary 50 = .ok (.aload_n 0, 1) := by decide +kernel
theorem dX9_diary_51 : decode cX9_diary 51 = .ok (.getfield 42, 3) := by decide +kernel
theorem dX9_diary_54 : decode cX9_diary 54 = .ok (.aload_n 0, 1) := by decide +kernel
theorem dX9_diary_55 : decode cX9_diary 55 = .ok (.getfield 55, 3) := by decide +kernel
theorem dX9_diary_58 : decode cX9_diary 58 = .ok (.iload_n 1, 1) := by decide +kernel
theorem dX9_diary_59 : decode cX9_diary 59 = .ok (.aaload, 1) := by decide +kernel
theorem dX9_diary_60 : decode cX9_diary 60 = .ok (.invokevirtual 235, 3) := by decide +kernel
theorem dX9_diary_63 : decode cX9_diary 63 = .ok (.ifCond .ne 6, 3) := by decide +kernel
theorem dX9_diary_66 : decode cX9_diary 66 = .ok (.bipush (-2), 2) := by decide +kernel
theorem dX9_diary_68 : decode cX9_diary 68 = .ok (.ireturn, 1) := by decide +kernel
theorem dX9_diary_69 : decode cX9_diary 69 = .ok (.iload_n 2, 1) := by decide +kernel
theorem dX9_diary_70 : decode cX9_diary 70 = .ok (.ifCond .ne 10, 3) := by decide +kernel
theorem dX9_diary_73 : decode cX9_diary 73 = .ok (.aload_n 0, 1) := by decide +kernel
theorem dX9_diary_74 : decode cX9_diary 74 = .ok (.invokevirtual 238, 3) := by decide +kernel
theorem dX9_diary_77 : decode cX9_diary 77 = .ok (.goto 8, 3) := by decide +kernel
theorem dX9_diary_80 : decode cX9_diary 80 = .ok (.aload_n 0, 1) := by decide +kernel
theorem dX9_diary_81 : decode cX9_diary 81 = .ok (.iload_n 3, 1) := by decide +kernel
theorem dX9_diary_82 : decode cX9_diary 82 = .ok (.invokevirtual 241, 3) := by decide +kernel
theorem dX9_diary_85 : decode cX9_diary 85 = .ok (.ireturn, 1) := by decide +kernel
theorem dX9_thingsOfPages_0 : decode cX9_thingsOfPages 0 = .ok (.iconst 0, 1) := by decide +kernel
theorem dX9_thingsOfPages_1 : decode cX9_thingsOfPages 1 = .ok (.istore_n 1, 1) := by decide +kernel
theorem dX9_thingsOfPages_2 : decode cX9_thingsOfPages 2 = .ok (.iconst 0, 1) := by decide +kernel
theorem dX9_thingsOfPages_3 : decode cX9_thingsOfPages 3 = .ok (.istore_n 2, 1) := by decide +kernel
theorem dX9_thingsOfPages_4 : decode cX9_thingsOfPages 4 = .ok (.iload_n 2, 1) := by decide +kernel
theorem dX9_thingsOfPages_5 : decode cX9_thingsOfPages 5 = .ok (.bipush 6, 2) := by decide +kernel
theorem dX9_thingsOfPages_7 : decode cX9_thingsOfPages 7 = .ok (.if_icmp .ge 52, 3) := by decide +kernel
theorem dX9_thingsOfPages_10 : decode cX9_thingsOfPages 10 = .ok (.aload_n 0, 1) := by decide +kernel
theorem dX9_thingsOfPages_11 : decode cX9_thingsOfPages 11 = .ok (.getfield 12, 3) := by decide +kernel
theorem dX9_thingsOfPages_14 : decode cX9_thingsOfPages 14 = .ok (.iload_n 2, 1) := by decide +kernel
theorem dX9_thingsOfPages_15 : decode cX9_thingsOfPages 15 = .ok (.invokevirtual 100, 3) := by decide +kernel
theorem dX9_thingsOfPages_18 : decode cX9_thingsOfPages 18 = .ok (.ifCond .eq 35, 3) := by decide +kernel
theorem dX9_thingsOfPages_21 : decode cX9_thingsOfPages 21 = .ok (.aload_n 0, 1) := by decide +kernel
theorem dX9_thingsOfPages_22 : decode cX9_thingsOfPages 22 = .ok (.getfield 42, 3) := by decide +kernel
theorem dX9_thingsOfPages_25 : decode cX9_thingsOfPages 25 = .ok (.aload_n 0, 1) := by decide +kernel
theorem dX9_thingsOfPages_26 : decode cX9_thingsOfPages 26 = .ok (.getfield 12, 3) := by decide +kernel
theorem dX9_thingsOfPages_29 : decode cX9_thingsOfPages 29 = .ok (.getfield 108, 3) := by decide +kernel
theorem dX9_thingsOfPages_32 : decode cX9_thingsOfPages 32 = .ok (.iload_n 2, 1) := by decide +kernel
theorem dX9_thingsOfPages_33 : decode cX9_thingsOfPages 33 = .ok (.aaload, 1) := by decide +kernel
theorem dX9_thingsOfPages_34 : decode cX9_thingsOfPages 34 = .ok (.aload_n 0, 1) := by decide +kernel
theorem dX9_thingsOfPages_35 : decode cX9_thingsOfPages 35 = .ok (.getfield 12, 3) := by decide +kernel
theorem dX9_thingsOfPages_38 : decode cX9_thingsOfPages 38 = .ok (.getfield 123, 3) := by decide +kernel
theorem dX9_thingsOfPages_41 : decode cX9_thingsOfPages 41 = .ok (.invokevirtual 244, 3) := by decide +kernel
theorem dX9_thingsOfPages_44 : decode cX9_thingsOfPages 44 = .ok (.ifCond .eq 9, 3) := by decide +kernel
theorem dX9_thingsOfPages_47 : decode cX9_thingsOfPages 47 = .ok (.iload_n 1, 1) := by decide +kernel
theorem dX9_thingsOfPages_48 : decode cX9_thingsOfPages 48 = .ok (.iconst 1, 1) := by decide +kernel
theorem dX9_thingsOfPages_49 : decode cX9_thingsOfPages 49 = .ok (.iload_n 2, 1) := by decide +kernel
theorem dX9_thingsOfPages_50 : decode cX9_thingsOfPages 50 = .ok (.ishl, 1) := by decide +kernel
theorem dX9_thingsOfPages_51 : decode cX9_thingsOfPages 51 = .ok (.ior, 1) := by decide +kernel
theorem dX9_thingsOfPages_52 : decode cX9_thingsOfPages 52 = .ok (.istore_n 1, 1) := by decide +kernel
theorem dX9_thingsOfPages_53 : decode cX9_thingsOfPages 53 = .ok (.iinc 2 1, 3) := by decide +kernel
theorem dX9_thingsOfPages_56 : decode cX9_thingsOfPages 56 = .ok (.goto (-52), 3) := by decide +kernel
theorem dX9_thingsOfPages_59 : decode cX9_thingsOfPages 59 = .ok (.iload_n 1, 1) := by decide +kernel
theorem dX9_thingsOfPages_60 : decode cX9_thingsOfPages 60 = .ok (.ireturn, 1) := by decide +kernel
theorem dX9_kindsOfPages_0 : decode cX9_kindsOfPages 0 = .ok (.aload_n 0, 1) := by decide +kernel
theorem dX9_kindsOfPages_1 : decode cX9_kindsOfPages 1 = .ok (.getfield 12, 3) := by decide +kernel
theorem dX9_kindsOfPages_4 : decode cX9_kindsOfPages 4 = .ok (.iload_n 1, 1) := by decide +kernel
theorem dX9_kindsOfPages_5 : decode cX9_kindsOfPages 5 = .ok (.invokevirtual 100, 3) := by decide +kernel
theorem dX9_kindsOfPages_8 : decode cX9_kindsOfPages 8 = .ok (.ifCond .ne 6, 3) := by decide +kernel
theorem dX9_kindsOfPages_11 : decode cX9_kindsOfPages 11 = .ok (.bipush (-2), 2) := by decide +kernel
theorem dX9_kindsOfPages_13 : decode cX9_kindsOfPages 13 = .ok (.ireturn, 1) := by decide +kernel
theorem dX9_kindsOfPages_14 : decode cX9_kindsOfPages 14 = .ok (.iconst 0, 1) := by decide +kernel
theorem dX9_kindsOfPages_15 : decode cX9_kindsOfPages 15 = .ok (.istore_n 2, 1) := by decide +kernel
theorem dX9_kindsOfPages_16 : decode cX9_kindsOfPages 16 = .ok (.aload_n 0, 1) := by decide +kernel
theorem dX9_kindsOfPages_17 : decode cX9_kindsOfPages 17 = .ok (.getfield 49, 3) := by decide +kernel
theorem dX9_kindsOfPages_20 : decode cX9_kindsOfPages 20 = .ok (.aload_n 0, 1) := by decide +kernel
theorem dX9_kindsOfPages_21 : decode cX9_kindsOfPages 21 = .ok (.getfield 12, 3) := by decide +kernel
theorem dX9_kindsOfPages_24 : decode cX9_kindsOfPages 24 = .ok (.getfield 108, 3) := by decide +kernel
theorem dX9_kindsOfPages_27 : decode cX9_kindsOfPages 27 = .ok (.iload_n 1, 1) := by decide +kernel
theorem dX9_kindsOfPages_28 : decode cX9_kindsOfPages 28 = .ok (.aaload, 1) := by decide +kernel
theorem dX9_kindsOfPages_29 : decode cX9_kindsOfPages 29 = .ok (.invokevirtual 248, 3) := by decide +kernel
theorem dX9_kindsOfPages_32 : decode cX9_kindsOfPages 32 = .ok (.iconst 0, 1) := by decide +kernel
theorem dX9_kindsOfPages_33 : decode cX9_kindsOfPages 33 = .ok (.istore_n 3, 1) := by decide +kernel
theorem dX9_kindsOfPages_34 : decode cX9_kindsOfPages 34 = .ok (.iload_n 3, 1) := by decide +kernel
theorem dX9_kindsOfPages_35 : decode cX9_kindsOfPages 35 = .ok (.bipush 6, 2) := by decide +kernel
theorem dX9_kindsOfPages_37 : decode cX9_kindsOfPages 37 = .ok (.if_icmp .ge 44, 3) := by decide +kernel
theorem dX9_kindsOfPages_40 : decode cX9_kindsOfPages 40 = .ok (.aload_n 0, 1) := by decide +kernel
theorem dX9_kindsOfPages_41 : decode cX9_kindsOfPages 41 = .ok (.getfield 49, 3) := by decide +kernel
theorem dX9_kindsOfPages_44 : decode cX9_kindsOfPages 44 = .ok (.iload_n 3, 1) := by decide +kernel
theorem dX9_kindsOfPages_45 : decode cX9_kindsOfPages 45 = .ok (.putfield 252, 3) := by decide +kernel
theorem dX9_kindsOfPages_48 : decode cX9_kindsOfPages 48 = .ok (.aload_n 0, 1) := by decide +kernel
theorem dX9_kindsOfPages_49 : decode cX9_kindsOfPages 49 = .ok (.getfield 42, 3) := by decide +kernel
theorem dX9_kindsOfPages_52 : decode cX9_kindsOfPages 52 = .ok (.aload_n 0, 1) := by decide +kernel
theorem dX9_kindsOfPages_53 : decode cX9_kindsOfPages 53 = .ok (.getfield 49, 3) := by decide +kernel
theorem dX9_kindsOfPages_56 : decode cX9_kindsOfPages 56 = .ok (.aload_n 0, 1) := by decide +kernel
theorem dX9_kindsOfPages_57 : decode cX9_kindsOfPages 57 = .ok (.getfield 12, 3) := by decide +kernel
theorem dX9_kindsOfPages_60 : decode cX9_kindsOfPages 60 = .ok (.getfield 123, 3) := by decide +kernel
theorem dX9_kindsOfPages_63 : decode cX9_kindsOfPages 63 = .ok (.invokevirtual 244, 3) := by decide +kernel
theorem dX9_kindsOfPages_66 : decode cX9_kindsOfPages 66 = .ok (.ifCond .eq 9, 3) := by decide +kernel
theorem dX9_kindsOfPages_69 : decode cX9_kindsOfPages 69 = .ok (.iload_n 2, 1) := by decide +kernel
theorem dX9_kindsOfPages_70 : decode cX9_kindsOfPages 70 = .ok (.iconst 1, 1) := by decide +kernel
theorem dX9_kindsOfPages_71 : decode cX9_kindsOfPages 71 = .ok (.iload_n 3, 1) := by decide +kernel
theorem dX9_kindsOfPages_72 : decode cX9_kindsOfPages 72 = .ok (.ishl, 1) := by decide +kernel
theorem dX9_kindsOfPages_73 : decode cX9_kindsOfPages 73 = .ok (.ior, 1) := by decide +kernel
theorem dX9_kindsOfPages_74 : decode cX9_kindsOfPages 74 = .ok (.istore_n 2, 1) := by decide +kernel
theorem dX9_kindsOfPages_75 : decode cX9_kindsOfPages 75 = .ok (.iinc 3 1, 3) := by decide +kernel
theorem dX9_kindsOfPages_78 : decode cX9_kindsOfPages 78 = .ok (.goto (-44), 3) := by decide +kernel
theorem dX9_kindsOfPages_81 : decode cX9_kindsOfPages 81 = .ok (.iload_n 2, 1) := by decide +kernel
theorem dX9_kindsOfPages_82 : decode cX9_kindsOfPages 82 = .ok (.ireturn, 1) := by decide +kernel
theorem dX9_rounds_0 : decode cX9_rounds 0 = .ok (.iload_n 1, 1) := by decide +kernel
theorem dX9_rounds_1 : decode cX9_rounds 1 = .ok (.invokestatic 228, 3) := by decide +kernel
theorem dX9_rounds_4 : decode cX9_rounds 4 = .ok (.ifCond .eq 40, 3) := by decide +kernel
theorem dX9_rounds_7 : decode cX9_rounds 7 = .ok (.iload_n 2, 1) := by decide +kernel
theorem dX9_rounds_8 : decode cX9_rounds 8 = .ok (.iconst 0, 1) := by decide +kernel
theorem dX9_rounds_9 : decode cX9_rounds 9 = .ok (.iconst 1, 1) := by decide +kernel
theorem dX9_rounds_10 : decode cX9_rounds 10 = .ok (.invokestatic 119, 3) := by decide +kernel
theorem dX9_rounds_13 : decode cX9_rounds 13 = .ok (.ifCond .eq 31, 3) := by decide +kernel
theorem dX9_rounds_16 : decode cX9_rounds 16 = .ok (.aload_n 0, 1) := by decide +kernel
theorem dX9_rounds_17 : decode cX9_rounds 17 = .ok (.getfield 55, 3) := by decide +kernel
theorem dX9_rounds_20 : decode cX9_rounds 20 = .ok (.iload_n 1, 1) := by decide +kernel
theorem dX9_rounds_21 : decode cX9_rounds 21 = .ok (.aaload, 1) := by decide +kernel
theorem dX9_rounds_22 : decode cX9_rounds 22 = .ok (.invokevirtual 231, 3) := by decide +kernel
theorem dX9_rounds_25 : decode cX9_rounds 25 = .ok (.ifCond .ne 19, 3) := by decide +kernel
theorem dX9_rounds_28 : decode cX9_rounds 28 = .ok (.aload_n 0, 1) := by decide +kernel
theorem dX9_rounds_29 : decode cX9_rounds 29 = .ok (.getfield 42, 3) := by decide +kernel
theorem dX9_rounds_32 : decode cX9_rounds 32 = .ok (.aload_n 0, 1) := by decide +kernel
theorem dX9_rounds_33 : decode cX9_rounds 33 = .ok (.getfield 55, 3) := by decide +kernel
theorem dX9_rounds_36 : decode cX9_rounds 36 = .ok (.iload_n 1, 1) := by decide +kernel
theorem dX9_rounds_37 : decode cX9_rounds 37 = .ok (.aaload, 1) := by decide +kernel
theorem dX9_rounds_38 : decode cX9_rounds 38 = .ok (.invokevirtual 235, 3) := by decide +kernel
theorem dX9_rounds_41 : decode cX9_rounds 41 = .ok (.ifCond .ne 7, 3) := by decide +kernel
theorem dX9_rounds_44 : decode cX9_rounds 44 = .ok (.ldc2_w 184, 3) := by decide +kernel
theorem dX9_rounds_47 : decode cX9_rounds 47 = .ok (.lreturn, 1) := by decide +kernel
theorem dX9_rounds_48 : decode cX9_rounds 48 = .ok (.iload_n 2, 1) := by decide +kernel
theorem dX9_rounds_49 : decode cX9_rounds 49 = .ok (.ifCond .ne 13, 3) := by decide +kernel
theorem dX9_rounds_52 : decode cX9_rounds 52 = .ok (.aload_n 0, 1) := by decide +kernel
theorem dX9_rounds_53 : decode cX9_rounds 53 = .ok (.getfield 42, 3) := by decide +kernel
theorem dX9_rounds_56 : decode cX9_rounds 56 = .ok (.invokevirtual 255, 3) := by decide +kernel
theorem dX9_rounds_59 : decode cX9_rounds 59 = .ok (.goto 11, 3) := by decide +kernel
theorem dX9_rounds_62 : decode cX9_rounds 62 = .ok (.aload_n 0, 1) := by decide +kernel
theorem dX9_rounds_63 : decode cX9_rounds 63 = .ok (.getfield 42, 3) := by decide +kernel
theorem dX9_rounds_66 : decode cX9_rounds 66 = .ok (.invokevirtual 259, 3) := by decide +kernel
theorem dX9_rounds_69 : decode cX9_rounds 69 = .ok (.i2l, 1) := by decide +kernel
theorem dX9_rounds_70 : decode cX9_rounds 70 = .ok (.lreturn, 1) := by decide +kernel
theorem dX9_film_0 : decode cX9_film 0 = .ok (.iload_n 1, 1) := by decide +kernel
theorem dX9_film_1 : decode cX9_film 1 = .ok (.invokestatic 228, 3) := by decide +kernel
theorem dX9_film_4 : decode cX9_film 4 = .ok (.ifCond .eq 24, 3) := by decide +kernel
theorem dX9_film_7 : decode cX9_film 7 = .ok (.aload_n 0, 1) := by decide +kernel
theorem dX9_film_8 : decode cX9_film 8 = .ok (.getfield 12, 3) := by decide +kernel
theorem dX9_film_11 : decode cX9_film 11 = .ok (.iload_n 2, 1) := by decide +kernel
theorem dX9_film_12 : decode cX9_film 12 = .ok (.invokevirtual 100, 3) := by decide +kernel
theorem dX9_film_15 : decode cX9_film 15 = .ok (.ifCond .eq 13, 3) := by decide +kernel
theorem dX9_film_18 : decode cX9_film 18 = .ok (.iload_n 3, 1) := by decide +kernel
theorem dX9_film_19 : decode cX9_film 19 = .ok (.iconst 1, 1) := by decide +kernel
theorem dX9_film_20 : decode cX9_film 20 = .ok (.bipush 20, 2) := by decide +kernel
theorem dX9_film_22 : decode cX9_film 22 = .ok (.invokestatic 119, 3) := by decide +kernel
theorem dX9_film_25 : decode cX9_film 25 = .ok (.ifCond .ne 6, 3) := by decide +kernel
theorem dX9_film_28 : decode cX9_film 28 = .ok (.bipush (-2), 2) := by decide +kernel
theorem dX9_film_30 : decode cX9_film 30 = .ok (.ireturn, 1) := by decide +kernel
theorem dX9_film_31 : decode cX9_film 31 = .ok (.aload_n 0, 1) := by decide +kernel
theorem dX9_film_32 : decode cX9_film 32 = .ok (.getfield 55, 3) := by decide +kernel
theorem dX9_film_35 : decode cX9_film 35 = .ok (.iload_n 1, 1) := by decide +kernel
theorem dX9_film_36 : decode cX9_film 36 = .ok (.aaload, 1) := by decide +kernel
theorem dX9_film_37 : decode cX9_film 37 = .ok (.astore 4, 2) := by decide +kernel
theorem dX9_film_39 : decode cX9_film 39 = .ok (.aload 4, 2) := by decide +kernel
theorem dX9_film_41 : decode cX9_film 41 = .ok (.iconst 1, 1) := by decide +kernel
theorem dX9_film_42 : decode cX9_film 42 = .ok (.iload_n 3, 1) := by decide +kernel
theorem dX9_film_43 : decode cX9_film 43 = .ok (.invokevirtual 262, 3) := by decide +kernel
theorem dX9_film_46 : decode cX9_film 46 = .ok (.aload_n 0, 1) := by decide +kernel
theorem dX9_film_47 : decode cX9_film 47 = .ok (.getfield 12, 3) := by decide +kernel
theorem dX9_film_50 : decode cX9_film 50 = .ok (.getfield 108, 3) := by decide +kernel
theorem dX9_film_53 : decode cX9_film 53 = .ok (.iload_n 2, 1) := by decide +kernel
theorem dX9_film_54 : decode cX9_film 54 = .ok (.aaload, 1) := by decide +kernel
theorem dX9_film_55 : decode cX9_film 55 = .ok (.astore 5, 2) := by decide +kernel
theorem dX9_film_57 : decode cX9_film 57 = .ok (.iconst 0, 1) := by decide +kernel
theorem dX9_film_58 : decode cX9_film 58 = .ok (.istore 6, 2) := by decide +kernel
theorem dX9_film_60 : decode cX9_film 60 = .ok (.aload_n 0, 1) := by decide +kernel
theorem dX9_film_61 : decode cX9_film 61 = .ok (.aload 5, 2) := by decide +kernel
theorem dX9_film_63 : decode cX9_film 63 = .ok (.iconst 0, 1) := by decide +kernel
theorem dX9_film_64 : decode cX9_film 64 = .ok (.invokevirtual 149, 3) := by decide +kernel
theorem dX9_film_67 : decode cX9_film 67 = .ok (.istore 7, 2) := by decide +kernel
theorem dX9_film_69 : decode cX9_film 69 = .ok (.iload 6, 2) := by decide +kernel
theorem dX9_film_71 : decode cX9_film 71 = .ok (.iload_n 3, 1) := by decide +kernel
theorem dX9_film_72 : decode cX9_film 72 = .ok (.if_icmp .ge 36, 3) := by decide +kernel
theorem dX9_film_75 : decode cX9_film 75 = .ok (.iload 7, 2) := by decide +kernel
theorem dX9_film_77 : decode cX9_film 77 = .ok (.iconst (-1), 1) := by decide +kernel
theorem dX9_film_78 : decode cX9_film 78 = .ok (.if_icmp .eq 30, 3) := by decide +kernel
theorem dX9_film_81 : decode cX9_film 81 = .ok (.aload 4, 2) := by decide +kernel
theorem dX9_film_83 : decode cX9_film 83 = .ok (.iload 6, 2) := by decide +kernel
theorem dX9_film_85 : decode cX9_film 85 = .ok (.iload 7, 2) := by decide +kernel
theorem dX9_film_87 : decode cX9_film 87 = .ok (.invokevirtual 264, 3) := by decide +kernel
theorem dX9_film_90 : decode cX9_film 90 = .ok (.iinc 6 1, 3) := by decide +kernel
theorem dX9_film_93 : decode cX9_film 93 = .ok (.aload_n 0, 1) := by decide +kernel
theorem dX9_film_94 : decode cX9_film 94 = .ok (.aload 5, 2) := by decide +kernel
theorem dX9_film_96 : decode cX9_film 96 = .ok (.iload 7, 2) := by decide +kernel
theorem dX9_film_98 : decode cX9_film 98 = .ok (.iconst 1, 1) := by decide +kernel
theorem dX9_film_99 : decode cX9_film 99 = .ok (.iadd, 1) := by decide +kernel
theorem dX9_film_100 : decode cX9_film 100 = .ok (.invokevirtual 149, 3) := by decide +kernel
theorem dX9_film_103 : decode cX9_film 103 = .ok (.istore 7, 2) := by decide +kernel
theorem dX9_film_105 : decode cX9_film 105 = .ok (.goto (-36), 3) := by decide +kernel
theorem dX9_film_108 : decode cX9_film 108 = .ok (.aload 4, 2) := by decide +kernel
theorem dX9_film_110 : decode cX9_film 110 = .ok (.iload 6, 2) := by decide +kernel
theorem dX9_film_112 : decode cX9_film 112 = .ok (.putfield 267, 3) := by decide +kernel
theorem dX9_film_115 : decode cX9_film 115 = .ok (.iload 6, 2) := by decide +kernel
theorem dX9_film_117 : decode cX9_film 117 = .ok (.ireturn, 1) := by decide +kernel
theorem dX9_drawn_0 : decode cX9_drawn 0 = .ok (.aload_n 0, 1) := by decide +kernel
theorem dX9_drawn_1 : decode cX9_drawn 1 = .ok (.getfield 93, 3) := by decide +kernel
theorem dX9_drawn_4 : decode cX9_drawn 4 = .ok (.iload_n 1, 1) := by decide +kernel
theorem dX9_drawn_5 : decode cX9_drawn 5 = .ok (.invokestatic 270, 3) := by decide +kernel
theorem dX9_drawn_8 : decode cX9_drawn 8 = .ok (.invokevirtual 139, 3) := by decide +kernel
theorem dX9_drawn_11 : decode cX9_drawn 11 = .ok (.aload_n 0, 1) := by decide +kernel
theorem dX9_drawn_12 : decode cX9_drawn 12 = .ok (.getfield 93, 3) := by decide +kernel
theorem dX9_drawn_15 : decode cX9_drawn 15 = .ok (.invokevirtual 156, 3) := by decide +kernel
theorem dX9_drawn_18 : decode cX9_drawn 18 = .ok (.ireturn, 1) := by decide +kernel
theorem dX9_chance_0 : decode cX9_chance 0 = .ok (.iload_n 2, 1) := by decide +kernel
theorem dX9_chance_1 : decode cX9_chance 1 = .ok (.iconst 1, 1) := by decide +kernel
theorem dX9_chance_2 : decode cX9_chance 2 = .ok (.bipush 20, 2) := by decide +kernel
theorem dX9_chance_4 : decode cX9_chance 4 = .ok (.invokestatic 119, 3) := by decide +kernel
theorem dX9_chance_7 : decode cX9_chance 7 = .ok (.ifCond .eq 12, 3) := by decide +kernel
theorem dX9_chance_10 : decode cX9_chance 10 = .ok (.iload_n 3, 1) := by decide +kernel
theorem dX9_chance_11 : decode cX9_chance 11 = .ok (.iconst 0, 1) := by decide +kernel
theorem dX9_chance_12 : decode cX9_chance 12 = .ok (.iconst 1, 1) := by decide +kernel
theorem dX9_chance_13 : decode cX9_chance 13 = .ok (.invokestatic 119, 3) := by decide +kernel
theorem dX9_chance_16 : decode cX9_chance 16 = .ok (.ifCond .ne 7, 3) := by decide +kernel
theorem dX9_chance_19 : decode cX9_chance 19 = .ok (.ldc2_w 184, 3) := by decide +kernel
theorem dX9_chance_22 : decode cX9_chance 22 = .ok (.lreturn, 1) := by decide +kernel
theorem dX9_chance_23 : decode cX9_chance 23 = .ok (.iconst 0, 1) := by decide +kernel
theorem dX9_chance_24 : decode cX9_chance 24 = .ok (.istore 4, 2) := by decide +kernel
theorem dX9_chance_26 : decode cX9_chance 26 = .ok (.iconst 0, 1) := by decide +kernel
theorem dX9_chance_27 : decode cX9_chance 27 = .ok (.istore 5, 2) := by decide +kernel
theorem dX9_chance_29 : decode cX9_chance 29 = .ok (.iload 5, 2) := by decide +kernel
theorem dX9_chance_31 : decode cX9_chance 31 = .ok (.iload_n 2, 1) := by decide +kernel
theorem dX9_chance_32 : decode cX9_chance 32 = .ok (.if_icmp .ge 37, 3) := by decide +kernel
theorem dX9_chance_35 : decode cX9_chance 35 = .ok (.aload_n 0, 1) := by decide +kernel
theorem dX9_chance_36 : decode cX9_chance 36 = .ok (.getfield 93, 3) := by decide +kernel
theorem dX9_chance_39 : decode cX9_chance 39 = .ok (.iload_n 1, 1) := by decide +kernel
theorem dX9_chance_40 : decode cX9_chance 40 = .ok (.iload 5, 2) := by decide +kernel
theorem dX9_chance_42 : decode cX9_chance 42 = .ok (.iadd, 1) := by decide +kernel
theorem dX9_chance_43 : decode cX9_chance 43 = .ok (.invokestatic 270, 3) := by decide +kernel
theorem dX9_chance_46 : decode cX9_chance 46 = .ok (.invokevirtual 139, 3) := by decide +kernel
theorem dX9_chance_49 : decode cX9_chance 49 = .ok (.aload_n 0, 1) := by decide +kernel
theorem dX9_chance_50 : decode cX9_chance 50 = .ok (.getfield 93, 3) := by decide +kernel
theorem dX9_chance_53 : decode cX9_chance 53 = .ok (.iconst 2, 1) := by decide +kernel
theorem dX9_chance_54 : decode cX9_chance 54 = .ok (.invokevirtual 159, 3) := by decide +kernel
theorem dX9_chance_57 : decode cX9_chance 57 = .ok (.ifCond .ne 6, 3) := by decide +kernel
theorem dX9_chance_60 : decode cX9_chance 60 = .ok (.iinc 4 1, 3) := by decide +kernel
theorem dX9_chance_63 : decode cX9_chance 63 = .ok (.iinc 5 1, 3) := by decide +kernel
theorem dX9_chance_66 : decode cX9_chance 66 = .ok (.goto (-37), 3) := by decide +kernel
theorem dX9_chance_69 : decode cX9_chance 69 = .ok (.iload 4, 2) := by decide +kernel
theorem dX9_chance_71 : decode cX9_chance 71 = .ok (.i2l, 1) := by decide +kernel
theorem dX9_chance_72 : decode cX9_chance 72 = .ok (.iload_n 2, 1) := by decide +kernel
theorem dX9_chance_73 : decode cX9_chance 73 = .ok (.i2l, 1) := by decide +kernel
theorem dX9_chance_74 : decode cX9_chance 74 = .ok (.iload_n 3, 1) := by decide +kernel
theorem dX9_chance_75 : decode cX9_chance 75 = .ok (.invokestatic 211, 3) := by decide +kernel
theorem dX9_chance_78 : decode cX9_chance 78 = .ok (.lreturn, 1) := by decide +kernel
theorem dX9_drawnHolidays_0 : decode cX9_drawnHolidays 0 = .ok (.iload_n 0, 1) := by decide +kernel
theorem dX9_drawnHolidays_1 : decode cX9_drawnHolidays 1 = .ok (.ldc_w 273, 3) := by decide +kernel
theorem dX9_drawnHolidays_4 : decode cX9_drawnHolidays 4 = .ok (.imul, 1) := by decide +kernel
theorem dX9_drawnHolidays_5 : decode cX9_drawnHolidays 5 = .ok (.sipush 12345, 3) := by decide +kernel
theorem dX9_drawnHolidays_8 : decode cX9_drawnHolidays 8 = .ok (.iadd, 1) := by decide +kernel
theorem dX9_drawnHolidays_9 : decode cX9_drawnHolidays 9 = .ok (.istore_n 1, 1) := by decide +kernel
theorem dX9_drawnHolidays_10 : decode cX9_drawnHolidays 10 = .ok (.iload_n 1, 1) := by decide +kernel
theorem dX9_drawnHolidays_11 : decode cX9_drawnHolidays 11 = .ok (.bipush 9, 2) := by decide +kernel
theorem dX9_drawnHolidays_13 : decode cX9_drawnHolidays 13 = .ok (.iushr, 1) := by decide +kernel
theorem dX9_drawnHolidays_14 : decode cX9_drawnHolidays 14 = .ok (.sipush 128, 3) := by decide +kernel
theorem dX9_drawnHolidays_17 : decode cX9_drawnHolidays 17 = .ok (.irem, 1) := by decide +kernel
theorem dX9_drawnHolidays_18 : decode cX9_drawnHolidays 18 = .ok (.ireturn, 1) := by decide +kernel
theorem dX9_image_0 : decode cX9_image 0 = .ok (.aload_n 0, 1) := by decide +kernel
theorem dX9_image_1 : decode cX9_image 1 = .ok (.getfield 16, 3) := by decide +kernel
theorem dX9_image_4 : decode cX9_image 4 = .ok (.aload_n 0, 1) := by decide +kernel
theorem dX9_image_5 : decode cX9_image 5 = .ok (.getfield 12, 3) := by decide +kernel
theorem dX9_image_8 : decode cX9_image 8 = .ok (.invokevirtual 274, 3) := by decide +kernel
theorem dX9_image_11 : decode cX9_image 11 = .ok (.aload_n 0, 1) := by decide +kernel
theorem dX9_image_12 : decode cX9_image 12 = .ok (.iconst 1, 1) := by decide +kernel
theorem dX9_image_13 : decode cX9_image 13 = .ok (.putfield 277, 3) := by decide +kernel
theorem dX9_image_16 : decode cX9_image 16 = .ok (.aload_n 0, 1) := by decide +kernel
theorem dX9_image_17 : decode cX9_image 17 = .ok (.getfield 16, 3) := by decide +kernel
theorem dX9_image_20 : decode cX9_image 20 = .ok (.getfield 281, 3) := by decide +kernel
theorem dX9_image_23 : decode cX9_image 23 = .ok (.ireturn, 1) := by decide +kernel
theorem dX9_back_0 : decode cX9_back 0 = .ok (.aload_n 0, 1) := by decide +kernel
theorem dX9_back_1 : decode cX9_back 1 = .ok (.getfield 277, 3) := by decide +kernel
theorem dX9_back_4 : decode cX9_back 4 = .ok (.ifCond .ne 6, 3) := by decide +kernel
theorem dX9_back_7 : decode cX9_back 7 = .ok (.bipush (-3), 2) := by decide +kernel
theorem dX9_back_9 : decode cX9_back 9 = .ok (.ireturn, 1) := by decide +kernel
theorem dX9_back_10 : decode cX9_back 10 = .ok (.aload_n 0, 1) := by decide +kernel
theorem dX9_back_11 : decode cX9_back 11 = .ok (.getfield 12, 3) := by decide +kernel
theorem dX9_back_14 : decode cX9_back 14 = .ok (.aload_n 0, 1) := by decide +kernel
theorem dX9_back_15 : decode cX9_back 15 = .ok (.getfield 16, 3) := by decide +kernel
theorem dX9_back_18 : decode cX9_back 18 = .ok (.invokevirtual 274, 3) := by decide +kernel
theorem dX9_back_21 : decode cX9_back 21 = .ok (.aload_n 0, 1) := by decide +kernel
theorem dX9_back_22 : decode cX9_back 22 = .ok (.getfield 12, 3) := by decide +kernel
theorem dX9_back_25 : decode cX9_back 25 = .ok (.getfield 281, 3) := by decide +kernel
theorem dX9_back_28 : decode cX9_back 28 = .ok (.ireturn, 1) := by decide +kernel
theorem dX9_count_0 : decode cX9_count 0 = .ok (.iload_n 1, 1) := by decide +kernel
theorem dX9_count_1 : decode cX9_count 1 = .ok (.tableswitch 72 0 4 #[35, 43, 51, 56, 64], 35) := by decide +kernel
theorem dX9_count_36 : decode cX9_count 36 = .ok (.aload_n 0, 1) := by decide +kernel
theorem dX9_count_37 : decode cX9_count 37 = .ok (.getfield 12, 3) := by decide +kernel
theorem dX9_count_40 : decode cX9_count 40 = .ok (.getfield 281, 3) := by decide +kernel
theorem dX9_count_43 : decode cX9_count 43 = .ok (.ireturn, 1) := by decide +kernel
theorem dX9_count_44 : decode cX9_count 44 = .ok (.aload_n 0, 1) := by decide +kernel
theorem dX9_count_45 : decode cX9_count 45 = .ok (.getfield 12, 3) := by decide +kernel
theorem dX9_count_48 : decode cX9_count 48 = .ok (.getfield 123, 3) := by decide +kernel
theorem dX9_count_51 : decode cX9_count 51 = .ok (.ireturn, 1) := by decide +kernel
theorem dX9_count_52 : decode cX9_count 52 = .ok (.aload_n 0, 1) := by decide +kernel
theorem dX9_count_53 : decode cX9_count 53 = .ok (.getfield 84, 3) := by decide +kernel
theorem dX9_count_56 : decode cX9_count 56 = .ok (.ireturn, 1) := by decide +kernel
theorem dX9_count_57 : decode cX9_count 57 = .ok (.aload_n 0, 1) := by decide +kernel
theorem dX9_count_58 : decode cX9_count 58 = .ok (.getfield 28, 3) := by decide +kernel
theorem dX9_count_61 : decode cX9_count 61 = .ok (.getfield 282, 3) := by decide +kernel
theorem dX9_count_64 : decode cX9_count 64 = .ok (.ireturn, 1) := by decide +kernel
theorem dX9_count_65 : decode cX9_count 65 = .ok (.aload_n 0, 1) := by decide +kernel
theorem dX9_count_66 : decode cX9_count 66 = .ok (.getfield 12, 3) := by decide +kernel
theorem dX9_count_69 : decode cX9_count 69 = .ok (.getfield 129, 3) := by decide +kernel
theorem dX9_count_72 : decode cX9_count 72 = .ok (.ireturn, 1) := by decide +kernel
theorem dX9_count_73 : decode cX9_count 73 = .ok (.bipush (-2), 2) := by decide +kernel
theorem dX9_count_75 : decode cX9_count 75 = .ok (.ireturn, 1) := by decide +kernel
theorem dX9_sheet_0 : decode cX9_sheet 0 = .ok (.iload_n 1, 1) := by decide +kernel
theorem dX9_sheet_1 : decode cX9_sheet 1 = .ok (.invokestatic 228, 3) := by decide +kernel
theorem dX9_sheet_4 : decode cX9_sheet 4 = .ok (.ifCond .eq 12, 3) := by decide +kernel
theorem dX9_sheet_7 : decode cX9_sheet 7 = .ok (.iload_n 2, 1) := by decide +kernel
theorem dX9_sheet_8 : decode cX9_sheet 8 = .ok (.iconst (-1), 1) := by decide +kernel
theorem dX9_sheet_9 : decode cX9_sheet 9 = .ok (.iconst 2, 1) := by decide +kernel
theorem dX9_sheet_10 : decode cX9_sheet 10 = .ok (.invokestatic 119, 3) := by decide +kernel
theorem dX9_sheet_13 : decode cX9_sheet 13 = .ok (.ifCond .ne 6, 3) := by decide +kernel
theorem dX9_sheet_16 : decode cX9_sheet 16 = .ok (.bipush (-2), 2) := by decide +kernel
theorem dX9_sheet_18 : decode cX9_sheet 18 = .ok (.ireturn, 1) := by decide +kernel
theorem dX9_sheet_19 : decode cX9_sheet 19 = .ok (.iload_n 2, 1) := by decide +kernel
theorem dX9_sheet_20 : decode cX9_sheet 20 = .ok (.iconst (-1), 1) := by decide +kernel
theorem dX9_sheet_21 : decode cX9_sheet 21 = .ok (.if_icmp .ne 16, 3) := by decide +kernel
theorem dX9_sheet_24 : decode cX9_sheet 24 = .ok (.aload_n 0, 1) := by decide +kernel
theorem dX9_sheet_25 : decode cX9_sheet 25 = .ok (.getfield 55, 3) := by decide +kernel
theorem dX9_sheet_28 : decode cX9_sheet 28 = .ok (.iload_n 1, 1) := by decide +kernel
theorem dX9_sheet_29 : decode cX9_sheet 29 = .ok (.aaload, 1) := by decide +kernel
theorem dX9_sheet_30 : decode cX9_sheet 30 = .ok (.iconst (-1), 1) := by decide +kernel
theorem dX9_sheet_31 : decode cX9_sheet 31 = .ok (.iconst 0, 1) := by decide +kernel
theorem dX9_sheet_32 : decode cX9_sheet 32 = .ok (.invokevirtual 262, 3) := by decide +kernel
theorem dX9_sheet_35 : decode cX9_sheet 35 = .ok (.iconst 1, 1) := by decide +kernel
theorem dX9_sheet_36 : decode cX9_sheet 36 = .ok (.ireturn, 1) := by decide +kernel
theorem dX9_sheet_37 : decode cX9_sheet 37 = .ok (.iload_n 3, 1) := by decide +kernel
theorem dX9_sheet_38 : decode cX9_sheet 38 = .ok (.bipush 40, 2) := by decide +kernel
theorem dX9_sheet_40 : decode cX9_sheet 40 = .ok (.if_icmp .le 6, 3) := by decide +kernel
theorem dX9_sheet_43 : decode cX9_sheet 43 = .ok (.bipush (-2), 2) := by decide +kernel
theorem dX9_sheet_45 : decode cX9_sheet 45 = .ok (.ireturn, 1) := by decide +kernel
theorem dX9_sheet_46 : decode cX9_sheet 46 = .ok (.iload_n 3, 1) := by decide +kernel
theorem dX9_sheet_47 : decode cX9_sheet 47 = .ok (.ifCond .ge 6, 3) := by decide +kernel
theorem dX9_sheet_50 : decode cX9_sheet 50 = .ok (.bipush (-14), 2) := by decide +kernel
theorem dX9_sheet_52 : decode cX9_sheet 52 = .ok (.ireturn, 1) := by decide +kernel
theorem dX9_sheet_53 : decode cX9_sheet 53 = .ok (.aload_n 0, 1) := by decide +kernel
theorem dX9_sheet_54 : decode cX9_sheet 54 = .ok (.getfield 55, 3) := by decide +kernel
theorem dX9_sheet_57 : decode cX9_sheet 57 = .ok (.iload_n 1, 1) := by decide +kernel
theorem dX9_sheet_58 : decode cX9_sheet 58 = .ok (.aaload, 1) := by decide +kernel
theorem dX9_sheet_59 : decode cX9_sheet 59 = .ok (.iload_n 2, 1) := by decide +kernel
theorem dX9_sheet_60 : decode cX9_sheet 60 = .ok (.iload_n 3, 1) := by decide +kernel
theorem dX9_sheet_61 : decode cX9_sheet 61 = .ok (.invokevirtual 262, 3) := by decide +kernel
theorem dX9_sheet_64 : decode cX9_sheet 64 = .ok (.iconst 1, 1) := by decide +kernel
theorem dX9_sheet_65 : decode cX9_sheet 65 = .ok (.ireturn, 1) := by decide +kernel
theorem dX9_cell_0 : decode cX9_cell 0 = .ok (.iload_n 1, 1) := by decide +kernel
theorem dX9_cell_1 : decode cX9_cell 1 = .ok (.invokestatic 228, 3) := by decide +kernel
theorem dX9_cell_4 : decode cX9_cell 4 = .ok (.ifCond .ne 6, 3) := by decide +kernel
theorem dX9_cell_7 : decode cX9_cell 7 = .ok (.bipush (-2), 2) := by decide +kernel
theorem dX9_cell_9 : decode cX9_cell 9 = .ok (.ireturn, 1) := by decide +kernel
theorem dX9_cell_10 : decode cX9_cell 10 = .ok (.aload_n 0, 1) := by decide +kernel
theorem dX9_cell_11 : decode cX9_cell 11 = .ok (.getfield 55, 3) := by decide +kernel
theorem dX9_cell_14 : decode cX9_cell 14 = .ok (.iload_n 1, 1) := by decide +kernel
theorem dX9_cell_15 : decode cX9_cell 15 = .ok (.aaload, 1) := by decide +kernel
theorem dX9_cell_16 : decode cX9_cell 16 = .ok (.astore 4, 2) := by decide +kernel
theorem dX9_cell_18 : decode cX9_cell 18 = .ok (.aload 4, 2) := by decide +kernel
theorem dX9_cell_20 : decode cX9_cell 20 = .ok (.invokevirtual 231, 3) := by decide +kernel
theorem dX9_cell_23 : decode cX9_cell 23 = .ok (.ifCond .eq 6, 3) := by decide +kernel
theorem dX9_cell_26 : decode cX9_cell 26 = .ok (.bipush (-11), 2) := by decide +kernel
theorem dX9_cell_28 : decode cX9_cell 28 = .ok (.ireturn, 1) := by decide +kernel
theorem dX9_cell_29 : decode cX9_cell 29 = .ok (.aload 4, 2) := by decide +kernel
theorem dX9_cell_31 : decode cX9_cell 31 = .ok (.iload_n 2, 1) := by decide +kernel
theorem dX9_cell_32 : decode cX9_cell 32 = .ok (.iconst 1, 1) := by decide +kernel
theorem dX9_cell_33 : decode cX9_cell 33 = .ok (.invokevirtual 283, 3) := by decide +kernel
theorem dX9_cell_36 : decode cX9_cell 36 = .ok (.ifCond .ne 6, 3) := by decide +kernel
theorem dX9_cell_39 : decode cX9_cell 39 = .ok (.bipush (-12), 2) := by decide +kernel
theorem dX9_cell_41 : decode cX9_cell 41 = .ok (.ireturn, 1) := by decide +kernel
theorem dX9_cell_42 : decode cX9_cell 42 = .ok (.aload 4, 2) := by decide +kernel
theorem dX9_cell_44 : decode cX9_cell 44 = .ok (.iload_n 2, 1) := by decide +kernel
theorem dX9_cell_45 : decode cX9_cell 45 = .ok (.iload_n 3, 1) := by decide +kernel
theorem dX9_cell_46 : decode cX9_cell 46 = .ok (.invokevirtual 264, 3) := by decide +kernel
theorem dX9_cell_49 : decode cX9_cell 49 = .ok (.iconst 1, 1) := by decide +kernel
theorem dX9_cell_50 : decode cX9_cell 50 = .ok (.ireturn, 1) := by decide +kernel
theorem dX9_copy_0 : decode cX9_copy 0 = .ok (.iload_n 1, 1) := by decide +kernel
theorem dX9_copy_1 : decode cX9_copy 1 = .ok (.invokestatic 228, 3) := by decide +kernel
theorem dX9_copy_4 : decode cX9_copy 4 = .ok (.ifCond .eq 10, 3) := by decide +kernel
theorem dX9_copy_7 : decode cX9_copy 7 = .ok (.iload_n 3, 1) := by decide +kernel
theorem dX9_copy_8 : decode cX9_copy 8 = .ok (.invokestatic 228, 3) := by decide +kernel
theorem dX9_copy_11 : decode cX9_copy 11 = .ok (.ifCond .ne 6, 3) := by decide +kernel
theorem dX9_copy_14 : decode cX9_copy 14 = .ok (.bipush (-2), 2) := by decide +kernel
theorem dX9_copy_16 : decode cX9_copy 16 = .ok (.ireturn, 1) := by decide +kernel
theorem dX9_copy_17 : decode cX9_copy 17 = .ok (.aload_n 0, 1) := by decide +kernel
theorem dX9_copy_18 : decode cX9_copy 18 = .ok (.getfield 55, 3) := by decide +kernel
theorem dX9_copy_21 : decode cX9_copy 21 = .ok (.iload_n 1, 1) := by decide +kernel
theorem dX9_copy_22 : decode cX9_copy 22 = .ok (.aaload, 1) := by decide +kernel
theorem dX9_copy_23 : decode cX9_copy 23 = .ok (.astore 6, 2) := by decide +kernel
theorem dX9_copy_25 : decode cX9_copy 25 = .ok (.aload_n 0, 1) := by decide +kernel
theorem dX9_copy_26 : decode cX9_copy 26 = .ok (.getfield 55, 3) := by decide +kernel
theorem dX9_copy_29 : decode cX9_copy 29 = .ok (.iload_n 3, 1) := by decide +kernel
theorem dX9_copy_30 : decode cX9_copy 30 = .ok (.aaload, 1) := by decide +kernel
theorem dX9_copy_31 : decode cX9_copy 31 = .ok (.astore 7, 2) := by decide +kernel
theorem dX9_copy_33 : decode cX9_copy 33 = .ok (.aload 6, 2) := by decide +kernel
theorem dX9_copy_35 : decode cX9_copy 35 = .ok (.invokevirtual 231, 3) := by decide +kernel
theorem dX9_copy_38 : decode cX9_copy 38 = .ok (.ifCond .ne 11, 3) := by decide +kernel
theorem dX9_copy_41 : decode cX9_copy 41 = .ok (.aload 7, 2) := by decide +kernel
theorem dX9_copy_43 : decode cX9_copy 43 = .ok (.invokevirtual 231, 3) := by decide +kernel
theorem dX9_copy_46 : decode cX9_copy 46 = .ok (.ifCond .eq 6, 3) := by decide +kernel
theorem dX9_copy_49 : decode cX9_copy 49 = .ok (.bipush (-11), 2) := by decide +kernel
theorem dX9_copy_51 : decode cX9_copy 51 = .ok (.ireturn, 1) := by decide +kernel
theorem dX9_copy_52 : decode cX9_copy 52 = .ok (.aload 6, 2) := by decide +kernel
theorem dX9_copy_54 : decode cX9_copy 54 = .ok (.getfield 286, 3) := by decide +kernel
theorem dX9_copy_57 : decode cX9_copy 57 = .ok (.aload 7, 2) := by decide +kernel
theorem dX9_copy_59 : decode cX9_copy 59 = .ok (.getfield 286, 3) := by decide +kernel
theorem dX9_copy_62 : decode cX9_copy 62 = .ok (.if_icmp .eq 6, 3) := by decide +kernel
theorem dX9_copy_65 : decode cX9_copy 65 = .ok (.bipush (-13), 2) := by decide +kernel
theorem dX9_copy_67 : decode cX9_copy 67 = .ok (.ireturn, 1) := by decide +kernel
theorem dX9_copy_68 : decode cX9_copy 68 = .ok (.aload 6, 2) := by decide +kernel
theorem dX9_copy_70 : decode cX9_copy 70 = .ok (.iload_n 2, 1) := by decide +kernel
theorem dX9_copy_71 : decode cX9_copy 71 = .ok (.iload 5, 2) := by decide +kernel
theorem dX9_copy_73 : decode cX9_copy 73 = .ok (.invokevirtual 283, 3) := by decide +kernel
theorem dX9_copy_76 : decode cX9_copy 76 = .ok (.ifCond .eq 15, 3) := by decide +kernel
theorem dX9_copy_79 : decode cX9_copy 79 = .ok (.aload 7, 2) := by decide +kernel
theorem dX9_copy_81 : decode cX9_copy 81 = .ok (.iload 4, 2) := by decide +kernel
theorem dX9_copy_83 : decode cX9_copy 83 = .ok (.iload 5, 2) := by decide +kernel
theorem dX9_copy_85 : decode cX9_copy 85 = .ok (.invokevirtual 283, 3) := by decide +kernel
theorem dX9_copy_88 : decode cX9_copy 88 = .ok (.ifCond .ne 6, 3) := by decide +kernel
theorem dX9_copy_91 : decode cX9_copy 91 = .ok (.bipush (-12), 2) := by decide +kernel
theorem dX9_copy_93 : decode cX9_copy 93 = .ok (.ireturn, 1) := by decide +kernel
theorem dX9_copy_94 : decode cX9_copy 94 = .ok (.aload 6, 2) := by decide +kernel
theorem dX9_copy_96 : decode cX9_copy 96 = .ok (.getfield 289, 3) := by decide +kernel
theorem dX9_copy_99 : decode cX9_copy 99 = .ok (.iload_n 2, 1) := by decide +kernel
theorem dX9_copy_100 : decode cX9_copy 100 = .ok (.aload 7, 2) := by decide +kernel
theorem dX9_copy_102 : decode cX9_copy 102 = .ok (.getfield 289, 3) := by decide +kernel
theorem dX9_copy_105 : decode cX9_copy 105 = .ok (.iload 4, 2) := by decide +kernel
theorem dX9_copy_107 : decode cX9_copy 107 = .ok (.iload 5, 2) := by decide +kernel
theorem dX9_copy_109 : decode cX9_copy 109 = .ok (.invokestatic 293, 3) := by decide +kernel
theorem dX9_copy_112 : decode cX9_copy 112 = .ok (.iload 5, 2) := by decide +kernel
theorem dX9_copy_114 : decode cX9_copy 114 = .ok (.ireturn, 1) := by decide +kernel
theorem dX9_things_0 : decode cX9_things 0 = .ok (.iload_n 1, 1) := by decide +kernel
theorem dX9_things_1 : decode cX9_things 1 = .ok (.invokestatic 228, 3) := by decide +kernel
theorem dX9_things_4 : decode cX9_things 4 = .ok (.ifCond .eq 23, 3) := by decide +kernel
theorem dX9_things_7 : decode cX9_things 7 = .ok (.iload_n 2, 1) := by decide +kernel
theorem dX9_things_8 : decode cX9_things 8 = .ok (.iconst 0, 1) := by decide +kernel
theorem dX9_things_9 : decode cX9_things 9 = .ok (.iconst 2, 1) := by decide +kernel
theorem dX9_things_10 : decode cX9_things 10 = .ok (.invokestatic 119, 3) := by decide +kernel
theorem dX9_things_13 : decode cX9_things 13 = .ok (.ifCond .eq 14, 3) := by decide +kernel
theorem dX9_things_16 : decode cX9_things 16 = .ok (.iload 4, 2) := by decide +kernel
theorem dX9_things_18 : decode cX9_things 18 = .ok (.iconst 0, 1) := by decide +kernel
theorem dX9_things_19 : decode cX9_things 19 = .ok (.bipush 6, 2) := by decide +kernel
theorem dX9_things_21 : decode cX9_things 21 = .ok (.invokestatic 119, 3) := by decide +kernel
theorem dX9_things_24 : decode cX9_things 24 = .ok (.ifCond .ne 6, 3) := by decide +kernel
theorem dX9_things_27 : decode cX9_things 27 = .ok (.bipush (-2), 2) := by decide +kernel
theorem dX9_things_29 : decode cX9_things 29 = .ok (.ireturn, 1) := by decide +kernel
theorem dX9_things_30 : decode cX9_things 30 = .ok (.aload_n 0, 1) := by decide +kernel
theorem dX9_things_31 : decode cX9_things 31 = .ok (.getfield 55, 3) := by decide +kernel
theorem dX9_things_34 : decode cX9_things 34 = .ok (.iload_n 1, 1) := by decide +kernel
theorem dX9_things_35 : decode cX9_things 35 = .ok (.aaload, 1) := by decide +kernel
theorem dX9_things_36 : decode cX9_things 36 = .ok (.astore 5, 2) := by decide +kernel
theorem dX9_things_38 : decode cX9_things 38 = .ok (.aload 5, 2) := by decide +kernel
theorem dX9_things_40 : decode cX9_things 40 = .ok (.invokevirtual 231, 3) := by decide +kernel
theorem dX9_things_43 : decode cX9_things 43 = .ok (.ifCond .ne 15, 3) := by decide +kernel
theorem dX9_things_46 : decode cX9_things 46 = .ok (.aload 5, 2) := by decide +kernel
theorem dX9_things_48 : decode cX9_things 48 = .ok (.getfield 286, 3) := by decide +kernel
theorem dX9_things_51 : decode cX9_things 51 = .ok (.iload_n 2, 1) := by decide +kernel
theorem dX9_things_52 : decode cX9_things 52 = .ok (.if_icmp .eq 6, 3) := by decide +kernel
theorem dX9_things_55 : decode cX9_things 55 = .ok (.bipush (-13), 2) := by decide +kernel
theorem dX9_things_57 : decode cX9_things 57 = .ok (.ireturn, 1) := by decide +kernel
theorem dX9_things_58 : decode cX9_things 58 = .ok (.aload 5, 2) := by decide +kernel
theorem dX9_things_60 : decode cX9_things 60 = .ok (.invokevirtual 231, 3) := by decide +kernel
theorem dX9_things_63 : decode cX9_things 63 = .ok (.ifCond .eq 6, 3) := by decide +kernel
theorem dX9_things_66 : decode cX9_things 66 = .ok (.bipush (-11), 2) := by decide +kernel
theorem dX9_things_68 : decode cX9_things 68 = .ok (.ireturn, 1) := by decide +kernel
theorem dX9_things_69 : decode cX9_things 69 = .ok (.iconst 0, 1) := by decide +kernel
theorem dX9_things_70 : decode cX9_things 70 = .ok (.istore 6, 2) := by decide +kernel
theorem dX9_things_72 : decode cX9_things 72 = .ok (.iload_n 3, 1) := by decide +kernel
theorem dX9_things_73 : decode cX9_things 73 = .ok (.istore 7, 2) := by decide +kernel
theorem dX9_things_75 : decode cX9_things 75 = .ok (.iconst 0, 1) := by decide +kernel
theorem dX9_things_76 : decode cX9_things 76 = .ok (.istore 8, 2) := by decide +kernel
theorem dX9_things_78 : decode cX9_things 78 = .ok (.iload 8, 2) := by decide +kernel
theorem dX9_things_80 : decode cX9_things 80 = .ok (.iload 4, 2) := by decide +kernel
theorem dX9_things_82 : decode cX9_things 82 = .ok (.if_icmp .ge 64, 3) := by decide +kernel
theorem dX9_things_85 : decode cX9_things 85 = .ok (.aload 5, 2) := by decide +kernel
theorem dX9_things_87 : decode cX9_things 87 = .ok (.iload 7, 2) := by decide +kernel
theorem dX9_things_89 : decode cX9_things 89 = .ok (.iconst 3, 1) := by decide +kernel
theorem dX9_things_90 : decode cX9_things 90 = .ok (.invokevirtual 283, 3) := by decide +kernel
theorem dX9_things_93 : decode cX9_things 93 = .ok (.ifCond .ne 6, 3) := by decide +kernel
theorem dX9_things_96 : decode cX9_things 96 = .ok (.bipush (-12), 2) := by decide +kernel
theorem dX9_things_98 : decode cX9_things 98 = .ok (.ireturn, 1) := by decide +kernel
theorem dX9_things_99 : decode cX9_things 99 = .ok (.aload_n 0, 1) := by decide +kernel
theorem dX9_things_100 : decode cX9_things 100 = .ok (.aload 5, 2) := by decide +kernel
theorem dX9_things_102 : decode cX9_things 102 = .ok (.getfield 289, 3) := by decide +kernel
theorem dX9_things_105 : decode cX9_things 105 = .ok (.iload 7, 2) := by decide +kernel
theorem dX9_things_107 : decode cX9_things 107 = .ok (.iaload, 1) := by decide +kernel
theorem dX9_things_108 : decode cX9_things 108 = .ok (.aload 5, 2) := by decide +kernel
theorem dX9_things_110 : decode cX9_things 110 = .ok (.getfield 289, 3) := by decide +kernel
theorem dX9_things_113 : decode cX9_things 113 = .ok (.iload 7, 2) := by decide +kernel
theorem dX9_things_115 : decode cX9_things 115 = .ok (.iconst 1, 1) := by decide +kernel
theorem dX9_things_116 : decode cX9_things 116 = .ok (.iadd, 1) := by decide +kernel
theorem dX9_things_117 : decode cX9_things 117 = .ok (.iaload, 1) := by decide +kernel
theorem dX9_things_118 : decode cX9_things 118 = .ok (.aload 5, 2) := by decide +kernel
theorem dX9_things_120 : decode cX9_things 120 = .ok (.getfield 289, 3) := by decide +kernel
theorem dX9_things_123 : decode cX9_things 123 = .ok (.iload 7, 2) := by decide +kernel
theorem dX9_things_125 : decode cX9_things 125 = .ok (.iconst 2, 1) := by decide +kernel
theorem dX9_things_126 : decode cX9_things 126 = .ok (.iadd, 1) := by decide +kernel
theorem dX9_things_127 : decode cX9_things 127 = .ok (.iaload, 1) := by decide +kernel
theorem dX9_things_128 : decode cX9_things 128 = .ok (.invokevirtual 299, 3) := by decide +kernel
theorem dX9_things_131 : decode cX9_things 131 = .ok (.ifCond .lt 6, 3) := by decide +kernel
theorem dX9_things_134 : decode cX9_things 134 = .ok (.iinc 6 1, 3) := by decide +kernel
theorem dX9_things_137 : decode cX9_things 137 = .ok (.iinc 7 3, 3) := by decide +kernel
theorem dX9_things_140 : decode cX9_things 140 = .ok (.iinc 8 1, 3) := by decide +kernel
theorem dX9_things_143 : decode cX9_things 143 = .ok (.goto (-65), 3) := by decide +kernel
theorem dX9_things_146 : decode cX9_things 146 = .ok (.iload 6, 2) := by decide +kernel
theorem dX9_things_148 : decode cX9_things 148 = .ok (.ireturn, 1) := by decide +kernel
theorem dX9_taken_0 : decode cX9_taken 0 = .ok (.iconst 0, 1) := by decide +kernel
theorem dX9_taken_1 : decode cX9_taken 1 = .ok (.iload_n 2, 1) := by decide +kernel
theorem dX9_taken_2 : decode cX9_taken 2 = .ok (.invokestatic 104, 3) := by decide +kernel
theorem dX9_taken_5 : decode cX9_taken 5 = .ok (.ifCond .ne 6, 3) := by decide +kernel
theorem dX9_taken_8 : decode cX9_taken 8 = .ok (.bipush (-2), 2) := by decide +kernel
theorem dX9_taken_10 : decode cX9_taken 10 = .ok (.ireturn, 1) := by decide +kernel
theorem dX9_taken_11 : decode cX9_taken 11 = .ok (.aload_n 0, 1) := by decide +kernel
theorem dX9_taken_12 : decode cX9_taken 12 = .ok (.getfield 12, 3) := by decide +kernel
theorem dX9_taken_15 : decode cX9_taken 15 = .ok (.iload_n 1, 1) := by decide +kernel
theorem dX9_taken_16 : decode cX9_taken 16 = .ok (.invokevirtual 100, 3) := by decide +kernel
theorem dX9_taken_19 : decode cX9_taken 19 = .ok (.ifCond .ne 6, 3) := by decide +kernel
theorem dX9_taken_22 : decode cX9_taken 22 = .ok (.bipush (-11), 2) := by decide +kernel
theorem dX9_taken_24 : decode cX9_taken 24 = .ok (.ireturn, 1) := by decide +kernel
theorem dX9_taken_25 : decode cX9_taken 25 = .ok (.aload_n 0, 1) := by decide +kernel
theorem dX9_taken_26 : decode cX9_taken 26 = .ok (.getfield 12, 3) := by decide +kernel
theorem dX9_taken_29 : decode cX9_taken 29 = .ok (.getfield 108, 3) := by decide +kernel
theorem dX9_taken_32 : decode cX9_taken 32 = .ok (.iload_n 1, 1) := by decide +kernel
theorem dX9_taken_33 : decode cX9_taken 33 = .ok (.aaload, 1) := by decide +kernel
theorem dX9_taken_34 : decode cX9_taken 34 = .ok (.iload_n 2, 1) := by decide +kernel
theorem dX9_taken_35 : decode cX9_taken 35 = .ok (.invokevirtual 303, 3) := by decide +kernel
theorem dX9_taken_38 : decode cX9_taken 38 = .ok (.ifCond .eq 18, 3) := by decide +kernel
theorem dX9_taken_41 : decode cX9_taken 41 = .ok (.aload_n 0, 1) := by decide +kernel
theorem dX9_taken_42 : decode cX9_taken 42 = .ok (.getfield 12, 3) := by decide +kernel
theorem dX9_taken_45 : decode cX9_taken 45 = .ok (.getfield 108, 3) := by decide +kernel
theorem dX9_taken_48 : decode cX9_taken 48 = .ok (.iload_n 1, 1) := by decide +kernel
theorem dX9_taken_49 : decode cX9_taken 49 = .ok (.aaload, 1) := by decide +kernel
theorem dX9_taken_50 : decode cX9_taken 50 = .ok (.getfield 306, 3) := by decide +kernel
theorem dX9_taken_53 : decode cX9_taken 53 = .ok (.goto 5, 3) := by decide +kernel
theorem dX9_taken_56 : decode cX9_taken 56 = .ok (.bipush (-13), 2) := by decide +kernel
theorem dX9_taken_58 : decode cX9_taken 58 = .ok (.ireturn, 1) := by decide +kernel
theorem dX9_within_0 : decode cX9_within 0 = .ok (.iload_n 0, 1) := by decide +kernel
theorem dX9_within_1 : decode cX9_within 1 = .ok (.iload_n 1, 1) := by decide +kernel
theorem dX9_within_2 : decode cX9_within 2 = .ok (.if_icmp .lt 12, 3) := by decide +kernel
theorem dX9_within_5 : decode cX9_within 5 = .ok (.iload_n 0, 1) := by decide +kernel
theorem dX9_within_6 : decode cX9_within 6 = .ok (.iload_n 2, 1) := by decide +kernel
theorem dX9_within_7 : decode cX9_within 7 = .ok (.if_icmp .gt 7, 3) := by decide +kernel
theorem dX9_within_10 : decode cX9_within 10 = .ok (.iconst 1, 1) := by decide +kernel
theorem dX9_within_11 : decode cX9_within 11 = .ok (.goto 4, 3) := by decide +kernel
theorem dX9_within_14 : decode cX9_within 14 = .ok (.iconst 0, 1) := by decide +kernel
theorem dX9_within_15 : decode cX9_within 15 = .ok (.ireturn, 1) := by decide +kernel
theorem dX9_hasBit_0 : decode cX9_hasBit 0 = .ok (.iload_n 0, 1) := by decide +kernel
theorem dX9_hasBit_1 : decode cX9_hasBit 1 = .ok (.iload_n 1, 1) := by decide +kernel
theorem dX9_hasBit_2 : decode cX9_hasBit 2 = .ok (.ishr, 1) := by decide +kernel
theorem dX9_hasBit_3 : decode cX9_hasBit 3 = .ok (.iconst 1, 1) := by decide +kernel
theorem dX9_hasBit_4 : decode cX9_hasBit 4 = .ok (.iand, 1) := by decide +kernel
theorem dX9_hasBit_5 : decode cX9_hasBit 5 = .ok (.ifCond .eq 7, 3) := by decide +kernel
theorem dX9_hasBit_8 : decode cX9_hasBit 8 = .ok (.iconst 1, 1) := by decide +kernel
theorem dX9_hasBit_9 : decode cX9_hasBit 9 = .ok (.goto 4, 3) := by decide +kernel
theorem dX9_hasBit_12 : decode cX9_hasBit 12 = .ok (.iconst 0, 1) := by decide +kernel
theorem dX9_hasBit_13 : decode cX9_hasBit 13 = .ok (.ireturn, 1) := by decide +kernel
theorem dX9_isDay_0 : decode cX9_isDay 0 = .ok (.iload_n 0, 1) := by decide +kernel
theorem dX9_isDay_1 : decode cX9_isDay 1 = .ok (.iconst 0, 1) := by decide +kernel
theorem dX9_isDay_2 : decode cX9_isDay 2 = .ok (.sipush 399, 3) := by decide +kernel
theorem dX9_isDay_5 : decode cX9_isDay 5 = .ok (.invokestatic 119, 3) := by decide +kernel
theorem dX9_isDay_8 : decode cX9_isDay 8 = .ok (.ireturn, 1) := by decide +kernel
theorem dX9_isSheet_0 : decode cX9_isSheet 0 = .ok (.iload_n 0, 1) := by decide +kernel
theorem dX9_isSheet_1 : decode cX9_isSheet 1 = .ok (.iconst 0, 1) := by decide +kernel
theorem dX9_isSheet_2 : decode cX9_isSheet 2 = .ok (.iconst 3, 1) := by decide +kernel
theorem dX9_isSheet_3 : decode cX9_isSheet 3 = .ok (.invokestatic 119, 3) := by decide +kernel
theorem dX9_isSheet_6 : decode cX9_isSheet 6 = .ok (.ireturn, 1) := by decide +kernel
theorem dX9_isHoliday_0 : decode cX9_isHoliday 0 = .ok (.iload_n 1, 1) := by decide +kernel
theorem dX9_isHoliday_1 : decode cX9_isHoliday 1 = .ok (.iload_n 0, 1) := by decide +kernel
theorem dX9_isHoliday_2 : decode cX9_isHoliday 2 = .ok (.bipush 7, 2) := by decide +kernel
theorem dX9_isHoliday_4 : decode cX9_isHoliday 4 = .ok (.irem, 1) := by decide +kernel
theorem dX9_isHoliday_5 : decode cX9_isHoliday 5 = .ok (.invokestatic 195, 3) := by decide +kernel
theorem dX9_isHoliday_8 : decode cX9_isHoliday 8 = .ok (.ireturn, 1) := by decide +kernel
theorem dX9_mayBe_0 : decode cX9_mayBe 0 = .ok (.iload_n 0, 1) := by decide +kernel
theorem dX9_mayBe_1 : decode cX9_mayBe 1 = .ok (.tableswitch 62 0 3 #[31, 38, 46, 54], 31) := by decide +kernel
theorem dX9_mayBe_32 : decode cX9_mayBe 32 = .ok (.iload_n 1, 1) := by decide +kernel
theorem dX9_mayBe_33 : decode cX9_mayBe 33 = .ok (.iconst 0, 1) := by decide +kernel
theorem dX9_mayBe_34 : decode cX9_mayBe 34 = .ok (.iconst 5, 1) := by decide +kernel
theorem dX9_mayBe_35 : decode cX9_mayBe 35 = .ok (.invokestatic 119, 3) := by decide +kernel
theorem dX9_mayBe_38 : decode cX9_mayBe 38 = .ok (.ireturn, 1) := by decide +kernel
theorem dX9_mayBe_39 : decode cX9_mayBe 39 = .ok (.iload_n 1, 1) := by decide +kernel
theorem dX9_mayBe_40 : decode cX9_mayBe 40 = .ok (.iconst 0, 1) := by decide +kernel
theorem dX9_mayBe_41 : decode cX9_mayBe 41 = .ok (.bipush 9, 2) := by decide +kernel
theorem dX9_mayBe_43 : decode cX9_mayBe 43 = .ok (.invokestatic 119, 3) := by decide +kernel
theorem dX9_mayBe_46 : decode cX9_mayBe 46 = .ok (.ireturn, 1) := by decide +kernel
theorem dX9_mayBe_47 : decode cX9_mayBe 47 = .ok (.iload_n 1, 1) := by decide +kernel
theorem dX9_mayBe_48 : decode cX9_mayBe 48 = .ok (.iconst 1, 1) := by decide +kernel
theorem dX9_mayBe_49 : decode cX9_mayBe 49 = .ok (.bipush 60, 2) := by decide +kernel
theorem dX9_mayBe_51 : decode cX9_mayBe 51 = .ok (.invokestatic 119, 3) := by decide +kernel
theorem dX9_mayBe_54 : decode cX9_mayBe 54 = .ok (.ireturn, 1) := by decide +kernel
theorem dX9_mayBe_55 : decode cX9_mayBe 55 = .ok (.iload_n 1, 1) := by decide +kernel
theorem dX9_mayBe_56 : decode cX9_mayBe 56 = .ok (.iconst 0, 1) := by decide +kernel
theorem dX9_mayBe_57 : decode cX9_mayBe 57 = .ok (.bipush 59, 2) := by decide +kernel
theorem dX9_mayBe_59 : decode cX9_mayBe 59 = .ok (.invokestatic 119, 3) := by decide +kernel
theorem dX9_mayBe_62 : decode cX9_mayBe 62 = .ok (.ireturn, 1) := by decide +kernel
theorem dX9_mayBe_63 : decode cX9_mayBe 63 = .ok (.iconst 0, 1) := by decide +kernel
theorem dX9_mayBe_64 : decode cX9_mayBe 64 = .ok (.ireturn, 1) := by decide +kernel
theorem dX9_greatestDivisor_0 : decode cX9_greatestDivisor 0 = .ok (.lload_n 0, 1) := by decide +kernel
theorem dX9_greatestDivisor_1 : decode cX9_greatestDivisor 1 = .ok (.lstore 4, 2) := by decide +kernel
theorem dX9_greatestDivisor_3 : decode cX9_greatestDivisor 3 = .ok (.lload_n 2, 1) := by decide +kernel
theorem dX9_greatestDivisor_4 : decode cX9_greatestDivisor 4 = .ok (.lstore 6, 2) := by decide +kernel
theorem dX9_greatestDivisor_6 : decode cX9_greatestDivisor 6 = .ok (.iconst 0, 1) := by decide +kernel
theorem dX9_greatestDivisor_7 : decode cX9_greatestDivisor 7 = .ok (.istore 8, 2) := by decide +kernel
theorem dX9_greatestDivisor_9 : decode cX9_greatestDivisor 9 = .ok (.iload 8, 2) := by decide +kernel
theorem dX9_greatestDivisor_11 : decode cX9_greatestDivisor 11 = .ok (.sipush 1000, 3) := by decide +kernel
theorem dX9_greatestDivisor_14 : decode cX9_greatestDivisor 14 = .ok (.if_icmp .ge 31, 3) := by decide +kernel
theorem dX9_greatestDivisor_17 : decode cX9_greatestDivisor 17 = .ok (.lload 6, 2) := by decide +kernel
theorem dX9_greatestDivisor_19 : decode cX9_greatestDivisor 19 = .ok (.lconst 0, 1) := by decide +kernel
theorem dX9_greatestDivisor_20 : decode cX9_greatestDivisor 20 = .ok (.lcmp, 1) := by decide +kernel
theorem dX9_greatestDivisor_21 : decode cX9_greatestDivisor 21 = .ok (.ifCond .eq 24, 3) := by decide +kernel
theorem dX9_greatestDivisor_24 : decode cX9_greatestDivisor 24 = .ok (.lload 4, 2) := by decide +kernel
theorem dX9_greatestDivisor_26 : decode cX9_greatestDivisor 26 = .ok (.lload 6, 2) := by decide +kernel
theorem dX9_greatestDivisor_28 : decode cX9_greatestDivisor 28 = .ok (.lrem, 1) := by decide +kernel
theorem dX9_greatestDivisor_29 : decode cX9_greatestDivisor 29 = .ok (.lstore 9, 2) := by decide +kernel
theorem dX9_greatestDivisor_31 : decode cX9_greatestDivisor 31 = .ok (.lload 6, 2) := by decide +kernel
theorem dX9_greatestDivisor_33 : decode cX9_greatestDivisor 33 = .ok (.lstore 4, 2) := by decide +kernel
theorem dX9_greatestDivisor_35 : decode cX9_greatestDivisor 35 = .ok (.lload 9, 2) := by decide +kernel
theorem dX9_greatestDivisor_37 : decode cX9_greatestDivisor 37 = .ok (.lstore 6, 2) := by decide +kernel
theorem dX9_greatestDivisor_39 : decode cX9_greatestDivisor 39 = .ok (.iinc 8 1, 3) := by decide +kernel
theorem dX9_greatestDivisor_42 : decode cX9_greatestDivisor 42 = .ok (.goto (-33), 3) := by decide +kernel
theorem dX9_greatestDivisor_45 : decode cX9_greatestDivisor 45 = .ok (.lload 4, 2) := by decide +kernel
theorem dX9_greatestDivisor_47 : decode cX9_greatestDivisor 47 = .ok (.lreturn, 1) := by decide +kernel
theorem dX9_inLowestTerms_0 : decode cX9_inLowestTerms 0 = .ok (.lload_n 0, 1) := by decide +kernel
theorem dX9_inLowestTerms_1 : decode cX9_inLowestTerms 1 = .ok (.lload_n 2, 1) := by decide +kernel
theorem dX9_inLowestTerms_2 : decode cX9_inLowestTerms 2 = .ok (.invokestatic 309, 3) := by decide +kernel
theorem dX9_inLowestTerms_5 : decode cX9_inLowestTerms 5 = .ok (.lstore 5, 2) := by decide +kernel
theorem dX9_inLowestTerms_7 : decode cX9_inLowestTerms 7 = .ok (.iload 4, 2) := by decide +kernel
theorem dX9_inLowestTerms_9 : decode cX9_inLowestTerms 9 = .ok (.ifCond .ne 7, 3) := by decide +kernel
theorem dX9_inLowestTerms_12 : decode cX9_inLowestTerms 12 = .ok (.lload_n 0, 1) := by decide +kernel
theorem dX9_inLowestTerms_13 : decode cX9_inLowestTerms 13 = .ok (.goto 4, 3) := by decide +kernel
theorem dX9_inLowestTerms_16 : decode cX9_inLowestTerms 16 = .ok (.lload_n 2, 1) := by decide +kernel
theorem dX9_inLowestTerms_17 : decode cX9_inLowestTerms 17 = .ok (.lstore 7, 2) := by decide +kernel
theorem dX9_inLowestTerms_19 : decode cX9_inLowestTerms 19 = .ok (.lload 5, 2) := by decide +kernel
theorem dX9_inLowestTerms_21 : decode cX9_inLowestTerms 21 = .ok (.lconst 0, 1) := by decide +kernel
theorem dX9_inLowestTerms_22 : decode cX9_inLowestTerms 22 = .ok (.lcmp, 1) := by decide +kernel
theorem dX9_inLowestTerms_23 : decode cX9_inLowestTerms 23 = .ok (.ifCond .le 11, 3) := by decide +kernel
theorem dX9_inLowestTerms_26 : decode cX9_inLowestTerms 26 = .ok (.lload 7, 2) := by decide +kernel
theorem dX9_inLowestTerms_28 : decode cX9_inLowestTerms 28 = .ok (.lload 5, 2) := by decide +kernel
theorem dX9_inLowestTerms_30 : decode cX9_inLowestTerms 30 = .ok (.ldiv, 1) := by decide +kernel
theorem dX9_inLowestTerms_31 : decode cX9_inLowestTerms 31 = .ok (.goto 5, 3) := by decide +kernel
theorem dX9_inLowestTerms_34 : decode cX9_inLowestTerms 34 = .ok (.lload 7, 2) := by decide +kernel
theorem dX9_inLowestTerms_36 : decode cX9_inLowestTerms 36 = .ok (.lreturn, 1) := by decide +kernel
theorem dX10_in_0 : decode cX10_in 0 = .ok (.lload_n 0, 1) := by decide +kernel
theorem dX10_in_1 : decode cX10_in 1 = .ok (.lload_n 2, 1) := by decide +kernel
theorem dX10_in_2 : decode cX10_in 2 = .ok (.lcmp, 1) := by decide +kernel
theorem dX10_in_3 : decode cX10_in 3 = .ok (.ifCond .lt 14, 3) := by decide +kernel
theorem dX10_in_6 : decode cX10_in 6 = .ok (.lload_n 0, 1) := by decide +kernel
theorem dX10_in_7 : decode cX10_in 7 = .ok (.lload 4, 2) := by decide +kernel
theorem dX10_in_9 : decode cX10_in 9 = .ok (.lcmp, 1) := by decide +kernel
theorem dX10_in_10 : decode cX10_in 10 = .ok (.ifCond .gt 7, 3) := by decide +kernel
theorem dX10_in_13 : decode cX10_in 13 = .ok (.iconst 1, 1) := by decide +kernel
theorem dX10_in_14 : decode cX10_in 14 = .ok (.goto 4, 3) := by decide +kernel
theorem dX10_in_17 : decode cX10_in 17 = .ok (.iconst 0, 1) := by decide +kernel
theorem dX10_in_18 : decode cX10_in 18 = .ok (.ireturn, 1) := by decide +kernel
theorem dX10_within_0 : decode cX10_within 0 = .ok (.iload_n 0, 1) := by decide +kernel
theorem dX10_within_1 : decode cX10_within 1 = .ok (.iload_n 1, 1) := by decide +kernel
theorem dX10_within_2 : decode cX10_within 2 = .ok (.if_icmp .ge 7, 3) := by decide +kernel
theorem dX10_within_5 : decode cX10_within 5 = .ok (.iload_n 1, 1) := by decide +kernel
theorem dX10_within_6 : decode cX10_within 6 = .ok (.goto 13, 3) := by decide +kernel
theorem dX10_within_9 : decode cX10_within 9 = .ok (.iload_n 0, 1) := by decide +kernel
theorem dX10_within_10 : decode cX10_within 10 = .ok (.iload_n 2, 1) := by decide +kernel
theorem dX10_within_11 : decode cX10_within 11 = .ok (.if_icmp .le 7, 3) := by decide +kernel
theorem dX10_within_14 : decode cX10_within 14 = .ok (.iload_n 2, 1) := by decide +kernel
theorem dX10_within_15 : decode cX10_within 15 = .ok (.goto 4, 3) := by decide +kernel
theorem dX10_within_18 : decode cX10_within 18 = .ok (.iload_n 0, 1) := by decide +kernel
theorem dX10_within_19 : decode cX10_within 19 = .ok (.ireturn, 1) := by decide +kernel
theorem dX10_bitsOf_0 : decode cX10_bitsOf 0 = .ok (.iconst 0, 1) := by decide +kernel
theorem dX10_bitsOf_1 : decode cX10_bitsOf 1 = .ok (.istore_n 1, 1) := by decide +kernel
theorem dX10_bitsOf_2 : decode cX10_bitsOf 2 = .ok (.iload_n 0, 1) := by decide +kernel
theorem dX10_bitsOf_3 : decode cX10_bitsOf 3 = .ok (.istore_n 2, 1) := by decide +kernel
theorem dX10_bitsOf_4 : decode cX10_bitsOf 4 = .ok (.iload_n 2, 1) := by decide +kernel
theorem dX10_bitsOf_5 : decode cX10_bitsOf 5 = .ok (.ifCond .eq 15, 3) := by decide +kernel
theorem dX10_bitsOf_8 : decode cX10_bitsOf 8 = .ok (.iinc 1 1, 3) := by decide +kernel
theorem dX10_bitsOf_11 : decode cX10_bitsOf 11 = .ok (.iload_n 2, 1) := by decide +kernel
theorem dX10_bitsOf_12 : decode cX10_bitsOf 12 = .ok (.iload_n 2, 1) := by decide +kernel
theorem dX10_bitsOf_13 : decode cX10_bitsOf 13 = .ok (.iconst 1, 1) := by decide +kernel
theorem dX10_bitsOf_14 : decode cX10_bitsOf 14 = .ok (.isub, 1) := by decide +kernel
theorem dX10_bitsOf_15 : decode cX10_bitsOf 15 = .ok (.iand, 1) := by decide +kernel
theorem dX10_bitsOf_16 : decode cX10_bitsOf 16 = .ok (.istore_n 2, 1) := by decide +kernel
theorem dX10_bitsOf_17 : decode cX10_bitsOf 17 = .ok (.goto (-13), 3) := by decide +kernel
theorem dX10_bitsOf_20 : decode cX10_bitsOf 20 = .ok (.iload_n 1, 1) := by decide +kernel
theorem dX10_bitsOf_21 : decode cX10_bitsOf 21 = .ok (.ireturn, 1) := by decide +kernel
theorem dX10_init_0 : decode cX10_init 0 = .ok (.aload_n 0, 1) := by decide +kernel
theorem dX10_init_1 : decode cX10_init 1 = .ok (.invokespecial 7, 3) := by decide +kernel
theorem dX10_init_4 : decode cX10_init 4 = .ok (.aload_n 0, 1) := by decide +kernel
theorem dX10_init_5 : decode cX10_init 5 = .ok (.sipush 960, 3) := by decide +kernel
theorem dX10_init_8 : decode cX10_init 8 = .ok (.newarray .int, 2) := by decide +kernel
theorem dX10_init_10 : decode cX10_init 10 = .ok (.putfield 13, 3) := by decide +kernel
theorem dX10_init_13 : decode cX10_init 13 = .ok (.aload_n 0, 1) := by decide +kernel
theorem dX10_init_14 : decode cX10_init 14 = .ok (.bipush 6, 2) := by decide +kernel
theorem dX10_init_16 : decode cX10_init 16 = .ok (.newarray .int, 2) := by decide +kernel
theorem dX10_init_18 : decode cX10_init 18 = .ok (.putfield 17, 3) := by decide +kernel
theorem dX10_init_21 : decode cX10_init 21 = .ok (.aload_n 0, 1) := by decide +kernel
theorem dX10_init_22 : decode cX10_init 22 = .ok (.sipush 160, 3) := by decide +kernel
theorem dX10_init_25 : decode cX10_init 25 = .ok (.newarray .int, 2) := by decide +kernel
theorem dX10_init_27 : decode cX10_init 27 = .ok (.putfield 20, 3) := by decide +kernel
theorem dX10_init_30 : decode cX10_init 30 = .ok (.aload_n 0, 1) := by decide +kernel
theorem dX10_init_31 : decode cX10_init 31 = .ok (.bipush 6, 2) := by decide +kernel
theorem dX10_init_33 : decode cX10_init 33 = .ok (.newarray .int, 2) := by decide +kernel
theorem dX10_init_35 : decode cX10_init 35 = .ok (.putfield 23, 3) := by decide +kernel
theorem dX10_init_38 : decode cX10_init 38 = .ok (.aload_n 0, 1) := by decide +kernel
theorem dX10_init_39 : decode cX10_init 39 = .ok (.bipush 6, 2) := by decide +kernel
theorem dX10_init_41 : decode cX10_init 41 = .ok (.newarray .int, 2) := by decide +kernel
theorem dX10_init_43 : decode cX10_init 43 = .ok (.putfield 26, 3) := by decide +kernel
theorem dX10_init_46 : decode cX10_init 46 = .ok (.aload_n 0, 1) := by decide +kernel
theorem dX10_init_47 : decode cX10_init 47 = .ok (.bipush 6, 2) := by decide +kernel
theorem dX10_init_49 : decode cX10_init 49 = .ok (.newarray .int, 2) := by decide +kernel
theorem dX10_init_51 : decode cX10_init 51 = .ok (.putfield 29, 3) := by decide +kernel
theorem dX10_init_54 : decode cX10_init 54 = .ok (.aload_n 0, 1) := by decide +kernel
theorem dX10_init_55 : decode cX10_init 55 = .ok (.bipush 6, 2) := by decide +kernel
theorem dX10_init_57 : decode cX10_init 57 = .ok (.newarray .int, 2) := by decide +kernel
theorem dX10_init_59 : decode cX10_init 59 = .ok (.putfield 32, 3) := by decide +kernel
theorem dX10_init_62 : decode cX10_init 62 = .ok (.aload_n 0, 1) := by decide +kernel
theorem dX10_init_63 : decode cX10_init 63 = .ok (.sipush 400, 3) := by decide +kernel
theorem dX10_init_66 : decode cX10_init 66 = .ok (.newarray .int, 2) := by decide +kernel
theorem dX10_init_68 : decode cX10_init 68 = .ok (.putfield 35, 3) := by decide +kernel
theorem dX10_init_71 : decode cX10_init 71 = .ok (.aload_n 0, 1) := by decide +kernel
theorem dX10_init_72 : decode cX10_init 72 = .ok (.sipush 400, 3) := by decide +kernel
theorem dX10_init_75 : decode cX10_init 75 = .ok (.newarray .int, 2) := by decide +kernel
theorem dX10_init_77 : decode cX10_init 77 = .ok (.putfield 38, 3) := by decide +kernel
theorem dX10_init_80 : decode cX10_init 80 = .ok (.aload_n 0, 1) := by decide +kernel
theorem dX10_init_81 : decode cX10_init 81 = .ok (.sipush 400, 3) := by decide +kernel
theorem dX10_init_84 : decode cX10_init 84 = .ok (.newarray .int, 2) := by decide +kernel
theorem dX10_init_86 : decode cX10_init 86 = .ok (.putfield 41, 3) := by decide +kernel
theorem dX10_init_89 : decode cX10_init 89 = .ok (.aload_n 0, 1) := by decide +kernel
theorem dX10_init_90 : decode cX10_init 90 = .ok (.sipush 400, 3) := by decide +kernel
theorem dX10_init_93 : decode cX10_init 93 = .ok (.newarray .boolean, 2) := by decide +kernel
theorem dX10_init_95 : decode cX10_init 95 = .ok (.putfield 44, 3) := by decide +kernel
theorem dX10_init_98 : decode cX10_init 98 = .ok (.aload_n 0, 1) := by decide +kernel
theorem dX10_init_99 : decode cX10_init 99 = .ok (.bipush 18, 2) := by decide +kernel
theorem dX10_init_101 : decode cX10_init 101 = .ok (.newarray .int, 2) := by decide +kernel
theorem dX10_init_103 : decode cX10_init 103 = .ok (.putfield 48, 3) := by decide +kernel
theorem dX10_init_106 : decode cX10_init 106 = .ok (.aload_n 0, 1) := by decide +kernel
theorem dX10_init_107 : decode cX10_init 107 = .ok (.iconst (-1), 1) := by decide +kernel
theorem dX10_init_108 : decode cX10_init 108 = .ok (.putfield 51, 3) := by decide +kernel
theorem dX10_init_111 : decode cX10_init 111 = .ok (.aload_n 0, 1) := by decide +kernel
theorem dX10_init_112 : decode cX10_init 112 = .ok (.iconst 4, 1) := by decide +kernel
theorem dX10_init_113 : decode cX10_init 113 = .ok (.newarray .boolean, 2) := by decide +kernel
theorem dX10_init_115 : decode cX10_init 115 = .ok (.putfield 54, 3) := by decide +kernel
theorem dX10_init_118 : decode cX10_init 118 = .ok (.aload_n 0, 1) := by decide +kernel
theorem dX10_init_119 : decode cX10_init 119 = .ok (.iconst 4, 1) := by decide +kernel
theorem dX10_init_120 : decode cX10_init 120 = .ok (.newarray .int, 2) := by decide +kernel
theorem dX10_init_122 : decode cX10_init 122 = .ok (.putfield 57, 3) := by decide +kernel
theorem dX10_init_125 : decode cX10_init 125 = .ok (.aload_n 0, 1) := by decide +kernel
theorem dX10_init_126 : decode cX10_init 126 = .ok (.iconst 4, 1) := by decide +kernel
theorem dX10_init_127 : decode cX10_init 127 = .ok (.newarray .int, 2) := by decide +kernel
theorem dX10_init_129 : decode cX10_init 129 = .ok (.putfield 60, 3) := by decide +kernel
theorem dX10_init_132 : decode cX10_init 132 = .ok (.aload_n 0, 1) := by decide +kernel
theorem dX10_init_133 : decode cX10_init 133 = .ok (.sipush 160, 3) := by decide +kernel
theorem dX10_init_136 : decode cX10_init 136 = .ok (.newarray .int, 2) := by decide +kernel
theorem dX10_init_138 : decode cX10_init 138 = .ok (.putfield 63, 3) := by decide +kernel
theorem dX10_init_141 : decode cX10_init 141 = .ok (.aload_n 0, 1) := by decide +kernel
theorem dX10_init_142 : decode cX10_init 142 = .ok (.iconst 0, 1) := by decide +kernel
theorem dX10_init_143 : decode cX10_init 143 = .ok (.bipush 99, 2) := by decide +kernel
theorem dX10_init_145 : decode cX10_init 145 = .ok (.bipush 111, 2) := by decide +kernel
theorem dX10_init_147 : decode cX10_init 147 = .ok (.bipush 115, 2) := by decide +kernel
theorem dX10_init_149 : decode cX10_init 149 = .ok (.bipush 116, 2) := by decide +kernel
theorem dX10_init_151 : decode cX10_init 151 = .ok (.bipush 115, 2) := by decide +kernel
theorem dX10_init_153 : decode cX10_init 153 = .ok (.bipush 32, 2) := by decide +kernel
theorem dX10_init_155 : decode cX10_init 155 = .ok (.bipush 49, 2) := by decide +kernel
theorem dX10_init_157 : decode cX10_init 157 = .ok (.bipush 32, 2) := by decide +kernel
theorem dX10_init_159 : decode cX10_init 159 = .ok (.invokevirtual 66, 3) := by decide +kernel
theorem dX10_init_162 : decode cX10_init 162 = .ok (.aload_n 0, 1) := by decide +kernel
theorem dX10_init_163 : decode cX10_init 163 = .ok (.bipush 8, 2) := by decide +kernel
theorem dX10_init_165 : decode cX10_init 165 = .ok (.bipush 59, 2) := by decide +kernel
theorem dX10_init_167 : decode cX10_init 167 = .ok (.bipush 32, 2) := by decide +kernel
theorem dX10_init_169 : decode cX10_init 169 = .ok (.bipush 99, 2) := by decide +kernel
theorem dX10_init_171 : decode cX10_init 171 = .ok (.bipush 114, 2) := by decide +kernel
theorem dX10_init_173 : decode cX10_init 173 = .ok (.bipush 111, 2) := by decide +kernel
theorem dX10_init_175 : decode cX10_init 175 = .ok (.bipush 119, 2) := by decide +kernel
theorem dX10_init_177 : decode cX10_init 177 = .ok (.bipush 100, 2) := by decide +kernel
theorem dX10_init_179 : decode cX10_init 179 = .ok (.bipush 115, 2) := by decide +kernel
theorem dX10_init_181 : decode cX10_init 181 = .ok (.invokevirtual 66, 3) := by decide +kernel
theorem dX10_init_184 : decode cX10_init 184 = .ok (.aload_n 0, 1) := by decide +kernel
theorem dX10_init_185 : decode cX10_init 185 = .ok (.bipush 16, 2) := by decide +kernel
theorem dX10_init_187 : decode cX10_init 187 = .ok (.bipush 32, 2) := by decide +kernel
theorem dX10_init_189 : decode cX10_init 189 = .ok (.bipush 109, 2) := by decide +kernel
theorem dX10_init_191 : decode cX10_init 191 = .ok (.bipush 97, 2) := by decide +kernel
theorem dX10_init_193 : decode cX10_init 193 = .ok (.bipush 110, 2) := by decide +kernel
theorem dX10_init_195 : decode cX10_init 195 = .ok (.bipush 121, 2) := by decide +kernel
theorem dX10_init_197 : decode cX10_init 197 = .ok (.bipush 32, 2) := by decide +kernel
theorem dX10_init_199 : decode cX10_init 199 = .ok (.bipush 42, 2) := by decide +kernel
theorem dX10_init_201 : decode cX10_init 201 = .ok (.bipush 32, 2) := by decide +kernel
theorem dX10_init_203 : decode cX10_init 203 = .ok (.invokevirtual 66, 3) := by decide +kernel
theorem dX10_init_206 : decode cX10_init 206 = .ok (.aload_n 0, 1) := by decide +kernel
theorem dX10_init_207 : decode cX10_init 207 = .ok (.bipush 24, 2) := by decide +kernel
theorem dX10_init_209 : decode cX10_init 209 = .ok (.bipush 109, 2) := by decide +kernel
theorem dX10_init_211 : decode cX10_init 211 = .ok (.bipush 97, 2) := by decide +kernel
theorem dX10_init_213 : decode cX10_init 213 = .ok (.bipush 110, 2) := by decide +kernel
theorem dX10_init_215 : decode cX10_init 215 = .ok (.bipush 121, 2) := by decide +kernel
theorem dX10_init_217 : decode cX10_init 217 = .ok (.bipush 32, 2) := by decide +kernel
theorem dX10_init_219 : decode cX10_init 219 = .ok (.bipush 59, 2) := by decide +kernel
theorem dX10_init_221 : decode cX10_init 221 = .ok (.bipush 32, 2) := by decide +kernel
theorem dX10_init_223 : decode cX10_init 223 = .ok (.bipush 109, 2) := by decide +kernel
theorem dX10_init_225 : decode cX10_init 225 = .ok (.invokevirtual 66, 3) := by decide +kernel
theorem dX10_init_228 : decode cX10_init 228 = .ok (.aload_n 0, 1) := by decide +kernel
theorem dX10_init_229 : decode cX10_init 229 = .ok (.bipush 32, 2) := by decide +kernel
theorem dX10_init_231 : decode cX10_init 231 = .ok (.bipush 105, 2) := by decide +kernel
theorem dX10_init_233 : decode cX10_init 233 = .ok (.bipush 110, 2) := by decide +kernel
theorem dX10_init_235 : decode cX10_init 235 = .ok (.bipush 100, 2) := by decide +kernel
theorem dX10_init_237 : decode cX10_init 237 = .ok (.bipush 115, 2) := by decide +kernel
theorem dX10_init_239 : decode cX10_init 239 = .ok (.bipush 32, 2) := by decide +kernel
theorem dX10_init_241 : decode cX10_init 241 = .ok (.bipush 114, 2) := by decide +kernel
theorem dX10_init_243 : decode cX10_init 243 = .ok (.bipush 101, 2) := by decide +kernel
theorem dX10_init_245 : decode cX10_init 245 = .ok (.bipush 115, 2) := by decide +kernel
theorem dX10_init_247 : decode cX10_init 247 = .ok (.invokevirtual 66, 3) := by decide +kernel
theorem dX10_init_250 : decode cX10_init 250 = .ok (.aload_n 0, 1) := by decide +kernel
theorem dX10_init_251 : decode cX10_init 251 = .ok (.bipush 40, 2) := by decide +kernel
theorem dX10_init_253 : decode cX10_init 253 = .ok (.bipush 116, 2) := by decide +kernel
theorem dX10_init_255 : decode cX10_init 255 = .ok (.bipush 32, 2) := by decide +kernel
theorem dX10_init_257 : decode cX10_init 257 = .ok (.bipush 59, 2) := by decide +kernel
theorem dX10_init_259 : decode cX10_init 259 = .ok (.bipush 32, 2) := by decide +kernel
theorem dX10_init_261 : decode cX10_init 261 = .ok (.bipush 32, 2) := by decide +kernel
theorem dX10_init_263 : decode cX10_init 263 = .ok (.bipush 32, 2) := by decide +kernel
theorem dX10_init_265 : decode cX10_init 265 = .ok (.bipush 32, 2) := by decide +kernel
theorem dX10_init_267 : decode cX10_init 267 = .ok (.bipush 32, 2) := by decide +kernel
theorem dX10_init_269 : decode cX10_init 269 = .ok (.invokevirtual 66, 3) := by decide +kernel
theorem dX10_init_272 : decode cX10_init 272 = .ok (.aload_n 0, 1) := by decide +kernel
theorem dX10_init_273 : decode cX10_init 273 = .ok (.getfield 17, 3) := by decide +kernel
theorem dX10_init_276 : decode cX10_init 276 = .ok (.iconst 0, 1) := by decide +kernel
theorem dX10_init_277 : decode cX10_init 277 = .ok (.bipush 48, 2) := by decide +kernel
theorem dX10_init_279 : decode cX10_init 279 = .ok (.iastore, 1) := by decide +kernel
theorem dX10_init_280 : decode cX10_init 280 = .ok (.aload_n 0, 1) := by decide +kernel
theorem dX10_init_281 : decode cX10_init 281 = .ok (.iconst 1, 1) := by decide +kernel
theorem dX10_init_282 : decode cX10_init 282 = .ok (.putfield 70, 3) := by decide +kernel
theorem dX10_init_285 : decode cX10_init 285 = .ok (.return_, 1) := by decide +kernel
theorem dX10_spell_0 : decode cX10_spell 0 = .ok (.aload_n 0, 1) := by decide +kernel
theorem dX10_spell_1 : decode cX10_spell 1 = .ok (.getfield 13, 3) := by decide +kernel
theorem dX10_spell_4 : decode cX10_spell 4 = .ok (.iload_n 1, 1) := by decide +kernel
theorem dX10_spell_5 : decode cX10_spell 5 = .ok (.iload_n 2, 1) := by decide +kernel
theorem dX10_spell_6 : decode cX10_spell 6 = .ok (.iastore, 1) := by decide +kernel
theorem dX10_spell_7 : decode cX10_spell 7 = .ok (.aload_n 0, 1) := by decide +kernel
theorem dX10_spell_8 : decode cX10_spell 8 = .ok (.getfield 13, 3) := by decide +kernel
theorem dX10_spell_11 : decode cX10_spell 11 = .ok (.iload_n 1, 1) := by decide +kernel
theorem dX10_spell_12 : decode cX10_spell 12 = .ok (.iconst 1, 1) := by decide +kernel
theorem dX10_spell_13 : decode cX10_spell 13 = .ok (.iadd, 1) := by decide +kernel
theorem dX10_spell_14 : decode cX10_spell 14 = .ok (.iload_n 3, 1) := by decide +kernel
theorem dX10_spell_15 : decode cX10_spell 15 = .ok (.iastore, 1) := by decide +kernel
theorem dX10_spell_16 : decode cX10_spell 16 = .ok (.aload_n 0, 1) := by decide +kernel
theorem dX10_spell_17 : decode cX10_spell 17 = .ok (.getfield 13, 3) := by decide +kernel
theorem dX10_spell_20 : decode cX10_spell 20 = .ok (.iload_n 1, 1) := by decide +kernel
theorem dX10_spell_21 : decode cX10_spell 21 = .ok (.iconst 2, 1) := by decide +kernel
theorem dX10_spell_22 : decode cX10_spell 22 = .ok (.iadd, 1) := by decide +kernel
theorem dX10_spell_23 : decode cX10_spell 23 = .ok (.iload 4, 2) := by decide +kernel
theorem dX10_spell_25 : decode cX10_spell 25 = .ok (.iastore, 1) := by decide +kernel
theorem dX10_spell_26 : decode cX10_spell 26 = .ok (.aload_n 0, 1) := by decide +kernel
theorem dX10_spell_27 : decode cX10_spell 27 = .ok (.getfield 13, 3) := by decide +kernel
theorem dX10_spell_30 : decode cX10_spell 30 = .ok (.iload_n 1, 1) := by decide +kernel
theorem dX10_spell_31 : decode cX10_spell 31 = .ok (.iconst 3, 1) := by decide +kernel
theorem dX10_spell_32 : decode cX10_spell 32 = .ok (.iadd, 1) := by decide +kernel
theorem dX10_spell_33 : decode cX10_spell 33 = .ok (.iload 5, 2) := by decide +kernel
theorem dX10_spell_35 : decode cX10_spell 35 = .ok (.iastore, 1) := by decide +kernel
theorem dX10_spell_36 : decode cX10_spell 36 = .ok (.aload_n 0, 1) := by decide +kernel
theorem dX10_spell_37 : decode cX10_spell 37 = .ok (.getfield 13, 3) := by decide +kernel
theorem dX10_spell_40 : decode cX10_spell 40 = .ok (.iload_n 1, 1) := by decide +kernel
theorem dX10_spell_41 : decode cX10_spell 41 = .ok (.iconst 4, 1) := by decide +kernel
theorem dX10_spell_42 : decode cX10_spell 42 = .ok (.iadd, 1) := by decide +kernel
theorem dX10_spell_43 : decode cX10_spell 43 = .ok (.iload 6, 2) := by decide +kernel
theorem dX10_spell_45 : decode cX10_spell 45 = .ok (.iastore, 1) := by decide +kernel
theorem dX10_spell_46 : decode cX10_spell 46 = .ok (.aload_n 0, 1) := by decide +kernel
theorem dX10_spell_47 : decode cX10_spell 47 = .ok (.getfield 13, 3) := by decide +kernel
theorem dX10_spell_50 : decode cX10_spell 50 = .ok (.iload_n 1, 1) := by decide +kernel
theorem dX10_spell_51 : decode cX10_spell 51 = .ok (.iconst 5, 1) := by decide +kernel
theorem dX10_spell_52 : decode cX10_spell 52 = .ok (.iadd, 1) := by decide +kernel
theorem dX10_spell_53 : decode cX10_spell 53 = .ok (.iload 7, 2) := by decide +kernel
theorem dX10_spell_55 : decode cX10_spell 55 = .ok (.iastore, 1) := by decide +kernel
theorem dX10_spell_56 : decode cX10_spell 56 = .ok (.aload_n 0, 1) := by decide +kernel
theorem dX10_spell_57 : decode cX10_spell 57 = .ok (.getfield 13, 3) := by decide +kernel
theorem dX10_spell_60 : decode cX10_spell 60 = .ok (.iload_n 1, 1) := by decide +kernel
theorem dX10_spell_61 : decode cX10_spell 61 = .ok (.bipush 6, 2) := by decide +kernel
theorem dX10_spell_63 : decode cX10_spell 63 = .ok (.iadd, 1) := by decide +kernel
theorem dX10_spell_64 : decode cX10_spell 64 = .ok (.iload 8, 2) := by decide +kernel
theorem dX10_spell_66 : decode cX10_spell 66 = .ok (.iastore, 1) := by decide +kernel
theorem dX10_spell_67 : decode cX10_spell 67 = .ok (.aload_n 0, 1) := by decide +kernel
theorem dX10_spell_68 : decode cX10_spell 68 = .ok (.getfield 13, 3) := by decide +kernel
theorem dX10_spell_71 : decode cX10_spell 71 = .ok (.iload_n 1, 1) := by decide +kernel
theorem dX10_spell_72 : decode cX10_spell 72 = .ok (.bipush 7, 2) := by decide +kernel
theorem dX10_spell_74 : decode cX10_spell 74 = .ok (.iadd, 1) := by decide +kernel
theorem dX10_spell_75 : decode cX10_spell 75 = .ok (.iload 9, 2) := by decide +kernel
theorem dX10_spell_77 : decode cX10_spell 77 = .ok (.iastore, 1) := by decide +kernel
theorem dX10_spell_78 : decode cX10_spell 78 = .ok (.return_, 1) := by decide +kernel
theorem dX10_isThing_0 : decode cX10_isThing 0 = .ok (.iload_n 1, 1) := by decide +kernel
theorem dX10_isThing_1 : decode cX10_isThing 1 = .ok (.i2l, 1) := by decide +kernel
theorem dX10_isThing_2 : decode cX10_isThing 2 = .ok (.lconst 0, 1) := by decide +kernel
theorem dX10_isThing_3 : decode cX10_isThing 3 = .ok (.aload_n 0, 1) := by decide +kernel
theorem dX10_isThing_4 : decode cX10_isThing 4 = .ok (.getfield 73, 3) := by decide +kernel
theorem dX10_isThing_7 : decode cX10_isThing 7 = .ok (.iconst 1, 1) := by decide +kernel
theorem dX10_isThing_8 : decode cX10_isThing 8 = .ok (.isub, 1) := by decide +kernel
theorem dX10_isThing_9 : decode cX10_isThing 9 = .ok (.i2l, 1) := by decide +kernel
theorem dX10_isThing_10 : decode cX10_isThing 10 = .ok (.invokestatic 76, 3) := by decide +kernel
theorem dX10_isThing_13 : decode cX10_isThing 13 = .ok (.ireturn, 1) := by decide +kernel
theorem dX10_isDay_0 : decode cX10_isDay 0 = .ok (.iload_n 0, 1) := by decide +kernel
theorem dX10_isDay_1 : decode cX10_isDay 1 = .ok (.i2l, 1) := by decide +kernel
theorem dX10_isDay_2 : decode cX10_isDay 2 = .ok (.lconst 0, 1) := by decide +kernel
theorem dX10_isDay_3 : decode cX10_isDay 3 = .ok (.ldc2_w 80, 3) := by decide +kernel
theorem dX10_isDay_6 : decode cX10_isDay 6 = .ok (.invokestatic 76, 3) := by decide +kernel
theorem dX10_isDay_9 : decode cX10_isDay 9 = .ok (.ireturn, 1) := by decide +kernel
theorem dX10_allThings_0 : decode cX10_allThings 0 = .ok (.iconst 1, 1) := by decide +kernel
theorem dX10_allThings_1 : decode cX10_allThings 1 = .ok (.aload_n 0, 1) := by decide +kernel
theorem dX10_allThings_2 : decode cX10_allThings 2 = .ok (.getfield 73, 3) := by decide +kernel
theorem dX10_allThings_5 : decode cX10_allThings 5 = .ok (.ishl, 1) := by decide +kernel
theorem dX10_allThings_6 : decode cX10_allThings 6 = .ok (.iconst 1, 1) := by decide +kernel
theorem dX10_allThings_7 : decode cX10_allThings 7 = .ok (.isub, 1) := by decide +kernel
theorem dX10_allThings_8 : decode cX10_allThings 8 = .ok (.ireturn, 1) := by decide +kernel
theorem dX10_set_0 : decode cX10_set 0 = .ok (.iload_n 1, 1) := by decide +kernel
theorem dX10_set_1 : decode cX10_set 1 = .ok (.i2l, 1) := by decide +kernel
theorem dX10_set_2 : decode cX10_set 2 = .ok (.lconst 0, 1) := by decide +kernel
theorem dX10_set_3 : decode cX10_set 3 = .ok (.ldc2_w 82, 3) := by decide +kernel
theorem dX10_set_6 : decode cX10_set 6 = .ok (.invokestatic 76, 3) := by decide +kernel
theorem dX10_set_9 : decode cX10_set 9 = .ok (.ifCond .eq 15, 3) := by decide +kernel
theorem dX10_set_12 : decode cX10_set 12 = .ok (.iload_n 1, 1) := by decide +kernel
theorem dX10_set_13 : decode cX10_set 13 = .ok (.ifCond .le 14, 3) := by decide +kernel
theorem dX10_set_16 : decode cX10_set 16 = .ok (.aload_n 0, 1) := by decide +kernel
theorem dX10_set_17 : decode cX10_set 17 = .ok (.iload_n 2, 1) := by decide +kernel
theorem dX10_set_18 : decode cX10_set 18 = .ok (.invokevirtual 84, 3) := by decide +kernel
theorem dX10_set_21 : decode cX10_set 21 = .ok (.ifCond .ne 6, 3) := by decide +kernel
theorem dX10_set_24 : decode cX10_set 24 = .ok (.bipush (-2), 2) := by decide +kernel
theorem dX10_set_26 : decode cX10_set 26 = .ok (.ireturn, 1) := by decide +kernel
theorem dX10_set_27 : decode cX10_set 27 = .ok (.iload_n 3, 1) := by decide +kernel
theorem dX10_set_28 : decode cX10_set 28 = .ok (.i2l, 1) := by decide +kernel
theorem dX10_set_29 : decode cX10_set 29 = .ok (.iload_n 1, 1) := by decide +kernel
theorem dX10_set_30 : decode cX10_set 30 = .ok (.iconst 2, 1) := by decide +kernel
theorem dX10_set_31 : decode cX10_set 31 = .ok (.if_icmp .ne 7, 3) := by decide +kernel
theorem dX10_set_34 : decode cX10_set 34 = .ok (.lconst 1, 1) := by decide +kernel
theorem dX10_set_35 : decode cX10_set 35 = .ok (.goto 4, 3) := by decide +kernel
theorem dX10_set_38 : decode cX10_set 38 = .ok (.lconst 0, 1) := by decide +kernel
theorem dX10_set_39 : decode cX10_set 39 = .ok (.iload_n 1, 1) := by decide +kernel
theorem dX10_set_40 : decode cX10_set 40 = .ok (.ifCond .ne 9, 3) := by decide +kernel
theorem dX10_set_43 : decode cX10_set 43 = .ok (.ldc2_w 88, 3) := by decide +kernel
theorem dX10_set_46 : decode cX10_set 46 = .ok (.goto 28, 3) := by decide +kernel
theorem dX10_set_49 : decode cX10_set 49 = .ok (.iload_n 1, 1) := by decide +kernel
theorem dX10_set_50 : decode cX10_set 50 = .ok (.iconst 1, 1) := by decide +kernel
theorem dX10_set_51 : decode cX10_set 51 = .ok (.if_icmp .ne 9, 3) := by decide +kernel
theorem dX10_set_54 : decode cX10_set 54 = .ok (.ldc2_w 90, 3) := by decide +kernel
theorem dX10_set_57 : decode cX10_set 57 = .ok (.goto 17, 3) := by decide +kernel
theorem dX10_set_60 : decode cX10_set 60 = .ok (.iload_n 1, 1) := by decide +kernel
theorem dX10_set_61 : decode cX10_set 61 = .ok (.iconst 2, 1) := by decide +kernel
theorem dX10_set_62 : decode cX10_set 62 = .ok (.if_icmp .ne 9, 3) := by decide +kernel
theorem dX10_set_65 : decode cX10_set 65 = .ok (.ldc2_w 92, 3) := by decide +kernel
theorem dX10_set_68 : decode cX10_set 68 = .ok (.goto 6, 3) := by decide +kernel
theorem dX10_set_71 : decode cX10_set 71 = .ok (.ldc2_w 94, 3) := by decide +kernel
theorem dX10_set_74 : decode cX10_set 74 = .ok (.invokestatic 76, 3) := by decide +kernel
theorem dX10_set_77 : decode cX10_set 77 = .ok (.ifCond .ne 6, 3) := by decide +kernel
theorem dX10_set_80 : decode cX10_set 80 = .ok (.bipush (-2), 2) := by decide +kernel
theorem dX10_set_82 : decode cX10_set 82 = .ok (.ireturn, 1) := by decide +kernel
theorem dX10_set_83 : decode cX10_set 83 = .ok (.iload_n 1, 1) := by decide +kernel
theorem dX10_set_84 : decode cX10_set 84 = .ok (.ifCond .ne 10, 3) := by decide +kernel
theorem dX10_set_87 : decode cX10_set 87 = .ok (.aload_n 0, 1) := by decide +kernel
theorem dX10_set_88 : decode cX10_set 88 = .ok (.getfield 96, 3) := by decide +kernel
theorem dX10_set_91 : decode cX10_set 91 = .ok (.goto 9, 3) := by decide +kernel
theorem dX10_set_94 : decode cX10_set 94 = .ok (.aload_n 0, 1) := by decide +kernel
theorem dX10_set_95 : decode cX10_set 95 = .ok (.iload_n 2, 1) := by decide +kernel
theorem dX10_set_96 : decode cX10_set 96 = .ok (.iload_n 1, 1) := by decide +kernel
theorem dX10_set_97 : decode cX10_set 97 = .ok (.invokevirtual 99, 3) := by decide +kernel
theorem dX10_set_100 : decode cX10_set 100 = .ok (.istore 4, 2) := by decide +kernel
theorem dX10_set_102 : decode cX10_set 102 = .ok (.iload_n 1, 1) := by decide +kernel
theorem dX10_set_103 : decode cX10_set 103 = .ok (.ifCond .ne 11, 3) := by decide +kernel
theorem dX10_set_106 : decode cX10_set 106 = .ok (.aload_n 0, 1) := by decide +kernel
theorem dX10_set_107 : decode cX10_set 107 = .ok (.iload_n 3, 1) := by decide +kernel
theorem dX10_set_108 : decode cX10_set 108 = .ok (.putfield 96, 3) := by decide +kernel
theorem dX10_set_111 : decode cX10_set 111 = .ok (.goto 40, 3) := by decide +kernel
theorem dX10_set_114 : decode cX10_set 114 = .ok (.iload_n 1, 1) := by decide +kernel
theorem dX10_set_115 : decode cX10_set 115 = .ok (.iconst 1, 1) := by decide +kernel
theorem dX10_set_116 : decode cX10_set 116 = .ok (.if_icmp .ne 13, 3) := by decide +kernel
theorem dX10_set_119 : decode cX10_set 119 = .ok (.aload_n 0, 1) := by decide +kernel
theorem dX10_set_120 : decode cX10_set 120 = .ok (.getfield 26, 3) := by decide +kernel
theorem dX10_set_123 : decode cX10_set 123 = .ok (.iload_n 2, 1) := by decide +kernel
theorem dX10_set_124 : decode cX10_set 124 = .ok (.iload_n 3, 1) := by decide +kernel
theorem dX10_set_125 : decode cX10_set 125 = .ok (.iastore, 1) := by decide +kernel
theorem dX10_set_126 : decode cX10_set 126 = .ok (.goto 25, 3) := by decide +kernel
theorem dX10_set_129 : decode cX10_set 129 = .ok (.iload_n 1, 1) := by decide +kernel
theorem dX10_set_130 : decode cX10_set 130 = .ok (.iconst 2, 1) := by decide +kernel
theorem dX10_set_131 : decode cX10_set 131 = .ok (.if_icmp .ne 13, 3) := by decide +kernel
theorem dX10_set_134 : decode cX10_set 134 = .ok (.aload_n 0, 1) := by decide +kernel
theorem dX10_set_135 : decode cX10_set 135 = .ok (.getfield 29, 3) := by decide +kernel
theorem dX10_set_138 : decode cX10_set 138 = .ok (.iload_n 2, 1) := by decide +kernel
theorem dX10_set_139 : decode cX10_set 139 = .ok (.iload_n 3, 1) := by decide +kernel
theorem dX10_set_140 : decode cX10_set 140 = .ok (.iastore, 1) := by decide +kernel
theorem dX10_set_141 : decode cX10_set 141 = .ok (.goto 10, 3) := by decide +kernel
theorem dX10_set_144 : decode cX10_set 144 = .ok (.aload_n 0, 1) := by decide +kernel
theorem dX10_set_145 : decode cX10_set 145 = .ok (.getfield 32, 3) := by decide +kernel
theorem dX10_set_148 : decode cX10_set 148 = .ok (.iload_n 2, 1) := by decide +kernel
theorem dX10_set_149 : decode cX10_set 149 = .ok (.iload_n 3, 1) := by decide +kernel
theorem dX10_set_150 : decode cX10_set 150 = .ok (.iastore, 1) := by decide +kernel
theorem dX10_set_151 : decode cX10_set 151 = .ok (.iload 4, 2) := by decide +kernel
theorem dX10_set_153 : decode cX10_set 153 = .ok (.ireturn, 1) := by decide +kernel
theorem dX10_thing_0 : decode cX10_thing 0 = .ok (.iload_n 1, 1) := by decide +kernel
theorem dX10_thing_1 : decode cX10_thing 1 = .ok (.i2l, 1) := by decide +kernel
theorem dX10_thing_2 : decode cX10_thing 2 = .ok (.lconst 0, 1) := by decide +kernel
theorem dX10_thing_3 : decode cX10_thing 3 = .ok (.ldc2_w 103, 3) := by decide +kernel
theorem dX10_thing_6 : decode cX10_thing 6 = .ok (.invokestatic 76, 3) := by decide +kernel
theorem dX10_thing_9 : decode cX10_thing 9 = .ok (.ifCond .eq 38, 3) := by decide +kernel
theorem dX10_thing_12 : decode cX10_thing 12 = .ok (.iload_n 2, 1) := by decide +kernel
theorem dX10_thing_13 : decode cX10_thing 13 = .ok (.i2l, 1) := by decide +kernel
theorem dX10_thing_14 : decode cX10_thing 14 = .ok (.lconst 0, 1) := by decide +kernel
theorem dX10_thing_15 : decode cX10_thing 15 = .ok (.ldc2_w 90, 3) := by decide +kernel
theorem dX10_thing_18 : decode cX10_thing 18 = .ok (.invokestatic 76, 3) := by decide +kernel
theorem dX10_thing_21 : decode cX10_thing 21 = .ok (.ifCond .eq 26, 3) := by decide +kernel
theorem dX10_thing_24 : decode cX10_thing 24 = .ok (.iload_n 3, 1) := by decide +kernel
theorem dX10_thing_25 : decode cX10_thing 25 = .ok (.i2l, 1) := by decide +kernel
theorem dX10_thing_26 : decode cX10_thing 26 = .ok (.ldc2_w 105, 3) := by decide +kernel
theorem dX10_thing_29 : decode cX10_thing 29 = .ok (.ldc2_w 107, 3) := by decide +kernel
theorem dX10_thing_32 : decode cX10_thing 32 = .ok (.invokestatic 76, 3) := by decide +kernel
theorem dX10_thing_35 : decode cX10_thing 35 = .ok (.ifCond .eq 12, 3) := by decide +kernel
theorem dX10_thing_38 : decode cX10_thing 38 = .ok (.iload_n 3, 1) := by decide +kernel
theorem dX10_thing_39 : decode cX10_thing 39 = .ok (.bipush 100, 2) := by decide +kernel
theorem dX10_thing_41 : decode cX10_thing 41 = .ok (.irem, 1) := by decide +kernel
theorem dX10_thing_42 : decode cX10_thing 42 = .ok (.bipush 60, 2) := by decide +kernel
theorem dX10_thing_44 : decode cX10_thing 44 = .ok (.if_icmp .lt 6, 3) := by decide +kernel
theorem dX10_thing_47 : decode cX10_thing 47 = .ok (.bipush (-2), 2) := by decide +kernel
theorem dX10_thing_49 : decode cX10_thing 49 = .ok (.ireturn, 1) := by decide +kernel
theorem dX10_thing_50 : decode cX10_thing 50 = .ok (.aload_n 0, 1) := by decide +kernel
theorem dX10_thing_51 : decode cX10_thing 51 = .ok (.getfield 73, 3) := by decide +kernel
theorem dX10_thing_54 : decode cX10_thing 54 = .ok (.bipush 6, 2) := by decide +kernel
theorem dX10_thing_56 : decode cX10_thing 56 = .ok (.if_icmp .ne 6, 3) := by decide +kernel
theorem dX10_thing_59 : decode cX10_thing 59 = .ok (.bipush (-4), 2) := by decide +kernel
theorem dX10_thing_61 : decode cX10_thing 61 = .ok (.ireturn, 1) := by decide +kernel
theorem dX10_thing_62 : decode cX10_thing 62 = .ok (.aload_n 0, 1) := by decide +kernel
theorem dX10_thing_63 : decode cX10_thing 63 = .ok (.getfield 23, 3) := by decide +kernel
theorem dX10_thing_66 : decode cX10_thing 66 = .ok (.aload_n 0, 1) := by decide +kernel
theorem dX10_thing_67 : decode cX10_thing 67 = .ok (.getfield 73, 3) := by decide +kernel
theorem dX10_thing_70 : decode cX10_thing 70 = .ok (.iload_n 1, 1) := by decide +kernel
theorem dX10_thing_71 : decode cX10_thing 71 = .ok (.iastore, 1) := by decide +kernel
theorem dX10_thing_72 : decode cX10_thing 72 = .ok (.aload_n 0, 1) := by decide +kernel
theorem dX10_thing_73 : decode cX10_thing 73 = .ok (.getfield 26, 3) := by decide +kernel
theorem dX10_thing_76 : decode cX10_thing 76 = .ok (.aload_n 0, 1) := by decide +kernel
theorem dX10_thing_77 : decode cX10_thing 77 = .ok (.getfield 73, 3) := by decide +kernel
theorem dX10_thing_80 : decode cX10_thing 80 = .ok (.iload_n 2, 1) := by decide +kernel
theorem dX10_thing_81 : decode cX10_thing 81 = .ok (.iastore, 1) := by decide +kernel
theorem dX10_thing_82 : decode cX10_thing 82 = .ok (.aload_n 0, 1) := by decide +kernel
theorem dX10_thing_83 : decode cX10_thing 83 = .ok (.getfield 29, 3) := by decide +kernel
theorem dX10_thing_86 : decode cX10_thing 86 = .ok (.aload_n 0, 1) := by decide +kernel
theorem dX10_thing_87 : decode cX10_thing 87 = .ok (.getfield 73, 3) := by decide +kernel
theorem dX10_thing_90 : decode cX10_thing 90 = .ok (.iload_n 3, 1) := by decide +kernel
theorem dX10_thing_91 : decode cX10_thing 91 = .ok (.bipush 100, 2) := by decide +kernel
theorem dX10_thing_93 : decode cX10_thing 93 = .ok (.idiv, 1) := by decide +kernel
theorem dX10_thing_94 : decode cX10_thing 94 = .ok (.iastore, 1) := by decide +kernel
theorem dX10_thing_95 : decode cX10_thing 95 = .ok (.aload_n 0, 1) := by decide +kernel
theorem dX10_thing_96 : decode cX10_thing 96 = .ok (.getfield 32, 3) := by decide +kernel
theorem dX10_thing_99 : decode cX10_thing 99 = .ok (.aload_n 0, 1) := by decide +kernel
theorem dX10_thing_100 : decode cX10_thing 100 = .ok (.getfield 73, 3) := by decide +kernel
theorem dX10_thing_103 : decode cX10_thing 103 = .ok (.iload_n 3, 1) := by decide +kernel
theorem dX10_thing_104 : decode cX10_thing 104 = .ok (.bipush 100, 2) := by decide +kernel
theorem dX10_thing_106 : decode cX10_thing 106 = .ok (.irem, 1) := by decide +kernel
theorem dX10_thing_107 : decode cX10_thing 107 = .ok (.iastore, 1) := by decide +kernel
theorem dX10_thing_108 : decode cX10_thing 108 = .ok (.aload_n 0, 1) := by decide +kernel
theorem dX10_thing_109 : decode cX10_thing 109 = .ok (.dup, 1) := by decide +kernel
theorem dX10_thing_110 : decode cX10_thing 110 = .ok (.getfield 73, 3) := by decide +kernel
theorem dX10_thing_113 : decode cX10_thing 113 = .ok (.iconst 1, 1) := by decide +kernel
theorem dX10_thing_114 : decode cX10_thing 114 = .ok (.iadd, 1) := by decide +kernel
theorem dX10_thing_115 : decode cX10_thing 115 = .ok (.putfield 73, 3) := by decide +kernel
theorem dX10_thing_118 : decode cX10_thing 118 = .ok (.aload_n 0, 1) := by decide +kernel
theorem dX10_thing_119 : decode cX10_thing 119 = .ok (.getfield 73, 3) := by decide +kernel
theorem dX10_thing_122 : decode cX10_thing 122 = .ok (.iconst 1, 1) := by decide +kernel
theorem dX10_thing_123 : decode cX10_thing 123 = .ok (.isub, 1) := by decide +kernel
theorem dX10_thing_124 : decode cX10_thing 124 = .ok (.ireturn, 1) := by decide +kernel
theorem dX10_told_0 : decode cX10_told 0 = .ok (.aload_n 0, 1) := by decide +kernel
theorem dX10_told_1 : decode cX10_told 1 = .ok (.iload_n 1, 1) := by decide +kernel
theorem dX10_told_2 : decode cX10_told 2 = .ok (.invokevirtual 84, 3) := by decide +kernel
theorem dX10_told_5 : decode cX10_told 5 = .ok (.ifCond .eq 15, 3) := by decide +kernel
theorem dX10_told_8 : decode cX10_told 8 = .ok (.iload_n 2, 1) := by decide +kernel
theorem dX10_told_9 : decode cX10_told 9 = .ok (.i2l, 1) := by decide +kernel
theorem dX10_told_10 : decode cX10_told 10 = .ok (.lconst 0, 1) := by decide +kernel
theorem dX10_told_11 : decode cX10_told 11 = .ok (.ldc2_w 82, 3) := by decide +kernel
theorem dX10_told_14 : decode cX10_told 14 = .ok (.invokestatic 76, 3) := by decide +kernel
theorem dX10_told_17 : decode cX10_told 17 = .ok (.ifCond .ne 6, 3) := by decide +kernel
theorem dX10_told_20 : decode cX10_told 20 = .ok (.bipush (-2), 2) := by decide +kernel
theorem dX10_told_22 : decode cX10_told 22 = .ok (.ireturn, 1) := by decide +kernel
theorem dX10_told_23 : decode cX10_told 23 = .ok (.iload_n 2, 1) := by decide +kernel
theorem dX10_told_24 : decode cX10_told 24 = .ok (.ifCond .ne 12, 3) := by decide +kernel
theorem dX10_told_27 : decode cX10_told 27 = .ok (.aload_n 0, 1) := by decide +kernel
theorem dX10_told_28 : decode cX10_told 28 = .ok (.getfield 23, 3) := by decide +kernel
theorem dX10_told_31 : decode cX10_told 31 = .ok (.iload_n 1, 1) := by decide +kernel
theorem dX10_told_32 : decode cX10_told 32 = .ok (.iaload, 1) := by decide +kernel
theorem dX10_told_33 : decode cX10_told 33 = .ok (.goto 37, 3) := by decide +kernel
theorem dX10_told_36 : decode cX10_told 36 = .ok (.iload_n 2, 1) := by decide +kernel
theorem dX10_told_37 : decode cX10_told 37 = .ok (.iconst 1, 1) := by decide +kernel
theorem dX10_told_38 : decode cX10_told 38 = .ok (.if_icmp .ne 12, 3) := by decide +kernel
theorem dX10_told_41 : decode cX10_told 41 = .ok (.aload_n 0, 1) := by decide +kernel
theorem dX10_told_42 : decode cX10_told 42 = .ok (.getfield 26, 3) := by decide +kernel
theorem dX10_told_45 : decode cX10_told 45 = .ok (.iload_n 1, 1) := by decide +kernel
theorem dX10_told_46 : decode cX10_told 46 = .ok (.iaload, 1) := by decide +kernel
theorem dX10_told_47 : decode cX10_told 47 = .ok (.goto 23, 3) := by decide +kernel
theorem dX10_told_50 : decode cX10_told 50 = .ok (.iload_n 2, 1) := by decide +kernel
theorem dX10_told_51 : decode cX10_told 51 = .ok (.iconst 2, 1) := by decide +kernel
theorem dX10_told_52 : decode cX10_told 52 = .ok (.if_icmp .ne 12, 3) := by decide +kernel
theorem dX10_told_55 : decode cX10_told 55 = .ok (.aload_n 0, 1) := by decide +kernel
theorem dX10_told_56 : decode cX10_told 56 = .ok (.getfield 29, 3) := by decide +kernel
theorem dX10_told_59 : decode cX10_told 59 = .ok (.iload_n 1, 1) := by decide +kernel
theorem dX10_told_60 : decode cX10_told 60 = .ok (.iaload, 1) := by decide +kernel
theorem dX10_told_61 : decode cX10_told 61 = .ok (.goto 9, 3) := by decide +kernel
theorem dX10_told_64 : decode cX10_told 64 = .ok (.aload_n 0, 1) := by decide +kernel
theorem dX10_told_65 : decode cX10_told 65 = .ok (.getfield 32, 3) := by decide +kernel
theorem dX10_told_68 : decode cX10_told 68 = .ok (.iload_n 1, 1) := by decide +kernel
theorem dX10_told_69 : decode cX10_told 69 = .ok (.iaload, 1) := by decide +kernel
theorem dX10_told_70 : decode cX10_told 70 = .ok (.ireturn, 1) := by decide +kernel
theorem dX10_isRound_0 : decode cX10_isRound 0 = .ok (.iload_n 2, 1) := by decide +kernel
theorem dX10_isRound_1 : decode cX10_isRound 1 = .ok (.aload_n 0, 1) := by decide +kernel
theorem dX10_isRound_2 : decode cX10_isRound 2 = .ok (.getfield 32, 3) := by decide +kernel
theorem dX10_isRound_5 : decode cX10_isRound 5 = .ok (.iload_n 1, 1) := by decide +kernel
theorem dX10_isRound_6 : decode cX10_isRound 6 = .ok (.iaload, 1) := by decide +kernel
theorem dX10_isRound_7 : decode cX10_isRound 7 = .ok (.if_icmp .lt 25, 3) := by decide +kernel
theorem dX10_isRound_10 : decode cX10_isRound 10 = .ok (.iload_n 2, 1) := by decide +kernel
theorem dX10_isRound_11 : decode cX10_isRound 11 = .ok (.aload_n 0, 1) := by decide +kernel
theorem dX10_isRound_12 : decode cX10_isRound 12 = .ok (.getfield 32, 3) := by decide +kernel
theorem dX10_isRound_15 : decode cX10_isRound 15 = .ok (.iload_n 1, 1) := by decide +kernel
theorem dX10_isRound_16 : decode cX10_isRound 16 = .ok (.iaload, 1) := by decide +kernel
theorem dX10_isRound_17 : decode cX10_isRound 17 = .ok (.isub, 1) := by decide +kernel
theorem dX10_isRound_18 : decode cX10_isRound 18 = .ok (.aload_n 0, 1) := by decide +kernel
theorem dX10_isRound_19 : decode cX10_isRound 19 = .ok (.getfield 29, 3) := by decide +kernel
theorem dX10_isRound_22 : decode cX10_isRound 22 = .ok (.iload_n 1, 1) := by decide +kernel
theorem dX10_isRound_23 : decode cX10_isRound 23 = .ok (.iaload, 1) := by decide +kernel
theorem dX10_isRound_24 : decode cX10_isRound 24 = .ok (.irem, 1) := by decide +kernel
theorem dX10_isRound_25 : decode cX10_isRound 25 = .ok (.ifCond .ne 7, 3) := by decide +kernel
theorem dX10_isRound_28 : decode cX10_isRound 28 = .ok (.iconst 1, 1) := by decide +kernel
theorem dX10_isRound_29 : decode cX10_isRound 29 = .ok (.goto 4, 3) := by decide +kernel
theorem dX10_isRound_32 : decode cX10_isRound 32 = .ok (.iconst 0, 1) := by decide +kernel
theorem dX10_isRound_33 : decode cX10_isRound 33 = .ok (.ireturn, 1) := by decide +kernel
theorem dX10_isHoliday_0 : decode cX10_isHoliday 0 = .ok (.iload_n 1, 1) := by decide +kernel
theorem dX10_isHoliday_1 : decode cX10_isHoliday 1 = .ok (.ifCond .lt 22, 3) := by decide +kernel
theorem dX10_isHoliday_4 : decode cX10_isHoliday 4 = .ok (.aload_n 0, 1) := by decide +kernel
theorem dX10_isHoliday_5 : decode cX10_isHoliday 5 = .ok (.getfield 96, 3) := by decide +kernel
theorem dX10_isHoliday_8 : decode cX10_isHoliday 8 = .ok (.iload_n 1, 1) := by decide +kernel
theorem dX10_isHoliday_9 : decode cX10_isHoliday 9 = .ok (.bipush 7, 2) := by decide +kernel
theorem dX10_isHoliday_11 : decode cX10_isHoliday 11 = .ok (.irem, 1) := by decide +kernel
theorem dX10_isHoliday_12 : decode cX10_isHoliday 12 = .ok (.ishr, 1) := by decide +kernel
theorem dX10_isHoliday_13 : decode cX10_isHoliday 13 = .ok (.iconst 1, 1) := by decide +kernel
theorem dX10_isHoliday_14 : decode cX10_isHoliday 14 = .ok (.iand, 1) := by decide +kernel
theorem dX10_isHoliday_15 : decode cX10_isHoliday 15 = .ok (.iconst 1, 1) := by decide +kernel
theorem dX10_isHoliday_16 : decode cX10_isHoliday 16 = .ok (.if_icmp .ne 7, 3) := by decide +kernel
theorem dX10_isHoliday_19 : decode cX10_isHoliday 19 = .ok (.iconst 1, 1) := by decide +kernel
theorem dX10_isHoliday_20 : decode cX10_isHoliday 20 = .ok (.goto 4, 3) := by decide +kernel
theorem dX10_isHoliday_23 : decode cX10_isHoliday 23 = .ok (.iconst 0, 1) := by decide +kernel
theorem dX10_isHoliday_24 : decode cX10_isHoliday 24 = .ok (.ireturn, 1) := by decide +kernel
theorem dX10_lasts_0 : decode cX10_lasts 0 = .ok (.iconst 0, 1) := by decide +kernel
theorem dX10_lasts_1 : decode cX10_lasts 1 = .ok (.istore_n 3, 1) := by decide +kernel
theorem dX10_lasts_2 : decode cX10_lasts 2 = .ok (.iload_n 3, 1) := by decide +kernel
theorem dX10_lasts_3 : decode cX10_lasts 3 = .ok (.aload_n 0, 1) := by decide +kernel
theorem dX10_lasts_4 : decode cX10_lasts 4 = .ok (.getfield 26, 3) := by decide +kernel
theorem dX10_lasts_7 : decode cX10_lasts 7 = .ok (.iload_n 1, 1) := by decide +kernel
theorem dX10_lasts_8 : decode cX10_lasts 8 = .ok (.iaload, 1) := by decide +kernel
theorem dX10_lasts_9 : decode cX10_lasts 9 = .ok (.if_icmp .gt 22, 3) := by decide +kernel
theorem dX10_lasts_12 : decode cX10_lasts 12 = .ok (.aload_n 0, 1) := by decide +kernel
theorem dX10_lasts_13 : decode cX10_lasts 13 = .ok (.iload_n 1, 1) := by decide +kernel
theorem dX10_lasts_14 : decode cX10_lasts 14 = .ok (.iload_n 2, 1) := by decide +kernel
theorem dX10_lasts_15 : decode cX10_lasts 15 = .ok (.iload_n 3, 1) := by decide +kernel
theorem dX10_lasts_16 : decode cX10_lasts 16 = .ok (.isub, 1) := by decide +kernel
theorem dX10_lasts_17 : decode cX10_lasts 17 = .ok (.invokevirtual 109, 3) := by decide +kernel
theorem dX10_lasts_20 : decode cX10_lasts 20 = .ok (.ifCond .eq 5, 3) := by decide +kernel
theorem dX10_lasts_23 : decode cX10_lasts 23 = .ok (.iconst 1, 1) := by decide +kernel
theorem dX10_lasts_24 : decode cX10_lasts 24 = .ok (.ireturn, 1) := by decide +kernel
theorem dX10_lasts_25 : decode cX10_lasts 25 = .ok (.iinc 3 1, 3) := by decide +kernel
theorem dX10_lasts_28 : decode cX10_lasts 28 = .ok (.goto (-26), 3) := by decide +kernel
theorem dX10_lasts_31 : decode cX10_lasts 31 = .ok (.iconst 0, 1) := by decide +kernel
theorem dX10_lasts_32 : decode cX10_lasts 32 = .ok (.ireturn, 1) := by decide +kernel
theorem dX10_isPutOff_0 : decode cX10_isPutOff 0 = .ok (.aload_n 0, 1) := by decide +kernel
theorem dX10_isPutOff_1 : decode cX10_isPutOff 1 = .ok (.iload_n 2, 1) := by decide +kernel
theorem dX10_isPutOff_2 : decode cX10_isPutOff 2 = .ok (.invokevirtual 113, 3) := by decide +kernel
theorem dX10_isPutOff_5 : decode cX10_isPutOff 5 = .ok (.ifCond .eq 5, 3) := by decide +kernel
theorem dX10_isPutOff_8 : decode cX10_isPutOff 8 = .ok (.iconst 0, 1) := by decide +kernel
theorem dX10_isPutOff_9 : decode cX10_isPutOff 9 = .ok (.ireturn, 1) := by decide +kernel
theorem dX10_isPutOff_10 : decode cX10_isPutOff 10 = .ok (.aload_n 0, 1) := by decide +kernel
theorem dX10_isPutOff_11 : decode cX10_isPutOff 11 = .ok (.iload_n 1, 1) := by decide +kernel
theorem dX10_isPutOff_12 : decode cX10_isPutOff 12 = .ok (.iload_n 2, 1) := by decide +kernel
theorem dX10_isPutOff_13 : decode cX10_isPutOff 13 = .ok (.invokevirtual 109, 3) := by decide +kernel
theorem dX10_isPutOff_16 : decode cX10_isPutOff 16 = .ok (.istore_n 3, 1) := by decide +kernel
theorem dX10_isPutOff_17 : decode cX10_isPutOff 17 = .ok (.iconst 1, 1) := by decide +kernel
theorem dX10_isPutOff_18 : decode cX10_isPutOff 18 = .ok (.istore 4, 2) := by decide +kernel
theorem dX10_isPutOff_20 : decode cX10_isPutOff 20 = .ok (.iload 4, 2) := by decide +kernel
theorem dX10_isPutOff_22 : decode cX10_isPutOff 22 = .ok (.bipush 6, 2) := by decide +kernel
theorem dX10_isPutOff_24 : decode cX10_isPutOff 24 = .ok (.if_icmp .gt 42, 3) := by decide +kernel
theorem dX10_isPutOff_27 : decode cX10_isPutOff 27 = .ok (.aload_n 0, 1) := by decide +kernel
theorem dX10_isPutOff_28 : decode cX10_isPutOff 28 = .ok (.iload_n 2, 1) := by decide +kernel
theorem dX10_isPutOff_29 : decode cX10_isPutOff 29 = .ok (.iload 4, 2) := by decide +kernel
theorem dX10_isPutOff_31 : decode cX10_isPutOff 31 = .ok (.isub, 1) := by decide +kernel
theorem dX10_isPutOff_32 : decode cX10_isPutOff 32 = .ok (.invokevirtual 113, 3) := by decide +kernel
theorem dX10_isPutOff_35 : decode cX10_isPutOff 35 = .ok (.ifCond .eq 31, 3) := by decide +kernel
theorem dX10_isPutOff_38 : decode cX10_isPutOff 38 = .ok (.iload_n 3, 1) := by decide +kernel
theorem dX10_isPutOff_39 : decode cX10_isPutOff 39 = .ok (.ifCond .ne 15, 3) := by decide +kernel
theorem dX10_isPutOff_42 : decode cX10_isPutOff 42 = .ok (.aload_n 0, 1) := by decide +kernel
theorem dX10_isPutOff_43 : decode cX10_isPutOff 43 = .ok (.iload_n 1, 1) := by decide +kernel
theorem dX10_isPutOff_44 : decode cX10_isPutOff 44 = .ok (.iload_n 2, 1) := by decide +kernel
theorem dX10_isPutOff_45 : decode cX10_isPutOff 45 = .ok (.iload 4, 2) := by decide +kernel
theorem dX10_isPutOff_47 : decode cX10_isPutOff 47 = .ok (.isub, 1) := by decide +kernel
theorem dX10_isPutOff_48 : decode cX10_isPutOff 48 = .ok (.invokevirtual 109, 3) := by decide +kernel
theorem dX10_isPutOff_51 : decode cX10_isPutOff 51 = .ok (.ifCond .eq 7, 3) := by decide +kernel
theorem dX10_isPutOff_54 : decode cX10_isPutOff 54 = .ok (.iconst 1, 1) := by decide +kernel
theorem dX10_isPutOff_55 : decode cX10_isPutOff 55 = .ok (.goto 4, 3) := by decide +kernel
theorem dX10_isPutOff_58 : decode cX10_isPutOff 58 = .ok (.iconst 0, 1) := by decide +kernel
theorem dX10_isPutOff_59 : decode cX10_isPutOff 59 = .ok (.istore_n 3, 1) := by decide +kernel
theorem dX10_isPutOff_60 : decode cX10_isPutOff 60 = .ok (.iinc 4 1, 3) := by decide +kernel
theorem dX10_isPutOff_63 : decode cX10_isPutOff 63 = .ok (.goto (-43), 3) := by decide +kernel
theorem dX10_isPutOff_66 : decode cX10_isPutOff 66 = .ok (.iload_n 3, 1) := by decide +kernel
theorem dX10_isPutOff_67 : decode cX10_isPutOff 67 = .ok (.ireturn, 1) := by decide +kernel
theorem dX10_comes_0 : decode cX10_comes 0 = .ok (.aload_n 0, 1) := by decide +kernel
theorem dX10_comes_1 : decode cX10_comes 1 = .ok (.getfield 23, 3) := by decide +kernel
theorem dX10_comes_4 : decode cX10_comes 4 = .ok (.iload_n 1, 1) := by decide +kernel
theorem dX10_comes_5 : decode cX10_comes 5 = .ok (.iaload, 1) := by decide +kernel
theorem dX10_comes_6 : decode cX10_comes 6 = .ok (.istore_n 3, 1) := by decide +kernel
theorem dX10_comes_7 : decode cX10_comes 7 = .ok (.iload_n 3, 1) := by decide +kernel
theorem dX10_comes_8 : decode cX10_comes 8 = .ok (.iconst 2, 1) := by decide +kernel
theorem dX10_comes_9 : decode cX10_comes 9 = .ok (.if_icmp .ne 10, 3) := by decide +kernel
theorem dX10_comes_12 : decode cX10_comes 12 = .ok (.aload_n 0, 1) := by decide +kernel
theorem dX10_comes_13 : decode cX10_comes 13 = .ok (.iload_n 1, 1) := by decide +kernel
theorem dX10_comes_14 : decode cX10_comes 14 = .ok (.iload_n 2, 1) := by decide +kernel
theorem dX10_comes_15 : decode cX10_comes 15 = .ok (.invokevirtual 116, 3) := by decide +kernel
theorem dX10_comes_18 : decode cX10_comes 18 = .ok (.ireturn, 1) := by decide +kernel
theorem dX10_comes_19 : decode cX10_comes 19 = .ok (.iload_n 3, 1) := by decide +kernel
theorem dX10_comes_20 : decode cX10_comes 20 = .ok (.iconst 1, 1) := by decide +kernel
theorem dX10_comes_21 : decode cX10_comes 21 = .ok (.if_icmp .eq 8, 3) := by decide +kernel
theorem dX10_comes_24 : decode cX10_comes 24 = .ok (.iload_n 3, 1) := by decide +kernel
theorem dX10_comes_25 : decode cX10_comes 25 = .ok (.iconst 3, 1) := by decide +kernel
theorem dX10_comes_26 : decode cX10_comes 26 = .ok (.if_icmp .ne 34, 3) := by decide +kernel
theorem dX10_comes_29 : decode cX10_comes 29 = .ok (.aload_n 0, 1) := by decide +kernel
theorem dX10_comes_30 : decode cX10_comes 30 = .ok (.iload_n 1, 1) := by decide +kernel
theorem dX10_comes_31 : decode cX10_comes 31 = .ok (.iload_n 2, 1) := by decide +kernel
theorem dX10_comes_32 : decode cX10_comes 32 = .ok (.invokevirtual 119, 3) := by decide +kernel
theorem dX10_comes_35 : decode cX10_comes 35 = .ok (.ifCond .ne 19, 3) := by decide +kernel
theorem dX10_comes_38 : decode cX10_comes 38 = .ok (.iload_n 3, 1) := by decide +kernel
theorem dX10_comes_39 : decode cX10_comes 39 = .ok (.iconst 3, 1) := by decide +kernel
theorem dX10_comes_40 : decode cX10_comes 40 = .ok (.if_icmp .ne 18, 3) := by decide +kernel
theorem dX10_comes_43 : decode cX10_comes 43 = .ok (.aload_n 0, 1) := by decide +kernel
theorem dX10_comes_44 : decode cX10_comes 44 = .ok (.iload_n 1, 1) := by decide +kernel
theorem dX10_comes_45 : decode cX10_comes 45 = .ok (.iload_n 2, 1) := by decide +kernel
theorem dX10_comes_46 : decode cX10_comes 46 = .ok (.iconst 1, 1) := by decide +kernel
theorem dX10_comes_47 : decode cX10_comes 47 = .ok (.iadd, 1) := by decide +kernel
theorem dX10_comes_48 : decode cX10_comes 48 = .ok (.invokevirtual 109, 3) := by decide +kernel
theorem dX10_comes_51 : decode cX10_comes 51 = .ok (.ifCond .eq 7, 3) := by decide +kernel
theorem dX10_comes_54 : decode cX10_comes 54 = .ok (.iconst 1, 1) := by decide +kernel
theorem dX10_comes_55 : decode cX10_comes 55 = .ok (.goto 4, 3) := by decide +kernel
theorem dX10_comes_58 : decode cX10_comes 58 = .ok (.iconst 0, 1) := by decide +kernel
theorem dX10_comes_59 : decode cX10_comes 59 = .ok (.ireturn, 1) := by decide +kernel
theorem dX10_comes_60 : decode cX10_comes 60 = .ok (.iload_n 3, 1) := by decide +kernel
theorem dX10_comes_61 : decode cX10_comes 61 = .ok (.iconst 4, 1) := by decide +kernel
theorem dX10_comes_62 : decode cX10_comes 62 = .ok (.if_icmp .ne 26, 3) := by decide +kernel
theorem dX10_comes_65 : decode cX10_comes 65 = .ok (.aload_n 0, 1) := by decide +kernel
theorem dX10_comes_66 : decode cX10_comes 66 = .ok (.iload_n 1, 1) := by decide +kernel
theorem dX10_comes_67 : decode cX10_comes 67 = .ok (.iload_n 2, 1) := by decide +kernel
theorem dX10_comes_68 : decode cX10_comes 68 = .ok (.invokevirtual 109, 3) := by decide +kernel
theorem dX10_comes_71 : decode cX10_comes 71 = .ok (.ifCond .eq 15, 3) := by decide +kernel
theorem dX10_comes_74 : decode cX10_comes 74 = .ok (.aload_n 0, 1) := by decide +kernel
theorem dX10_comes_75 : decode cX10_comes 75 = .ok (.iload_n 2, 1) := by decide +kernel
theorem dX10_comes_76 : decode cX10_comes 76 = .ok (.invokevirtual 113, 3) := by decide +kernel
theorem dX10_comes_79 : decode cX10_comes 79 = .ok (.ifCond .ne 7, 3) := by decide +kernel
theorem dX10_comes_82 : decode cX10_comes 82 = .ok (.iconst 1, 1) := by decide +kernel
theorem dX10_comes_83 : decode cX10_comes 83 = .ok (.goto 4, 3) := by decide +kernel
theorem dX10_comes_86 : decode cX10_comes 86 = .ok (.iconst 0, 1) := by decide +kernel
theorem dX10_comes_87 : decode cX10_comes 87 = .ok (.ireturn, 1) := by decide +kernel
theorem dX10_comes_88 : decode cX10_comes 88 = .ok (.aload_n 0, 1) := by decide +kernel
theorem dX10_comes_89 : decode cX10_comes 89 = .ok (.iload_n 1, 1) := by decide +kernel
theorem dX10_comes_90 : decode cX10_comes 90 = .ok (.iload_n 2, 1) := by decide +kernel
theorem dX10_comes_91 : decode cX10_comes 91 = .ok (.invokevirtual 109, 3) := by decide +kernel
theorem dX10_comes_94 : decode cX10_comes 94 = .ok (.ifCond .ne 21, 3) := by decide +kernel
theorem dX10_comes_97 : decode cX10_comes 97 = .ok (.iload_n 3, 1) := by decide +kernel
theorem dX10_comes_98 : decode cX10_comes 98 = .ok (.iconst 5, 1) := by decide +kernel
theorem dX10_comes_99 : decode cX10_comes 99 = .ok (.if_icmp .ne 20, 3) := by decide +kernel
theorem dX10_comes_102 : decode cX10_comes 102 = .ok (.iload_n 2, 1) := by decide +kernel
theorem dX10_comes_103 : decode cX10_comes 103 = .ok (.bipush 30, 2) := by decide +kernel
theorem dX10_comes_105 : decode cX10_comes 105 = .ok (.irem, 1) := by decide +kernel
theorem dX10_comes_106 : decode cX10_comes 106 = .ok (.aload_n 0, 1) := by decide +kernel
theorem dX10_comes_107 : decode cX10_comes 107 = .ok (.getfield 26, 3) := by decide +kernel
theorem dX10_comes_110 : decode cX10_comes 110 = .ok (.iload_n 1, 1) := by decide +kernel
theorem dX10_comes_111 : decode cX10_comes 111 = .ok (.iaload, 1) := by decide +kernel
theorem dX10_comes_112 : decode cX10_comes 112 = .ok (.if_icmp .ne 7, 3) := by decide +kernel
theorem dX10_comes_115 : decode cX10_comes 115 = .ok (.iconst 1, 1) := by decide +kernel
theorem dX10_comes_116 : decode cX10_comes 116 = .ok (.goto 4, 3) := by decide +kernel
theorem dX10_comes_119 : decode cX10_comes 119 = .ok (.iconst 0, 1) := by decide +kernel
theorem dX10_comes_120 : decode cX10_comes 120 = .ok (.ireturn, 1) := by decide +kernel
theorem dX10_feed_0 : decode cX10_feed 0 = .ok (.iload_n 1, 1) := by decide +kernel
theorem dX10_feed_1 : decode cX10_feed 1 = .ok (.i2l, 1) := by decide +kernel
theorem dX10_feed_2 : decode cX10_feed 2 = .ok (.lconst 0, 1) := by decide +kernel
theorem dX10_feed_3 : decode cX10_feed 3 = .ok (.ldc2_w 122, 3) := by decide +kernel
theorem dX10_feed_6 : decode cX10_feed 6 = .ok (.invokestatic 76, 3) := by decide +kernel
theorem dX10_feed_9 : decode cX10_feed 9 = .ok (.ifCond .ne 6, 3) := by decide +kernel
theorem dX10_feed_12 : decode cX10_feed 12 = .ok (.bipush (-2), 2) := by decide +kernel
theorem dX10_feed_14 : decode cX10_feed 14 = .ok (.ireturn, 1) := by decide +kernel
theorem dX10_feed_15 : decode cX10_feed 15 = .ok (.aload_n 0, 1) := by decide +kernel
theorem dX10_feed_16 : decode cX10_feed 16 = .ok (.getfield 124, 3) := by decide +kernel
theorem dX10_feed_19 : decode cX10_feed 19 = .ok (.sipush 160, 3) := by decide +kernel
theorem dX10_feed_22 : decode cX10_feed 22 = .ok (.if_icmp .ne 6, 3) := by decide +kernel
theorem dX10_feed_25 : decode cX10_feed 25 = .ok (.bipush (-4), 2) := by decide +kernel
theorem dX10_feed_27 : decode cX10_feed 27 = .ok (.ireturn, 1) := by decide +kernel
theorem dX10_feed_28 : decode cX10_feed 28 = .ok (.aload_n 0, 1) := by decide +kernel
theorem dX10_feed_29 : decode cX10_feed 29 = .ok (.getfield 20, 3) := by decide +kernel
theorem dX10_feed_32 : decode cX10_feed 32 = .ok (.aload_n 0, 1) := by decide +kernel
theorem dX10_feed_33 : decode cX10_feed 33 = .ok (.getfield 124, 3) := by decide +kernel
theorem dX10_feed_36 : decode cX10_feed 36 = .ok (.iload_n 1, 1) := by decide +kernel
theorem dX10_feed_37 : decode cX10_feed 37 = .ok (.iastore, 1) := by decide +kernel
theorem dX10_feed_38 : decode cX10_feed 38 = .ok (.aload_n 0, 1) := by decide +kernel
theorem dX10_feed_39 : decode cX10_feed 39 = .ok (.dup, 1) := by decide +kernel
theorem dX10_feed_40 : decode cX10_feed 40 = .ok (.getfield 124, 3) := by decide +kernel
theorem dX10_feed_43 : decode cX10_feed 43 = .ok (.iconst 1, 1) := by decide +kernel
theorem dX10_feed_44 : decode cX10_feed 44 = .ok (.iadd, 1) := by decide +kernel
theorem dX10_feed_45 : decode cX10_feed 45 = .ok (.putfield 124, 3) := by decide +kernel
theorem dX10_feed_48 : decode cX10_feed 48 = .ok (.aload_n 0, 1) := by decide +kernel
theorem dX10_feed_49 : decode cX10_feed 49 = .ok (.getfield 124, 3) := by decide +kernel
theorem dX10_feed_52 : decode cX10_feed 52 = .ok (.ireturn, 1) := by decide +kernel
theorem dX10_byteAt_0 : decode cX10_byteAt 0 = .ok (.iload_n 1, 1) := by decide +kernel
theorem dX10_byteAt_1 : decode cX10_byteAt 1 = .ok (.aload_n 0, 1) := by decide +kernel
theorem dX10_byteAt_2 : decode cX10_byteAt 2 = .ok (.getfield 127, 3) := by decide +kernel
theorem dX10_byteAt_5 : decode cX10_byteAt 5 = .ok (.if_icmp .ge 17, 3) := by decide +kernel
theorem dX10_byteAt_8 : decode cX10_byteAt 8 = .ok (.aload_n 0, 1) := by decide +kernel
theorem dX10_byteAt_9 : decode cX10_byteAt 9 = .ok (.getfield 13, 3) := by decide +kernel
theorem dX10_byteAt_12 : decode cX10_byteAt 12 = .ok (.aload_n 0, 1) := by decide +kernel
theorem dX10_byteAt_13 : decode cX10_byteAt 13 = .ok (.getfield 130, 3) := by decide +kernel
theorem dX10_byteAt_16 : decode cX10_byteAt 16 = .ok (.iload_n 1, 1) := by decide +kernel
theorem dX10_byteAt_17 : decode cX10_byteAt 17 = .ok (.iadd, 1) := by decide +kernel
theorem dX10_byteAt_18 : decode cX10_byteAt 18 = .ok (.iaload, 1) := by decide +kernel
theorem dX10_byteAt_19 : decode cX10_byteAt 19 = .ok (.goto 4, 3) := by decide +kernel
theorem dX10_byteAt_22 : decode cX10_byteAt 22 = .ok (.iconst (-1), 1) := by decide +kernel
theorem dX10_byteAt_23 : decode cX10_byteAt 23 = .ok (.ireturn, 1) := by decide +kernel
theorem dX10_next_0 : decode cX10_next 0 = .ok (.aload_n 0, 1) := by decide +kernel
theorem dX10_next_1 : decode cX10_next 1 = .ok (.aload_n 0, 1) := by decide +kernel
theorem dX10_next_2 : decode cX10_next 2 = .ok (.getfield 133, 3) := by decide +kernel
theorem dX10_next_5 : decode cX10_next 5 = .ok (.invokevirtual 136, 3) := by decide +kernel
theorem dX10_next_8 : decode cX10_next 8 = .ok (.bipush 32, 2) := by decide +kernel
theorem dX10_next_10 : decode cX10_next 10 = .ok (.if_icmp .eq 16, 3) := by decide +kernel
theorem dX10_next_13 : decode cX10_next 13 = .ok (.aload_n 0, 1) := by decide +kernel
theorem dX10_next_14 : decode cX10_next 14 = .ok (.aload_n 0, 1) := by decide +kernel
theorem dX10_next_15 : decode cX10_next 15 = .ok (.getfield 133, 3) := by decide +kernel
theorem dX10_next_18 : decode cX10_next 18 = .ok (.invokevirtual 136, 3) := by decide +kernel
theorem dX10_next_21 : decode cX10_next 21 = .ok (.bipush 10, 2) := by decide +kernel
theorem dX10_next_23 : decode cX10_next 23 = .ok (.if_icmp .ne 16, 3) := by decide +kernel
theorem dX10_next_26 : decode cX10_next 26 = .ok (.aload_n 0, 1) := by decide +kernel
theorem dX10_next_27 : decode cX10_next 27 = .ok (.dup, 1) := by decide +kernel
theorem dX10_next_28 : decode cX10_next 28 = .ok (.getfield 133, 3) := by decide +kernel
theorem dX10_next_31 : decode cX10_next 31 = .ok (.iconst 1, 1) := by decide +kernel
theorem dX10_next_32 : decode cX10_next 32 = .ok (.iadd, 1) := by decide +kernel
theorem dX10_next_33 : decode cX10_next 33 = .ok (.putfield 133, 3) := by decide +kernel
theorem dX10_next_36 : decode cX10_next 36 = .ok (.goto (-36), 3) := by decide +kernel
theorem dX10_next_39 : decode cX10_next 39 = .ok (.aload_n 0, 1) := by decide +kernel
theorem dX10_next_40 : decode cX10_next 40 = .ok (.aload_n 0, 1) := by decide +kernel
theorem dX10_next_41 : decode cX10_next 41 = .ok (.getfield 133, 3) := by decide +kernel
theorem dX10_next_44 : decode cX10_next 44 = .ok (.putfield 140, 3) := by decide +kernel
theorem dX10_next_47 : decode cX10_next 47 = .ok (.aload_n 0, 1) := by decide +kernel
theorem dX10_next_48 : decode cX10_next 48 = .ok (.aload_n 0, 1) := by decide +kernel
theorem dX10_next_49 : decode cX10_next 49 = .ok (.getfield 133, 3) := by decide +kernel
theorem dX10_next_52 : decode cX10_next 52 = .ok (.invokevirtual 136, 3) := by decide +kernel
theorem dX10_next_55 : decode cX10_next 55 = .ok (.istore_n 1, 1) := by decide +kernel
theorem dX10_next_56 : decode cX10_next 56 = .ok (.aload_n 0, 1) := by decide +kernel
theorem dX10_next_57 : decode cX10_next 57 = .ok (.iconst 4, 1) := by decide +kernel
theorem dX10_next_58 : decode cX10_next 58 = .ok (.putfield 143, 3) := by decide +kernel
theorem dX10_next_61 : decode cX10_next 61 = .ok (.iload_n 1, 1) := by decide +kernel
theorem dX10_next_62 : decode cX10_next 62 = .ok (.ifCond .ge 19, 3) := by decide +kernel
theorem dX10_next_65 : decode cX10_next 65 = .ok (.aload_n 0, 1) := by decide +kernel
theorem dX10_next_66 : decode cX10_next 66 = .ok (.iconst 0, 1) := by decide +kernel
theorem dX10_next_67 : decode cX10_next 67 = .ok (.putfield 143, 3) := by decide +kernel
theorem dX10_next_70 : decode cX10_next 70 = .ok (.aload_n 0, 1) := by decide +kernel
theorem dX10_next_71 : decode cX10_next 71 = .ok (.aload_n 0, 1) := by decide +kernel
theorem dX10_next_72 : decode cX10_next 72 = .ok (.getfield 127, 3) := by decide +kernel
theorem dX10_next_75 : decode cX10_next 75 = .ok (.putfield 140, 3) := by decide +kernel
theorem dX10_next_78 : decode cX10_next 78 = .ok (.goto 243, 3) := by decide +kernel
theorem dX10_next_81 : decode cX10_next 81 = .ok (.iload_n 1, 1) := by decide +kernel
theorem dX10_next_82 : decode cX10_next 82 = .ok (.i2l, 1) := by decide +kernel
theorem dX10_next_83 : decode cX10_next 83 = .ok (.ldc2_w 146, 3) := by decide +kernel
theorem dX10_next_86 : decode cX10_next 86 = .ok (.ldc2_w 148, 3) := by decide +kernel
theorem dX10_next_89 : decode cX10_next 89 = .ok (.invokestatic 76, 3) := by decide +kernel
theorem dX10_next_92 : decode cX10_next 92 = .ok (.ifCond .eq 42, 3) := by decide +kernel
theorem dX10_next_95 : decode cX10_next 95 = .ok (.aload_n 0, 1) := by decide +kernel
theorem dX10_next_96 : decode cX10_next 96 = .ok (.iconst 1, 1) := by decide +kernel
theorem dX10_next_97 : decode cX10_next 97 = .ok (.putfield 143, 3) := by decide +kernel
theorem dX10_next_100 : decode cX10_next 100 = .ok (.aload_n 0, 1) := by decide +kernel
theorem dX10_next_101 : decode cX10_next 101 = .ok (.aload_n 0, 1) := by decide +kernel
theorem dX10_next_102 : decode cX10_next 102 = .ok (.getfield 133, 3) := by decide +kernel
theorem dX10_next_105 : decode cX10_next 105 = .ok (.invokevirtual 136, 3) := by decide +kernel
theorem dX10_next_108 : decode cX10_next 108 = .ok (.i2l, 1) := by decide +kernel
theorem dX10_next_109 : decode cX10_next 109 = .ok (.ldc2_w 146, 3) := by decide +kernel
theorem dX10_next_112 : decode cX10_next 112 = .ok (.ldc2_w 148, 3) := by decide +kernel
theorem dX10_next_115 : decode cX10_next 115 = .ok (.invokestatic 76, 3) := by decide +kernel
theorem dX10_next_118 : decode cX10_next 118 = .ok (.ifCond .eq 203, 3) := by decide +kernel
theorem dX10_next_121 : decode cX10_next 121 = .ok (.aload_n 0, 1) := by decide +kernel
theorem dX10_next_122 : decode cX10_next 122 = .ok (.dup, 1) := by decide +kernel
theorem dX10_next_123 : decode cX10_next 123 = .ok (.getfield 133, 3) := by decide +kernel
theorem dX10_next_126 : decode cX10_next 126 = .ok (.iconst 1, 1) := by decide +kernel
theorem dX10_next_127 : decode cX10_next 127 = .ok (.iadd, 1) := by decide +kernel
theorem dX10_next_128 : decode cX10_next 128 = .ok (.putfield 133, 3) := by decide +kernel
theorem dX10_next_131 : decode cX10_next 131 = .ok (.goto (-31), 3) := by decide +kernel
theorem dX10_next_134 : decode cX10_next 134 = .ok (.iload_n 1, 1) := by decide +kernel
theorem dX10_next_135 : decode cX10_next 135 = .ok (.i2l, 1) := by decide +kernel
theorem dX10_next_136 : decode cX10_next 136 = .ok (.ldc2_w 150, 3) := by decide +kernel
theorem dX10_next_139 : decode cX10_next 139 = .ok (.ldc2_w 152, 3) := by decide +kernel
theorem dX10_next_142 : decode cX10_next 142 = .ok (.invokestatic 76, 3) := by decide +kernel
theorem dX10_next_145 : decode cX10_next 145 = .ok (.ifCond .eq 107, 3) := by decide +kernel
theorem dX10_next_148 : decode cX10_next 148 = .ok (.aload_n 0, 1) := by decide +kernel
theorem dX10_next_149 : decode cX10_next 149 = .ok (.iconst 2, 1) := by decide +kernel
theorem dX10_next_150 : decode cX10_next 150 = .ok (.putfield 143, 3) := by decide +kernel
theorem dX10_next_153 : decode cX10_next 153 = .ok (.aload_n 0, 1) := by decide +kernel
theorem dX10_next_154 : decode cX10_next 154 = .ok (.lconst 0, 1) := by decide +kernel
theorem dX10_next_155 : decode cX10_next 155 = .ok (.putfield 154, 3) := by decide +kernel
theorem dX10_next_158 : decode cX10_next 158 = .ok (.iconst 0, 1) := by decide +kernel
theorem dX10_next_159 : decode cX10_next 159 = .ok (.istore_n 2, 1) := by decide +kernel
theorem dX10_next_160 : decode cX10_next 160 = .ok (.aload_n 0, 1) := by decide +kernel
theorem dX10_next_161 : decode cX10_next 161 = .ok (.aload_n 0, 1) := by decide +kernel
theorem dX10_next_162 : decode cX10_next 162 = .ok (.getfield 133, 3) := by decide +kernel
theorem dX10_next_165 : decode cX10_next 165 = .ok (.invokevirtual 136, 3) := by decide +kernel
theorem dX10_next_168 : decode cX10_next 168 = .ok (.i2l, 1) := by decide +kernel
theorem dX10_next_169 : decode cX10_next 169 = .ok (.ldc2_w 150, 3) := by decide +kernel
theorem dX10_next_172 : decode cX10_next 172 = .ok (.ldc2_w 152, 3) := by decide +kernel
theorem dX10_next_175 : decode cX10_next 175 = .ok (.invokestatic 76, 3) := by decide +kernel
theorem dX10_next_178 : decode cX10_next 178 = .ok (.ifCond .eq 57, 3) := by decide +kernel
theorem dX10_next_181 : decode cX10_next 181 = .ok (.aload_n 0, 1) := by decide +kernel
theorem dX10_next_182 : decode cX10_next 182 = .ok (.iload_n 2, 1) := by decide +kernel
theorem dX10_next_183 : decode cX10_next 183 = .ok (.iconst 4, 1) := by decide +kernel
theorem dX10_next_184 : decode cX10_next 184 = .ok (.if_icmp .ge 28, 3) := by decide +kernel
theorem dX10_next_187 : decode cX10_next 187 = .ok (.ldc2_w 158, 3) := by decide +kernel
theorem dX10_next_190 : decode cX10_next 190 = .ok (.aload_n 0, 1) := by decide +kernel
theorem dX10_next_191 : decode cX10_next 191 = .ok (.getfield 154, 3) := by decide +kernel
theorem dX10_next_194 : decode cX10_next 194 = .ok (.lmul, 1) := by decide +kernel
theorem dX10_next_195 : decode cX10_next 195 = .ok (.aload_n 0, 1) := by decide +kernel
theorem dX10_next_196 : decode cX10_next 196 = .ok (.aload_n 0, 1) := by decide +kernel
theorem dX10_next_197 : decode cX10_next 197 = .ok (.getfield 133, 3) := by decide +kernel
theorem dX10_next_200 : decode cX10_next 200 = .ok (.invokevirtual 136, 3) := by decide +kernel
theorem dX10_next_203 : decode cX10_next 203 = .ok (.i2l, 1) := by decide +kernel
theorem dX10_next_204 : decode cX10_next 204 = .ok (.ladd, 1) := by decide +kernel
theorem dX10_next_205 : decode cX10_next 205 = .ok (.ldc2_w 150, 3) := by decide +kernel
theorem dX10_next_208 : decode cX10_next 208 = .ok (.lsub, 1) := by decide +kernel
theorem dX10_next_209 : decode cX10_next 209 = .ok (.goto 7, 3) := by decide +kernel
theorem dX10_next_212 : decode cX10_next 212 = .ok (.aload_n 0, 1) := by decide +kernel
theorem dX10_next_213 : decode cX10_next 213 = .ok (.getfield 154, 3) := by decide +kernel
theorem dX10_next_216 : decode cX10_next 216 = .ok (.putfield 154, 3) := by decide +kernel
theorem dX10_next_219 : decode cX10_next 219 = .ok (.iinc 2 1, 3) := by decide +kernel
theorem dX10_next_222 : decode cX10_next 222 = .ok (.aload_n 0, 1) := by decide +kernel
theorem dX10_next_223 : decode cX10_next 223 = .ok (.dup, 1) := by decide +kernel
theorem dX10_next_224 : decode cX10_next 224 = .ok (.getfield 133, 3) := by decide +kernel
theorem dX10_next_227 : decode cX10_next 227 = .ok (.iconst 1, 1) := by decide +kernel
theorem dX10_next_228 : decode cX10_next 228 = .ok (.iadd, 1) := by decide +kernel
theorem dX10_next_229 : decode cX10_next 229 = .ok (.putfield 133, 3) := by decide +kernel
theorem dX10_next_232 : decode cX10_next 232 = .ok (.goto (-72), 3) := by decide +kernel
theorem dX10_next_235 : decode cX10_next 235 = .ok (.aload_n 0, 1) := by decide +kernel
theorem dX10_next_236 : decode cX10_next 236 = .ok (.iload_n 2, 1) := by decide +kernel
theorem dX10_next_237 : decode cX10_next 237 = .ok (.iconst 4, 1) := by decide +kernel
theorem dX10_next_238 : decode cX10_next 238 = .ok (.if_icmp .le 7, 3) := by decide +kernel
theorem dX10_next_241 : decode cX10_next 241 = .ok (.iconst 4, 1) := by decide +kernel
theorem dX10_next_242 : decode cX10_next 242 = .ok (.goto 4, 3) := by decide +kernel
theorem dX10_next_245 : decode cX10_next 245 = .ok (.iconst 2, 1) := by decide +kernel
theorem dX10_next_246 : decode cX10_next 246 = .ok (.putfield 143, 3) := by decide +kernel
theorem dX10_next_249 : decode cX10_next 249 = .ok (.goto 72, 3) := by decide +kernel
theorem dX10_next_252 : decode cX10_next 252 = .ok (.iload_n 1, 1) := by decide +kernel
theorem dX10_next_253 : decode cX10_next 253 = .ok (.bipush 40, 2) := by decide +kernel
theorem dX10_next_255 : decode cX10_next 255 = .ok (.if_icmp .eq 45, 3) := by decide +kernel
theorem dX10_next_258 : decode cX10_next 258 = .ok (.iload_n 1, 1) := by decide +kernel
theorem dX10_next_259 : decode cX10_next 259 = .ok (.bipush 41, 2) := by decide +kernel
theorem dX10_next_261 : decode cX10_next 261 = .ok (.if_icmp .eq 39, 3) := by decide +kernel
theorem dX10_next_264 : decode cX10_next 264 = .ok (.iload_n 1, 1) := by decide +kernel
theorem dX10_next_265 : decode cX10_next 265 = .ok (.bipush 59, 2) := by decide +kernel
theorem dX10_next_267 : decode cX10_next 267 = .ok (.if_icmp .eq 33, 3) := by decide +kernel
theorem dX10_next_270 : decode cX10_next 270 = .ok (.iload_n 1, 1) := by decide +kernel
theorem dX10_next_271 : decode cX10_next 271 = .ok (.bipush 43, 2) := by decide +kernel
theorem dX10_next_273 : decode cX10_next 273 = .ok (.if_icmp .eq 27, 3) := by decide +kernel
theorem dX10_next_276 : decode cX10_next 276 = .ok (.iload_n 1, 1) := by decide +kernel
theorem dX10_next_277 : decode cX10_next 277 = .ok (.bipush 45, 2) := by decide +kernel
theorem dX10_next_279 : decode cX10_next 279 = .ok (.if_icmp .eq 21, 3) := by decide +kernel
theorem dX10_next_282 : decode cX10_next 282 = .ok (.iload_n 1, 1) := by decide +kernel
theorem dX10_next_283 : decode cX10_next 283 = .ok (.bipush 42, 2) := by decide +kernel
theorem dX10_next_285 : decode cX10_next 285 = .ok (.if_icmp .eq 15, 3) := by decide +kernel
theorem dX10_next_288 : decode cX10_next 288 = .ok (.iload_n 1, 1) := by decide +kernel
theorem dX10_next_289 : decode cX10_next 289 = .ok (.bipush 60, 2) := by decide +kernel
theorem dX10_next_291 : decode cX10_next 291 = .ok (.if_icmp .eq 9, 3) := by decide +kernel
theorem dX10_next_294 : decode cX10_next 294 = .ok (.iload_n 1, 1) := by decide +kernel
theorem dX10_next_295 : decode cX10_next 295 = .ok (.bipush 61, 2) := by decide +kernel
theorem dX10_next_297 : decode cX10_next 297 = .ok (.if_icmp .ne 24, 3) := by decide +kernel
theorem dX10_next_300 : decode cX10_next 300 = .ok (.aload_n 0, 1) := by decide +kernel
theorem dX10_next_301 : decode cX10_next 301 = .ok (.iconst 3, 1) := by decide +kernel
theorem dX10_next_302 : decode cX10_next 302 = .ok (.putfield 143, 3) := by decide +kernel
theorem dX10_next_305 : decode cX10_next 305 = .ok (.aload_n 0, 1) := by decide +kernel
theorem dX10_next_306 : decode cX10_next 306 = .ok (.iload_n 1, 1) := by decide +kernel
theorem dX10_next_307 : decode cX10_next 307 = .ok (.i2l, 1) := by decide +kernel
theorem dX10_next_308 : decode cX10_next 308 = .ok (.putfield 154, 3) := by decide +kernel
theorem dX10_next_311 : decode cX10_next 311 = .ok (.aload_n 0, 1) := by decide +kernel
theorem dX10_next_312 : decode cX10_next 312 = .ok (.dup, 1) := by decide +kernel
theorem dX10_next_313 : decode cX10_next 313 = .ok (.getfield 133, 3) := by decide +kernel
theorem dX10_next_316 : decode cX10_next 316 = .ok (.iconst 1, 1) := by decide +kernel
theorem dX10_next_317 : decode cX10_next 317 = .ok (.iadd, 1) := by decide +kernel
theorem dX10_next_318 : decode cX10_next 318 = .ok (.putfield 133, 3) := by decide +kernel
theorem dX10_next_321 : decode cX10_next 321 = .ok (.return_, 1) := by decide +kernel
theorem dX10_fail_0 : decode cX10_fail 0 = .ok (.aload_n 0, 1) := by decide +kernel
theorem dX10_fail_1 : decode cX10_fail 1 = .ok (.getfield 160, 3) := by decide +kernel
theorem dX10_fail_4 : decode cX10_fail 4 = .ok (.ifCond .ne 16, 3) := by decide +kernel
theorem dX10_fail_7 : decode cX10_fail 7 = .ok (.aload_n 0, 1) := by decide +kernel
theorem dX10_fail_8 : decode cX10_fail 8 = .ok (.iconst 1, 1) := by decide +kernel
theorem dX10_fail_9 : decode cX10_fail 9 = .ok (.putfield 160, 3) := by decide +kernel
theorem dX10_fail_12 : decode cX10_fail 12 = .ok (.aload_n 0, 1) := by decide +kernel
theorem dX10_fail_13 : decode cX10_fail 13 = .ok (.aload_n 0, 1) := by decide +kernel
theorem dX10_fail_14 : decode cX10_fail 14 = .ok (.getfield 140, 3) := by decide +kernel
theorem dX10_fail_17 : decode cX10_fail 17 = .ok (.putfield 164, 3) := by decide +kernel
theorem dX10_fail_20 : decode cX10_fail 20 = .ok (.return_, 1) := by decide +kernel
theorem dX10_isLetter_0 : decode cX10_isLetter 0 = .ok (.aload_n 0, 1) := by decide +kernel
theorem dX10_isLetter_1 : decode cX10_isLetter 1 = .ok (.getfield 140, 3) := by decide +kernel
theorem dX10_isLetter_4 : decode cX10_isLetter 4 = .ok (.iload_n 1, 1) := by decide +kernel
theorem dX10_isLetter_5 : decode cX10_isLetter 5 = .ok (.iadd, 1) := by decide +kernel
theorem dX10_isLetter_6 : decode cX10_isLetter 6 = .ok (.aload_n 0, 1) := by decide +kernel
theorem dX10_isLetter_7 : decode cX10_isLetter 7 = .ok (.getfield 133, 3) := by decide +kernel
theorem dX10_isLetter_10 : decode cX10_isLetter 10 = .ok (.if_icmp .ge 25, 3) := by decide +kernel
theorem dX10_isLetter_13 : decode cX10_isLetter 13 = .ok (.aload_n 0, 1) := by decide +kernel
theorem dX10_isLetter_14 : decode cX10_isLetter 14 = .ok (.aload_n 0, 1) := by decide +kernel
theorem dX10_isLetter_15 : decode cX10_isLetter 15 = .ok (.getfield 140, 3) := by decide +kernel
theorem dX10_isLetter_18 : decode cX10_isLetter 18 = .ok (.iload_n 1, 1) := by decide +kernel
theorem dX10_isLetter_19 : decode cX10_isLetter 19 = .ok (.iadd, 1) := by decide +kernel
theorem dX10_isLetter_20 : decode cX10_isLetter 20 = .ok (.invokevirtual 136, 3) := by decide +kernel
theorem dX10_isLetter_23 : decode cX10_isLetter 23 = .ok (.iload_n 2, 1) := by decide +kernel
theorem dX10_isLetter_24 : decode cX10_isLetter 24 = .ok (.if_icmp .ne 7, 3) := by decide +kernel
theorem dX10_isLetter_27 : decode cX10_isLetter 27 = .ok (.iconst 1, 1) := by decide +kernel
theorem dX10_isLetter_28 : decode cX10_isLetter 28 = .ok (.goto 16, 3) := by decide +kernel
theorem dX10_isLetter_31 : decode cX10_isLetter 31 = .ok (.iconst 0, 1) := by decide +kernel
theorem dX10_isLetter_32 : decode cX10_isLetter 32 = .ok (.goto 12, 3) := by decide +kernel
theorem dX10_isLetter_35 : decode cX10_isLetter 35 = .ok (.iload_n 2, 1) := by decide +kernel
theorem dX10_isLetter_36 : decode cX10_isLetter 36 = .ok (.ifCond .ne 7, 3) := by decide +kernel
theorem dX10_isLetter_39 : decode cX10_isLetter 39 = .ok (.iconst 1, 1) := by decide +kernel
theorem dX10_isLetter_40 : decode cX10_isLetter 40 = .ok (.goto 4, 3) := by decide +kernel
theorem dX10_isLetter_43 : decode cX10_isLetter 43 = .ok (.iconst 0, 1) := by decide +kernel
theorem dX10_isLetter_44 : decode cX10_isLetter 44 = .ok (.ireturn, 1) := by decide +kernel
theorem dX10_isWord_0 : decode cX10_isWord 0 = .ok (.aload_n 0, 1) := by decide +kernel
theorem dX10_isWord_1 : decode cX10_isWord 1 = .ok (.getfield 160, 3) := by decide +kernel
theorem dX10_isWord_4 : decode cX10_isWord 4 = .ok (.ifCond .ne 108, 3) := by decide +kernel
theorem dX10_isWord_7 : decode cX10_isWord 7 = .ok (.aload_n 0, 1) := by decide +kernel
theorem dX10_isWord_8 : decode cX10_isWord 8 = .ok (.getfield 143, 3) := by decide +kernel
theorem dX10_isWord_11 : decode cX10_isWord 11 = .ok (.iconst 1, 1) := by decide +kernel
theorem dX10_isWord_12 : decode cX10_isWord 12 = .ok (.if_icmp .ne 100, 3) := by decide +kernel
theorem dX10_isWord_15 : decode cX10_isWord 15 = .ok (.aload_n 0, 1) := by decide +kernel
theorem dX10_isWord_16 : decode cX10_isWord 16 = .ok (.getfield 133, 3) := by decide +kernel
theorem dX10_isWord_19 : decode cX10_isWord 19 = .ok (.aload_n 0, 1) := by decide +kernel
theorem dX10_isWord_20 : decode cX10_isWord 20 = .ok (.getfield 140, 3) := by decide +kernel
theorem dX10_isWord_23 : decode cX10_isWord 23 = .ok (.bipush 8, 2) := by decide +kernel
theorem dX10_isWord_25 : decode cX10_isWord 25 = .ok (.iadd, 1) := by decide +kernel
theorem dX10_isWord_26 : decode cX10_isWord 26 = .ok (.if_icmp .gt 86, 3) := by decide +kernel
theorem dX10_isWord_29 : decode cX10_isWord 29 = .ok (.aload_n 0, 1) := by decide +kernel
theorem dX10_isWord_30 : decode cX10_isWord 30 = .ok (.iconst 0, 1) := by decide +kernel
theorem dX10_isWord_31 : decode cX10_isWord 31 = .ok (.iload_n 1, 1) := by decide +kernel
theorem dX10_isWord_32 : decode cX10_isWord 32 = .ok (.invokevirtual 167, 3) := by decide +kernel
theorem dX10_isWord_35 : decode cX10_isWord 35 = .ok (.ifCond .eq 77, 3) := by decide +kernel
theorem dX10_isWord_38 : decode cX10_isWord 38 = .ok (.aload_n 0, 1) := by decide +kernel
theorem dX10_isWord_39 : decode cX10_isWord 39 = .ok (.iconst 1, 1) := by decide +kernel
theorem dX10_isWord_40 : decode cX10_isWord 40 = .ok (.iload_n 2, 1) := by decide +kernel
theorem dX10_isWord_41 : decode cX10_isWord 41 = .ok (.invokevirtual 167, 3) := by decide +kernel
theorem dX10_isWord_44 : decode cX10_isWord 44 = .ok (.ifCond .eq 68, 3) := by decide +kernel
theorem dX10_isWord_47 : decode cX10_isWord 47 = .ok (.aload_n 0, 1) := by decide +kernel
theorem dX10_isWord_48 : decode cX10_isWord 48 = .ok (.iconst 2, 1) := by decide +kernel
theorem dX10_isWord_49 : decode cX10_isWord 49 = .ok (.iload_n 3, 1) := by decide +kernel
theorem dX10_isWord_50 : decode cX10_isWord 50 = .ok (.invokevirtual 167, 3) := by decide +kernel
theorem dX10_isWord_53 : decode cX10_isWord 53 = .ok (.ifCond .eq 59, 3) := by decide +kernel
theorem dX10_isWord_56 : decode cX10_isWord 56 = .ok (.aload_n 0, 1) := by decide +kernel
theorem dX10_isWord_57 : decode cX10_isWord 57 = .ok (.iconst 3, 1) := by decide +kernel
theorem dX10_isWord_58 : decode cX10_isWord 58 = .ok (.iload 4, 2) := by decide +kernel
theorem dX10_isWord_60 : decode cX10_isWord 60 = .ok (.invokevirtual 167, 3) := by decide +kernel
theorem dX10_isWord_63 : decode cX10_isWord 63 = .ok (.ifCond .eq 49, 3) := by decide +kernel
theorem dX10_isWord_66 : decode cX10_isWord 66 = .ok (.aload_n 0, 1) := by decide +kernel
theorem dX10_isWord_67 : decode cX10_isWord 67 = .ok (.iconst 4, 1) := by decide +kernel
theorem dX10_isWord_68 : decode cX10_isWord 68 = .ok (.iload 5, 2) := by decide +kernel
theorem dX10_isWord_70 : decode cX10_isWord 70 = .ok (.invokevirtual 167, 3) := by decide +kernel
theorem dX10_isWord_73 : decode cX10_isWord 73 = .ok (.ifCond .eq 39, 3) := by decide +kernel
theorem dX10_isWord_76 : decode cX10_isWord 76 = .ok (.aload_n 0, 1) := by decide +kernel
theorem dX10_isWord_77 : decode cX10_isWord 77 = .ok (.iconst 5, 1) := by decide +kernel
theorem dX10_isWord_78 : decode cX10_isWord 78 = .ok (.iload 6, 2) := by decide +kernel
theorem dX10_isWord_80 : decode cX10_isWord 80 = .ok (.invokevirtual 167, 3) := by decide +kernel
theorem dX10_isWord_83 : decode cX10_isWord 83 = .ok (.ifCond .eq 29, 3) := by decide +kernel
theorem dX10_isWord_86 : decode cX10_isWord 86 = .ok (.aload_n 0, 1) := by decide +kernel
theorem dX10_isWord_87 : decode cX10_isWord 87 = .ok (.bipush 6, 2) := by decide +kernel
theorem dX10_isWord_89 : decode cX10_isWord 89 = .ok (.iload 7, 2) := by decide +kernel
theorem dX10_isWord_91 : decode cX10_isWord 91 = .ok (.invokevirtual 167, 3) := by decide +kernel
theorem dX10_isWord_94 : decode cX10_isWord 94 = .ok (.ifCond .eq 18, 3) := by decide +kernel
theorem dX10_isWord_97 : decode cX10_isWord 97 = .ok (.aload_n 0, 1) := by decide +kernel
theorem dX10_isWord_98 : decode cX10_isWord 98 = .ok (.bipush 7, 2) := by decide +kernel
theorem dX10_isWord_100 : decode cX10_isWord 100 = .ok (.iload 8, 2) := by decide +kernel
theorem dX10_isWord_102 : decode cX10_isWord 102 = .ok (.invokevirtual 167, 3) := by decide +kernel
theorem dX10_isWord_105 : decode cX10_isWord 105 = .ok (.ifCond .eq 7, 3) := by decide +kernel
theorem dX10_isWord_108 : decode cX10_isWord 108 = .ok (.iconst 1, 1) := by decide +kernel
theorem dX10_isWord_109 : decode cX10_isWord 109 = .ok (.goto 4, 3) := by decide +kernel
theorem dX10_isWord_112 : decode cX10_isWord 112 = .ok (.iconst 0, 1) := by decide +kernel
theorem dX10_isWord_113 : decode cX10_isWord 113 = .ok (.ireturn, 1) := by decide +kernel
theorem dX10_isSign_0 : decode cX10_isSign 0 = .ok (.aload_n 0, 1) := by decide +kernel
theorem dX10_isSign_1 : decode cX10_isSign 1 = .ok (.getfield 160, 3) := by decide +kernel
theorem dX10_isSign_4 : decode cX10_isSign 4 = .ok (.ifCond .ne 25, 3) := by decide +kernel
theorem dX10_isSign_7 : decode cX10_isSign 7 = .ok (.aload_n 0, 1) := by decide +kernel
theorem dX10_isSign_8 : decode cX10_isSign 8 = .ok (.getfield 143, 3) := by decide +kernel
theorem dX10_isSign_11 : decode cX10_isSign 11 = .ok (.iconst 3, 1) := by decide +kernel
theorem dX10_isSign_12 : decode cX10_isSign 12 = .ok (.if_icmp .ne 17, 3) := by decide +kernel
theorem dX10_isSign_15 : decode cX10_isSign 15 = .ok (.aload_n 0, 1) := by decide +kernel
theorem dX10_isSign_16 : decode cX10_isSign 16 = .ok (.getfield 154, 3) := by decide +kernel
theorem dX10_isSign_19 : decode cX10_isSign 19 = .ok (.iload_n 1, 1) := by decide +kernel
theorem dX10_isSign_20 : decode cX10_isSign 20 = .ok (.i2l, 1) := by decide +kernel
theorem dX10_isSign_21 : decode cX10_isSign 21 = .ok (.lcmp, 1) := by decide +kernel
theorem dX10_isSign_22 : decode cX10_isSign 22 = .ok (.ifCond .ne 7, 3) := by decide +kernel
theorem dX10_isSign_25 : decode cX10_isSign 25 = .ok (.iconst 1, 1) := by decide +kernel
theorem dX10_isSign_26 : decode cX10_isSign 26 = .ok (.goto 4, 3) := by decide +kernel
theorem dX10_isSign_29 : decode cX10_isSign 29 = .ok (.iconst 0, 1) := by decide +kernel
theorem dX10_isSign_30 : decode cX10_isSign 30 = .ok (.ireturn, 1) := by decide +kernel
theorem dX10_opens_0 : decode cX10_opens 0 = .ok (.aload_n 0, 1) := by decide +kernel
theorem dX10_opens_1 : decode cX10_opens 1 = .ok (.getfield 170, 3) := by decide +kernel
theorem dX10_opens_4 : decode cX10_opens 4 = .ok (.iconst 5, 1) := by decide +kernel
theorem dX10_opens_5 : decode cX10_opens 5 = .ok (.if_icmp .ne 9, 3) := by decide +kernel
theorem dX10_opens_8 : decode cX10_opens 8 = .ok (.aload_n 0, 1) := by decide +kernel
theorem dX10_opens_9 : decode cX10_opens 9 = .ok (.invokevirtual 173, 3) := by decide +kernel
theorem dX10_opens_12 : decode cX10_opens 12 = .ok (.iconst 0, 1) := by decide +kernel
theorem dX10_opens_13 : decode cX10_opens 13 = .ok (.ireturn, 1) := by decide +kernel
theorem dX10_opens_14 : decode cX10_opens 14 = .ok (.aload_n 0, 1) := by decide +kernel
theorem dX10_opens_15 : decode cX10_opens 15 = .ok (.dup, 1) := by decide +kernel
theorem dX10_opens_16 : decode cX10_opens 16 = .ok (.getfield 170, 3) := by decide +kernel
theorem dX10_opens_19 : decode cX10_opens 19 = .ok (.iconst 1, 1) := by decide +kernel
theorem dX10_opens_20 : decode cX10_opens 20 = .ok (.iadd, 1) := by decide +kernel
theorem dX10_opens_21 : decode cX10_opens 21 = .ok (.putfield 170, 3) := by decide +kernel
theorem dX10_opens_24 : decode cX10_opens 24 = .ok (.aload_n 0, 1) := by decide +kernel
theorem dX10_opens_25 : decode cX10_opens 25 = .ok (.invokevirtual 176, 3) := by decide +kernel
theorem dX10_opens_28 : decode cX10_opens 28 = .ok (.iconst 1, 1) := by decide +kernel
theorem dX10_opens_29 : decode cX10_opens 29 = .ok (.ireturn, 1) := by decide +kernel
theorem dX10_name_0 : decode cX10_name 0 = .ok (.aload_n 0, 1) := by decide +kernel
theorem dX10_name_1 : decode cX10_name 1 = .ok (.bipush 100, 2) := by decide +kernel
theorem dX10_name_3 : decode cX10_name 3 = .ok (.bipush 97, 2) := by decide +kernel
theorem dX10_name_5 : decode cX10_name 5 = .ok (.bipush 121, 2) := by decide +kernel
theorem dX10_name_7 : decode cX10_name 7 = .ok (.iconst 0, 1) := by decide +kernel
theorem dX10_name_8 : decode cX10_name 8 = .ok (.iconst 0, 1) := by decide +kernel
theorem dX10_name_9 : decode cX10_name 9 = .ok (.iconst 0, 1) := by decide +kernel
theorem dX10_name_10 : decode cX10_name 10 = .ok (.iconst 0, 1) := by decide +kernel
theorem dX10_name_11 : decode cX10_name 11 = .ok (.iconst 0, 1) := by decide +kernel
theorem dX10_name_12 : decode cX10_name 12 = .ok (.invokevirtual 179, 3) := by decide +kernel
theorem dX10_name_15 : decode cX10_name 15 = .ok (.ifCond .eq 8, 3) := by decide +kernel
theorem dX10_name_18 : decode cX10_name 18 = .ok (.aload_n 0, 1) := by decide +kernel
theorem dX10_name_19 : decode cX10_name 19 = .ok (.getfield 183, 3) := by decide +kernel
theorem dX10_name_22 : decode cX10_name 22 = .ok (.ireturn, 1) := by decide +kernel
theorem dX10_name_23 : decode cX10_name 23 = .ok (.aload_n 0, 1) := by decide +kernel
theorem dX10_name_24 : decode cX10_name 24 = .ok (.bipush 116, 2) := by decide +kernel
theorem dX10_name_26 : decode cX10_name 26 = .ok (.bipush 104, 2) := by decide +kernel
theorem dX10_name_28 : decode cX10_name 28 = .ok (.bipush 105, 2) := by decide +kernel
theorem dX10_name_30 : decode cX10_name 30 = .ok (.bipush 110, 2) := by decide +kernel
theorem dX10_name_32 : decode cX10_name 32 = .ok (.bipush 103, 2) := by decide +kernel
theorem dX10_name_34 : decode cX10_name 34 = .ok (.iconst 0, 1) := by decide +kernel
theorem dX10_name_35 : decode cX10_name 35 = .ok (.iconst 0, 1) := by decide +kernel
theorem dX10_name_36 : decode cX10_name 36 = .ok (.iconst 0, 1) := by decide +kernel
theorem dX10_name_37 : decode cX10_name 37 = .ok (.invokevirtual 179, 3) := by decide +kernel
theorem dX10_name_40 : decode cX10_name 40 = .ok (.ifCond .eq 8, 3) := by decide +kernel
theorem dX10_name_43 : decode cX10_name 43 = .ok (.aload_n 0, 1) := by decide +kernel
theorem dX10_name_44 : decode cX10_name 44 = .ok (.getfield 186, 3) := by decide +kernel
theorem dX10_name_47 : decode cX10_name 47 = .ok (.ireturn, 1) := by decide +kernel
theorem dX10_name_48 : decode cX10_name 48 = .ok (.aload_n 0, 1) := by decide +kernel
theorem dX10_name_49 : decode cX10_name 49 = .ok (.bipush 109, 2) := by decide +kernel
theorem dX10_name_51 : decode cX10_name 51 = .ok (.bipush 97, 2) := by decide +kernel
theorem dX10_name_53 : decode cX10_name 53 = .ok (.bipush 110, 2) := by decide +kernel
theorem dX10_name_55 : decode cX10_name 55 = .ok (.bipush 121, 2) := by decide +kernel
theorem dX10_name_57 : decode cX10_name 57 = .ok (.iconst 0, 1) := by decide +kernel
theorem dX10_name_58 : decode cX10_name 58 = .ok (.iconst 0, 1) := by decide +kernel
theorem dX10_name_59 : decode cX10_name 59 = .ok (.iconst 0, 1) := by decide +kernel
theorem dX10_name_60 : decode cX10_name 60 = .ok (.iconst 0, 1) := by decide +kernel
theorem dX10_name_61 : decode cX10_name 61 = .ok (.invokevirtual 179, 3) := by decide +kernel
theorem dX10_name_64 : decode cX10_name 64 = .ok (.ifCond .eq 8, 3) := by decide +kernel
theorem dX10_name_67 : decode cX10_name 67 = .ok (.aload_n 0, 1) := by decide +kernel
theorem dX10_name_68 : decode cX10_name 68 = .ok (.getfield 189, 3) := by decide +kernel
theorem dX10_name_71 : decode cX10_name 71 = .ok (.ireturn, 1) := by decide +kernel
theorem dX10_name_72 : decode cX10_name 72 = .ok (.aload_n 0, 1) := by decide +kernel
theorem dX10_name_73 : decode cX10_name 73 = .ok (.bipush 112, 2) := by decide +kernel
theorem dX10_name_75 : decode cX10_name 75 = .ok (.bipush 101, 2) := by decide +kernel
theorem dX10_name_77 : decode cX10_name 77 = .ok (.bipush 114, 2) := by decide +kernel
theorem dX10_name_79 : decode cX10_name 79 = .ok (.bipush 105, 2) := by decide +kernel
theorem dX10_name_81 : decode cX10_name 81 = .ok (.bipush 111, 2) := by decide +kernel
theorem dX10_name_83 : decode cX10_name 83 = .ok (.bipush 100, 2) := by decide +kernel
theorem dX10_name_85 : decode cX10_name 85 = .ok (.iconst 0, 1) := by decide +kernel
theorem dX10_name_86 : decode cX10_name 86 = .ok (.iconst 0, 1) := by decide +kernel
theorem dX10_name_87 : decode cX10_name 87 = .ok (.invokevirtual 179, 3) := by decide +kernel
theorem dX10_name_90 : decode cX10_name 90 = .ok (.ifCond .eq 8, 3) := by decide +kernel
theorem dX10_name_93 : decode cX10_name 93 = .ok (.aload_n 0, 1) := by decide +kernel
theorem dX10_name_94 : decode cX10_name 94 = .ok (.getfield 192, 3) := by decide +kernel
theorem dX10_name_97 : decode cX10_name 97 = .ok (.ireturn, 1) := by decide +kernel
theorem dX10_name_98 : decode cX10_name 98 = .ok (.aload_n 0, 1) := by decide +kernel
theorem dX10_name_99 : decode cX10_name 99 = .ok (.bipush 114, 2) := by decide +kernel
theorem dX10_name_101 : decode cX10_name 101 = .ok (.bipush 101, 2) := by decide +kernel
theorem dX10_name_103 : decode cX10_name 103 = .ok (.bipush 115, 2) := by decide +kernel
theorem dX10_name_105 : decode cX10_name 105 = .ok (.bipush 116, 2) := by decide +kernel
theorem dX10_name_107 : decode cX10_name 107 = .ok (.iconst 0, 1) := by decide +kernel
theorem dX10_name_108 : decode cX10_name 108 = .ok (.iconst 0, 1) := by decide +kernel
theorem dX10_name_109 : decode cX10_name 109 = .ok (.iconst 0, 1) := by decide +kernel
theorem dX10_name_110 : decode cX10_name 110 = .ok (.iconst 0, 1) := by decide +kernel
theorem dX10_name_111 : decode cX10_name 111 = .ok (.invokevirtual 179, 3) := by decide +kernel
theorem dX10_name_114 : decode cX10_name 114 = .ok (.ifCond .eq 8, 3) := by decide +kernel
theorem dX10_name_117 : decode cX10_name 117 = .ok (.aload_n 0, 1) := by decide +kernel
theorem dX10_name_118 : decode cX10_name 118 = .ok (.getfield 195, 3) := by decide +kernel
theorem dX10_name_121 : decode cX10_name 121 = .ok (.ireturn, 1) := by decide +kernel
theorem dX10_name_122 : decode cX10_name 122 = .ok (.aload_n 0, 1) := by decide +kernel
theorem dX10_name_123 : decode cX10_name 123 = .ok (.bipush 110, 2) := by decide +kernel
theorem dX10_name_125 : decode cX10_name 125 = .ok (.bipush 117, 2) := by decide +kernel
theorem dX10_name_127 : decode cX10_name 127 = .ok (.bipush 109, 2) := by decide +kernel
theorem dX10_name_129 : decode cX10_name 129 = .ok (.bipush 98, 2) := by decide +kernel
theorem dX10_name_131 : decode cX10_name 131 = .ok (.bipush 101, 2) := by decide +kernel
theorem dX10_name_133 : decode cX10_name 133 = .ok (.bipush 114, 2) := by decide +kernel
theorem dX10_name_135 : decode cX10_name 135 = .ok (.iconst 0, 1) := by decide +kernel
theorem dX10_name_136 : decode cX10_name 136 = .ok (.iconst 0, 1) := by decide +kernel
theorem dX10_name_137 : decode cX10_name 137 = .ok (.invokevirtual 179, 3) := by decide +kernel
theorem dX10_name_140 : decode cX10_name 140 = .ok (.ifCond .eq 8, 3) := by decide +kernel
theorem dX10_name_143 : decode cX10_name 143 = .ok (.aload_n 0, 1) := by decide +kernel
theorem dX10_name_144 : decode cX10_name 144 = .ok (.getfield 198, 3) := by decide +kernel
theorem dX10_name_147 : decode cX10_name 147 = .ok (.ireturn, 1) := by decide +kernel
theorem dX10_name_148 : decode cX10_name 148 = .ok (.aload_n 0, 1) := by decide +kernel
theorem dX10_name_149 : decode cX10_name 149 = .ok (.invokevirtual 173, 3) := by decide +kernel
theorem dX10_name_152 : decode cX10_name 152 = .ok (.iconst 0, 1) := by decide +kernel
theorem dX10_name_153 : decode cX10_name 153 = .ok (.ireturn, 1) := by decide +kernel
theorem dX10_atom5_0 : decode cX10_atom5 0 = .ok (.iconst 0, 1) := by decide +kernel
theorem dX10_atom5_1 : decode cX10_atom5 1 = .ok (.istore_n 1, 1) := by decide +kernel
theorem dX10_atom5_2 : decode cX10_atom5 2 = .ok (.aload_n 0, 1) := by decide +kernel
theorem dX10_atom5_3 : decode cX10_atom5 3 = .ok (.bipush 45, 2) := by decide +kernel
theorem dX10_atom5_5 : decode cX10_atom5 5 = .ok (.invokevirtual 201, 3) := by decide +kernel
theorem dX10_atom5_8 : decode cX10_atom5 8 = .ok (.ifCond .eq 11, 3) := by decide +kernel
theorem dX10_atom5_11 : decode cX10_atom5 11 = .ok (.aload_n 0, 1) := by decide +kernel
theorem dX10_atom5_12 : decode cX10_atom5 12 = .ok (.invokevirtual 204, 3) := by decide +kernel
theorem dX10_atom5_15 : decode cX10_atom5 15 = .ok (.pop, 1) := by decide +kernel
theorem dX10_atom5_16 : decode cX10_atom5 16 = .ok (.goto 86, 3) := by decide +kernel
theorem dX10_atom5_19 : decode cX10_atom5 19 = .ok (.aload_n 0, 1) := by decide +kernel
theorem dX10_atom5_20 : decode cX10_atom5 20 = .ok (.bipush 40, 2) := by decide +kernel
theorem dX10_atom5_22 : decode cX10_atom5 22 = .ok (.invokevirtual 201, 3) := by decide +kernel
theorem dX10_atom5_25 : decode cX10_atom5 25 = .ok (.ifCond .eq 11, 3) := by decide +kernel
theorem dX10_atom5_28 : decode cX10_atom5 28 = .ok (.aload_n 0, 1) := by decide +kernel
theorem dX10_atom5_29 : decode cX10_atom5 29 = .ok (.invokevirtual 204, 3) := by decide +kernel
theorem dX10_atom5_32 : decode cX10_atom5 32 = .ok (.pop, 1) := by decide +kernel
theorem dX10_atom5_33 : decode cX10_atom5 33 = .ok (.goto 69, 3) := by decide +kernel
theorem dX10_atom5_36 : decode cX10_atom5 36 = .ok (.aload_n 0, 1) := by decide +kernel
theorem dX10_atom5_37 : decode cX10_atom5 37 = .ok (.getfield 160, 3) := by decide +kernel
theorem dX10_atom5_40 : decode cX10_atom5 40 = .ok (.ifCond .ne 24, 3) := by decide +kernel
theorem dX10_atom5_43 : decode cX10_atom5 43 = .ok (.aload_n 0, 1) := by decide +kernel
theorem dX10_atom5_44 : decode cX10_atom5 44 = .ok (.getfield 143, 3) := by decide +kernel
theorem dX10_atom5_47 : decode cX10_atom5 47 = .ok (.iconst 2, 1) := by decide +kernel
theorem dX10_atom5_48 : decode cX10_atom5 48 = .ok (.if_icmp .ne 16, 3) := by decide +kernel
theorem dX10_atom5_51 : decode cX10_atom5 51 = .ok (.aload_n 0, 1) := by decide +kernel
theorem dX10_atom5_52 : decode cX10_atom5 52 = .ok (.getfield 154, 3) := by decide +kernel
theorem dX10_atom5_55 : decode cX10_atom5 55 = .ok (.l2i, 1) := by decide +kernel
theorem dX10_atom5_56 : decode cX10_atom5 56 = .ok (.istore_n 1, 1) := by decide +kernel
theorem dX10_atom5_57 : decode cX10_atom5 57 = .ok (.aload_n 0, 1) := by decide +kernel
theorem dX10_atom5_58 : decode cX10_atom5 58 = .ok (.invokevirtual 176, 3) := by decide +kernel
theorem dX10_atom5_61 : decode cX10_atom5 61 = .ok (.goto 41, 3) := by decide +kernel
theorem dX10_atom5_64 : decode cX10_atom5 64 = .ok (.aload_n 0, 1) := by decide +kernel
theorem dX10_atom5_65 : decode cX10_atom5 65 = .ok (.getfield 160, 3) := by decide +kernel
theorem dX10_atom5_68 : decode cX10_atom5 68 = .ok (.ifCond .ne 30, 3) := by decide +kernel
theorem dX10_atom5_71 : decode cX10_atom5 71 = .ok (.aload_n 0, 1) := by decide +kernel
theorem dX10_atom5_72 : decode cX10_atom5 72 = .ok (.getfield 143, 3) := by decide +kernel
theorem dX10_atom5_75 : decode cX10_atom5 75 = .ok (.iconst 1, 1) := by decide +kernel
theorem dX10_atom5_76 : decode cX10_atom5 76 = .ok (.if_icmp .ne 22, 3) := by decide +kernel
theorem dX10_atom5_79 : decode cX10_atom5 79 = .ok (.aload_n 0, 1) := by decide +kernel
theorem dX10_atom5_80 : decode cX10_atom5 80 = .ok (.invokevirtual 208, 3) := by decide +kernel
theorem dX10_atom5_83 : decode cX10_atom5 83 = .ok (.istore_n 1, 1) := by decide +kernel
theorem dX10_atom5_84 : decode cX10_atom5 84 = .ok (.aload_n 0, 1) := by decide +kernel
theorem dX10_atom5_85 : decode cX10_atom5 85 = .ok (.getfield 160, 3) := by decide +kernel
theorem dX10_atom5_88 : decode cX10_atom5 88 = .ok (.ifCond .ne 14, 3) := by decide +kernel
theorem dX10_atom5_91 : decode cX10_atom5 91 = .ok (.aload_n 0, 1) := by decide +kernel
theorem dX10_atom5_92 : decode cX10_atom5 92 = .ok (.invokevirtual 176, 3) := by decide +kernel
theorem dX10_atom5_95 : decode cX10_atom5 95 = .ok (.goto 7, 3) := by decide +kernel
theorem dX10_atom5_98 : decode cX10_atom5 98 = .ok (.aload_n 0, 1) := by decide +kernel
theorem dX10_atom5_99 : decode cX10_atom5 99 = .ok (.invokevirtual 173, 3) := by decide +kernel
theorem dX10_atom5_102 : decode cX10_atom5 102 = .ok (.iload_n 1, 1) := by decide +kernel
theorem dX10_atom5_103 : decode cX10_atom5 103 = .ok (.ireturn, 1) := by decide +kernel
theorem dX10_term5_0 : decode cX10_term5 0 = .ok (.aload_n 0, 1) := by decide +kernel
theorem dX10_term5_1 : decode cX10_term5 1 = .ok (.invokevirtual 212, 3) := by decide +kernel
theorem dX10_term5_4 : decode cX10_term5 4 = .ok (.istore_n 1, 1) := by decide +kernel
theorem dX10_term5_5 : decode cX10_term5 5 = .ok (.aload_n 0, 1) := by decide +kernel
theorem dX10_term5_6 : decode cX10_term5 6 = .ok (.bipush 42, 2) := by decide +kernel
theorem dX10_term5_8 : decode cX10_term5 8 = .ok (.invokevirtual 201, 3) := by decide +kernel
theorem dX10_term5_11 : decode cX10_term5 11 = .ok (.ifCond .eq 17, 3) := by decide +kernel
theorem dX10_term5_14 : decode cX10_term5 14 = .ok (.aload_n 0, 1) := by decide +kernel
theorem dX10_term5_15 : decode cX10_term5 15 = .ok (.invokevirtual 176, 3) := by decide +kernel
theorem dX10_term5_18 : decode cX10_term5 18 = .ok (.iload_n 1, 1) := by decide +kernel
theorem dX10_term5_19 : decode cX10_term5 19 = .ok (.aload_n 0, 1) := by decide +kernel
theorem dX10_term5_20 : decode cX10_term5 20 = .ok (.invokevirtual 212, 3) := by decide +kernel
theorem dX10_term5_23 : decode cX10_term5 23 = .ok (.imul, 1) := by decide +kernel
theorem dX10_term5_24 : decode cX10_term5 24 = .ok (.istore_n 1, 1) := by decide +kernel
theorem dX10_term5_25 : decode cX10_term5 25 = .ok (.goto (-20), 3) := by decide +kernel
theorem dX10_term5_28 : decode cX10_term5 28 = .ok (.iload_n 1, 1) := by decide +kernel
theorem dX10_term5_29 : decode cX10_term5 29 = .ok (.ireturn, 1) := by decide +kernel
theorem dX10_added5_0 : decode cX10_added5 0 = .ok (.aload_n 0, 1) := by decide +kernel
theorem dX10_added5_1 : decode cX10_added5 1 = .ok (.invokevirtual 215, 3) := by decide +kernel
theorem dX10_added5_4 : decode cX10_added5 4 = .ok (.istore_n 1, 1) := by decide +kernel
theorem dX10_added5_5 : decode cX10_added5 5 = .ok (.aload_n 0, 1) := by decide +kernel
theorem dX10_added5_6 : decode cX10_added5 6 = .ok (.bipush 43, 2) := by decide +kernel
theorem dX10_added5_8 : decode cX10_added5 8 = .ok (.invokevirtual 201, 3) := by decide +kernel
theorem dX10_added5_11 : decode cX10_added5 11 = .ok (.ifCond .ne 12, 3) := by decide +kernel
theorem dX10_added5_14 : decode cX10_added5 14 = .ok (.aload_n 0, 1) := by decide +kernel
theorem dX10_added5_15 : decode cX10_added5 15 = .ok (.bipush 45, 2) := by decide +kernel
theorem dX10_added5_17 : decode cX10_added5 17 = .ok (.invokevirtual 201, 3) := by decide +kernel
theorem dX10_added5_20 : decode cX10_added5 20 = .ok (.ifCond .eq 46, 3) := by decide +kernel
theorem dX10_added5_23 : decode cX10_added5 23 = .ok (.aload_n 0, 1) := by decide +kernel
theorem dX10_added5_24 : decode cX10_added5 24 = .ok (.getfield 154, 3) := by decide +kernel
theorem dX10_added5_27 : decode cX10_added5 27 = .ok (.ldc2_w 218, 3) := by decide +kernel
theorem dX10_added5_30 : decode cX10_added5 30 = .ok (.lcmp, 1) := by decide +kernel
theorem dX10_added5_31 : decode cX10_added5 31 = .ok (.ifCond .ne 7, 3) := by decide +kernel
theorem dX10_added5_34 : decode cX10_added5 34 = .ok (.iconst 1, 1) := by decide +kernel
theorem dX10_added5_35 : decode cX10_added5 35 = .ok (.goto 4, 3) := by decide +kernel
theorem dX10_added5_38 : decode cX10_added5 38 = .ok (.iconst 0, 1) := by decide +kernel
theorem dX10_added5_39 : decode cX10_added5 39 = .ok (.istore_n 2, 1) := by decide +kernel
theorem dX10_added5_40 : decode cX10_added5 40 = .ok (.aload_n 0, 1) := by decide +kernel
theorem dX10_added5_41 : decode cX10_added5 41 = .ok (.invokevirtual 176, 3) := by decide +kernel
theorem dX10_added5_44 : decode cX10_added5 44 = .ok (.aload_n 0, 1) := by decide +kernel
theorem dX10_added5_45 : decode cX10_added5 45 = .ok (.invokevirtual 215, 3) := by decide +kernel
theorem dX10_added5_48 : decode cX10_added5 48 = .ok (.istore_n 3, 1) := by decide +kernel
theorem dX10_added5_49 : decode cX10_added5 49 = .ok (.iload_n 2, 1) := by decide +kernel
theorem dX10_added5_50 : decode cX10_added5 50 = .ok (.ifCond .eq 9, 3) := by decide +kernel
theorem dX10_added5_53 : decode cX10_added5 53 = .ok (.iload_n 1, 1) := by decide +kernel
theorem dX10_added5_54 : decode cX10_added5 54 = .ok (.iload_n 3, 1) := by decide +kernel
theorem dX10_added5_55 : decode cX10_added5 55 = .ok (.iadd, 1) := by decide +kernel
theorem dX10_added5_56 : decode cX10_added5 56 = .ok (.goto 6, 3) := by decide +kernel
theorem dX10_added5_59 : decode cX10_added5 59 = .ok (.iload_n 1, 1) := by decide +kernel
theorem dX10_added5_60 : decode cX10_added5 60 = .ok (.iload_n 3, 1) := by decide +kernel
theorem dX10_added5_61 : decode cX10_added5 61 = .ok (.isub, 1) := by decide +kernel
theorem dX10_added5_62 : decode cX10_added5 62 = .ok (.istore_n 1, 1) := by decide +kernel
theorem dX10_added5_63 : decode cX10_added5 63 = .ok (.goto (-58), 3) := by decide +kernel
theorem dX10_added5_66 : decode cX10_added5 66 = .ok (.iload_n 1, 1) := by decide +kernel
theorem dX10_added5_67 : decode cX10_added5 67 = .ok (.ireturn, 1) := by decide +kernel
theorem dX10_not5_0 : decode cX10_not5 0 = .ok (.aload_n 0, 1) := by decide +kernel
theorem dX10_not5_1 : decode cX10_not5 1 = .ok (.bipush 110, 2) := by decide +kernel
theorem dX10_not5_3 : decode cX10_not5 3 = .ok (.bipush 111, 2) := by decide +kernel
theorem dX10_not5_5 : decode cX10_not5 5 = .ok (.bipush 116, 2) := by decide +kernel
theorem dX10_not5_7 : decode cX10_not5 7 = .ok (.iconst 0, 1) := by decide +kernel
theorem dX10_not5_8 : decode cX10_not5 8 = .ok (.iconst 0, 1) := by decide +kernel
theorem dX10_not5_9 : decode cX10_not5 9 = .ok (.iconst 0, 1) := by decide +kernel
theorem dX10_not5_10 : decode cX10_not5 10 = .ok (.iconst 0, 1) := by decide +kernel
theorem dX10_not5_11 : decode cX10_not5 11 = .ok (.iconst 0, 1) := by decide +kernel
theorem dX10_not5_12 : decode cX10_not5 12 = .ok (.invokevirtual 179, 3) := by decide +kernel
theorem dX10_not5_15 : decode cX10_not5 15 = .ok (.ifCond .eq 10, 3) := by decide +kernel
theorem dX10_not5_18 : decode cX10_not5 18 = .ok (.aload_n 0, 1) := by decide +kernel
theorem dX10_not5_19 : decode cX10_not5 19 = .ok (.invokevirtual 204, 3) := by decide +kernel
theorem dX10_not5_22 : decode cX10_not5 22 = .ok (.pop, 1) := by decide +kernel
theorem dX10_not5_23 : decode cX10_not5 23 = .ok (.iconst 0, 1) := by decide +kernel
theorem dX10_not5_24 : decode cX10_not5 24 = .ok (.ireturn, 1) := by decide +kernel
theorem dX10_not5_25 : decode cX10_not5 25 = .ok (.aload_n 0, 1) := by decide +kernel
theorem dX10_not5_26 : decode cX10_not5 26 = .ok (.invokevirtual 220, 3) := by decide +kernel
theorem dX10_not5_29 : decode cX10_not5 29 = .ok (.istore_n 1, 1) := by decide +kernel
theorem dX10_not5_30 : decode cX10_not5 30 = .ok (.aload_n 0, 1) := by decide +kernel
theorem dX10_not5_31 : decode cX10_not5 31 = .ok (.bipush 60, 2) := by decide +kernel
theorem dX10_not5_33 : decode cX10_not5 33 = .ok (.invokevirtual 201, 3) := by decide +kernel
theorem dX10_not5_36 : decode cX10_not5 36 = .ok (.ifCond .ne 14, 3) := by decide +kernel
theorem dX10_not5_39 : decode cX10_not5 39 = .ok (.aload_n 0, 1) := by decide +kernel
theorem dX10_not5_40 : decode cX10_not5 40 = .ok (.bipush 61, 2) := by decide +kernel
theorem dX10_not5_42 : decode cX10_not5 42 = .ok (.invokevirtual 201, 3) := by decide +kernel
theorem dX10_not5_45 : decode cX10_not5 45 = .ok (.ifCond .ne 5, 3) := by decide +kernel
theorem dX10_not5_48 : decode cX10_not5 48 = .ok (.iload_n 1, 1) := by decide +kernel
theorem dX10_not5_49 : decode cX10_not5 49 = .ok (.ireturn, 1) := by decide +kernel
theorem dX10_not5_50 : decode cX10_not5 50 = .ok (.aload_n 0, 1) := by decide +kernel
theorem dX10_not5_51 : decode cX10_not5 51 = .ok (.getfield 154, 3) := by decide +kernel
theorem dX10_not5_54 : decode cX10_not5 54 = .ok (.ldc2_w 92, 3) := by decide +kernel
theorem dX10_not5_57 : decode cX10_not5 57 = .ok (.lcmp, 1) := by decide +kernel
theorem dX10_not5_58 : decode cX10_not5 58 = .ok (.ifCond .ne 7, 3) := by decide +kernel
theorem dX10_not5_61 : decode cX10_not5 61 = .ok (.iconst 1, 1) := by decide +kernel
theorem dX10_not5_62 : decode cX10_not5 62 = .ok (.goto 4, 3) := by decide +kernel
theorem dX10_not5_65 : decode cX10_not5 65 = .ok (.iconst 0, 1) := by decide +kernel
theorem dX10_not5_66 : decode cX10_not5 66 = .ok (.istore_n 2, 1) := by decide +kernel
theorem dX10_not5_67 : decode cX10_not5 67 = .ok (.aload_n 0, 1) := by decide +kernel
theorem dX10_not5_68 : decode cX10_not5 68 = .ok (.invokevirtual 176, 3) := by decide +kernel
theorem dX10_not5_71 : decode cX10_not5 71 = .ok (.aload_n 0, 1) := by decide +kernel
theorem dX10_not5_72 : decode cX10_not5 72 = .ok (.invokevirtual 220, 3) := by decide +kernel
theorem dX10_not5_75 : decode cX10_not5 75 = .ok (.istore_n 3, 1) := by decide +kernel
theorem dX10_not5_76 : decode cX10_not5 76 = .ok (.iload_n 2, 1) := by decide +kernel
theorem dX10_not5_77 : decode cX10_not5 77 = .ok (.ifCond .eq 11, 3) := by decide +kernel
theorem dX10_not5_80 : decode cX10_not5 80 = .ok (.iload_n 1, 1) := by decide +kernel
theorem dX10_not5_81 : decode cX10_not5 81 = .ok (.iload_n 3, 1) := by decide +kernel
theorem dX10_not5_82 : decode cX10_not5 82 = .ok (.if_icmp .ge 15, 3) := by decide +kernel
theorem dX10_not5_85 : decode cX10_not5 85 = .ok (.goto 8, 3) := by decide +kernel
theorem dX10_not5_88 : decode cX10_not5 88 = .ok (.iload_n 1, 1) := by decide +kernel
theorem dX10_not5_89 : decode cX10_not5 89 = .ok (.iload_n 3, 1) := by decide +kernel
theorem dX10_not5_90 : decode cX10_not5 90 = .ok (.if_icmp .ne 7, 3) := by decide +kernel
theorem dX10_not5_93 : decode cX10_not5 93 = .ok (.iconst 1, 1) := by decide +kernel
theorem dX10_not5_94 : decode cX10_not5 94 = .ok (.goto 4, 3) := by decide +kernel
theorem dX10_not5_97 : decode cX10_not5 97 = .ok (.iconst 0, 1) := by decide +kernel
theorem dX10_not5_98 : decode cX10_not5 98 = .ok (.ireturn, 1) := by decide +kernel
theorem dX10_both5_0 : decode cX10_both5 0 = .ok (.aload_n 0, 1) := by decide +kernel
theorem dX10_both5_1 : decode cX10_both5 1 = .ok (.invokevirtual 223, 3) := by decide +kernel
theorem dX10_both5_4 : decode cX10_both5 4 = .ok (.istore_n 1, 1) := by decide +kernel
theorem dX10_both5_5 : decode cX10_both5 5 = .ok (.aload_n 0, 1) := by decide +kernel
theorem dX10_both5_6 : decode cX10_both5 6 = .ok (.bipush 97, 2) := by decide +kernel
theorem dX10_both5_8 : decode cX10_both5 8 = .ok (.bipush 110, 2) := by decide +kernel
theorem dX10_both5_10 : decode cX10_both5 10 = .ok (.bipush 100, 2) := by decide +kernel
theorem dX10_both5_12 : decode cX10_both5 12 = .ok (.iconst 0, 1) := by decide +kernel
theorem dX10_both5_13 : decode cX10_both5 13 = .ok (.iconst 0, 1) := by decide +kernel
theorem dX10_both5_14 : decode cX10_both5 14 = .ok (.iconst 0, 1) := by decide +kernel
theorem dX10_both5_15 : decode cX10_both5 15 = .ok (.iconst 0, 1) := by decide +kernel
theorem dX10_both5_16 : decode cX10_both5 16 = .ok (.iconst 0, 1) := by decide +kernel
theorem dX10_both5_17 : decode cX10_both5 17 = .ok (.invokevirtual 179, 3) := by decide +kernel
theorem dX10_both5_20 : decode cX10_both5 20 = .ok (.ifCond .eq 29, 3) := by decide +kernel
theorem dX10_both5_23 : decode cX10_both5 23 = .ok (.aload_n 0, 1) := by decide +kernel
theorem dX10_both5_24 : decode cX10_both5 24 = .ok (.invokevirtual 176, 3) := by decide +kernel
theorem dX10_both5_27 : decode cX10_both5 27 = .ok (.aload_n 0, 1) := by decide +kernel
theorem dX10_both5_28 : decode cX10_both5 28 = .ok (.invokevirtual 223, 3) := by decide +kernel
theorem dX10_both5_31 : decode cX10_both5 31 = .ok (.istore_n 2, 1) := by decide +kernel
theorem dX10_both5_32 : decode cX10_both5 32 = .ok (.iload_n 1, 1) := by decide +kernel
theorem dX10_both5_33 : decode cX10_both5 33 = .ok (.ifCond .eq 11, 3) := by decide +kernel
theorem dX10_both5_36 : decode cX10_both5 36 = .ok (.iload_n 2, 1) := by decide +kernel
theorem dX10_both5_37 : decode cX10_both5 37 = .ok (.ifCond .eq 7, 3) := by decide +kernel
theorem dX10_both5_40 : decode cX10_both5 40 = .ok (.iconst 1, 1) := by decide +kernel
theorem dX10_both5_41 : decode cX10_both5 41 = .ok (.goto 4, 3) := by decide +kernel
theorem dX10_both5_44 : decode cX10_both5 44 = .ok (.iconst 0, 1) := by decide +kernel
theorem dX10_both5_45 : decode cX10_both5 45 = .ok (.istore_n 1, 1) := by decide +kernel
theorem dX10_both5_46 : decode cX10_both5 46 = .ok (.goto (-41), 3) := by decide +kernel
theorem dX10_both5_49 : decode cX10_both5 49 = .ok (.iload_n 1, 1) := by decide +kernel
theorem dX10_both5_50 : decode cX10_both5 50 = .ok (.ireturn, 1) := by decide +kernel
theorem dX10_either5_0 : decode cX10_either5 0 = .ok (.aload_n 0, 1) := by decide +kernel
theorem dX10_either5_1 : decode cX10_either5 1 = .ok (.invokevirtual 226, 3) := by decide +kernel
theorem dX10_either5_4 : decode cX10_either5 4 = .ok (.istore_n 1, 1) := by decide +kernel
theorem dX10_either5_5 : decode cX10_either5 5 = .ok (.aload_n 0, 1) := by decide +kernel
theorem dX10_either5_6 : decode cX10_either5 6 = .ok (.bipush 111, 2) := by decide +kernel
theorem dX10_either5_8 : decode cX10_either5 8 = .ok (.bipush 114, 2) := by decide +kernel
theorem dX10_either5_10 : decode cX10_either5 10 = .ok (.iconst 0, 1) := by decide +kernel
theorem dX10_either5_11 : decode cX10_either5 11 = .ok (.iconst 0, 1) := by decide +kernel
theorem dX10_either5_12 : decode cX10_either5 12 = .ok (.iconst 0, 1) := by decide +kernel
theorem dX10_either5_13 : decode cX10_either5 13 = .ok (.iconst 0, 1) := by decide +kernel
theorem dX10_either5_14 : decode cX10_either5 14 = .ok (.iconst 0, 1) := by decide +kernel
theorem dX10_either5_15 : decode cX10_either5 15 = .ok (.iconst 0, 1) := by decide +kernel
theorem dX10_either5_16 : decode cX10_either5 16 = .ok (.invokevirtual 179, 3) := by decide +kernel
theorem dX10_either5_19 : decode cX10_either5 19 = .ok (.ifCond .eq 29, 3) := by decide +kernel
theorem dX10_either5_22 : decode cX10_either5 22 = .ok (.aload_n 0, 1) := by decide +kernel
theorem dX10_either5_23 : decode cX10_either5 23 = .ok (.invokevirtual 176, 3) := by decide +kernel
theorem dX10_either5_26 : decode cX10_either5 26 = .ok (.aload_n 0, 1) := by decide +kernel
theorem dX10_either5_27 : decode cX10_either5 27 = .ok (.invokevirtual 226, 3) := by decide +kernel
theorem dX10_either5_30 : decode cX10_either5 30 = .ok (.istore_n 2, 1) := by decide +kernel
theorem dX10_either5_31 : decode cX10_either5 31 = .ok (.iload_n 1, 1) := by decide +kernel
theorem dX10_either5_32 : decode cX10_either5 32 = .ok (.ifCond .ne 7, 3) := by decide +kernel
theorem dX10_either5_35 : decode cX10_either5 35 = .ok (.iload_n 2, 1) := by decide +kernel
theorem dX10_either5_36 : decode cX10_either5 36 = .ok (.ifCond .eq 7, 3) := by decide +kernel
theorem dX10_either5_39 : decode cX10_either5 39 = .ok (.iconst 1, 1) := by decide +kernel
theorem dX10_either5_40 : decode cX10_either5 40 = .ok (.goto 4, 3) := by decide +kernel
theorem dX10_either5_43 : decode cX10_either5 43 = .ok (.iconst 0, 1) := by decide +kernel
theorem dX10_either5_44 : decode cX10_either5 44 = .ok (.istore_n 1, 1) := by decide +kernel
theorem dX10_either5_45 : decode cX10_either5 45 = .ok (.goto (-40), 3) := by decide +kernel
theorem dX10_either5_48 : decode cX10_either5 48 = .ok (.iload_n 1, 1) := by decide +kernel
theorem dX10_either5_49 : decode cX10_either5 49 = .ok (.ireturn, 1) := by decide +kernel
theorem dX10_atom4_0 : decode cX10_atom4 0 = .ok (.iconst 0, 1) := by decide +kernel
theorem dX10_atom4_1 : decode cX10_atom4 1 = .ok (.istore_n 1, 1) := by decide +kernel
theorem dX10_atom4_2 : decode cX10_atom4 2 = .ok (.aload_n 0, 1) := by decide +kernel
theorem dX10_atom4_3 : decode cX10_atom4 3 = .ok (.bipush 45, 2) := by decide +kernel
theorem dX10_atom4_5 : decode cX10_atom4 5 = .ok (.invokevirtual 201, 3) := by decide +kernel
theorem dX10_atom4_8 : decode cX10_atom4 8 = .ok (.ifCond .eq 29, 3) := by decide +kernel
theorem dX10_atom4_11 : decode cX10_atom4 11 = .ok (.aload_n 0, 1) := by decide +kernel
theorem dX10_atom4_12 : decode cX10_atom4 12 = .ok (.invokevirtual 204, 3) := by decide +kernel
theorem dX10_atom4_15 : decode cX10_atom4 15 = .ok (.ifCond .eq 146, 3) := by decide +kernel
theorem dX10_atom4_18 : decode cX10_atom4 18 = .ok (.aload_n 0, 1) := by decide +kernel
theorem dX10_atom4_19 : decode cX10_atom4 19 = .ok (.invokevirtual 212, 3) := by decide +kernel
theorem dX10_atom4_22 : decode cX10_atom4 22 = .ok (.ineg, 1) := by decide +kernel
theorem dX10_atom4_23 : decode cX10_atom4 23 = .ok (.istore_n 1, 1) := by decide +kernel
theorem dX10_atom4_24 : decode cX10_atom4 24 = .ok (.aload_n 0, 1) := by decide +kernel
theorem dX10_atom4_25 : decode cX10_atom4 25 = .ok (.dup, 1) := by decide +kernel
theorem dX10_atom4_26 : decode cX10_atom4 26 = .ok (.getfield 170, 3) := by decide +kernel
theorem dX10_atom4_29 : decode cX10_atom4 29 = .ok (.iconst 1, 1) := by decide +kernel
theorem dX10_atom4_30 : decode cX10_atom4 30 = .ok (.isub, 1) := by decide +kernel
theorem dX10_atom4_31 : decode cX10_atom4 31 = .ok (.putfield 170, 3) := by decide +kernel
theorem dX10_atom4_34 : decode cX10_atom4 34 = .ok (.goto 127, 3) := by decide +kernel
theorem dX10_atom4_37 : decode cX10_atom4 37 = .ok (.aload_n 0, 1) := by decide +kernel
theorem dX10_atom4_38 : decode cX10_atom4 38 = .ok (.bipush 40, 2) := by decide +kernel
theorem dX10_atom4_40 : decode cX10_atom4 40 = .ok (.invokevirtual 201, 3) := by decide +kernel
theorem dX10_atom4_43 : decode cX10_atom4 43 = .ok (.ifCond .eq 52, 3) := by decide +kernel
theorem dX10_atom4_46 : decode cX10_atom4 46 = .ok (.aload_n 0, 1) := by decide +kernel
theorem dX10_atom4_47 : decode cX10_atom4 47 = .ok (.invokevirtual 204, 3) := by decide +kernel
theorem dX10_atom4_50 : decode cX10_atom4 50 = .ok (.ifCond .eq 111, 3) := by decide +kernel
theorem dX10_atom4_53 : decode cX10_atom4 53 = .ok (.aload_n 0, 1) := by decide +kernel
theorem dX10_atom4_54 : decode cX10_atom4 54 = .ok (.invokevirtual 229, 3) := by decide +kernel
theorem dX10_atom4_57 : decode cX10_atom4 57 = .ok (.istore_n 1, 1) := by decide +kernel
theorem dX10_atom4_58 : decode cX10_atom4 58 = .ok (.aload_n 0, 1) := by decide +kernel
theorem dX10_atom4_59 : decode cX10_atom4 59 = .ok (.bipush 41, 2) := by decide +kernel
theorem dX10_atom4_61 : decode cX10_atom4 61 = .ok (.invokevirtual 201, 3) := by decide +kernel
theorem dX10_atom4_64 : decode cX10_atom4 64 = .ok (.ifCond .ne 7, 3) := by decide +kernel
theorem dX10_atom4_67 : decode cX10_atom4 67 = .ok (.aload_n 0, 1) := by decide +kernel
theorem dX10_atom4_68 : decode cX10_atom4 68 = .ok (.invokevirtual 173, 3) := by decide +kernel
theorem dX10_atom4_71 : decode cX10_atom4 71 = .ok (.aload_n 0, 1) := by decide +kernel
theorem dX10_atom4_72 : decode cX10_atom4 72 = .ok (.dup, 1) := by decide +kernel
theorem dX10_atom4_73 : decode cX10_atom4 73 = .ok (.getfield 170, 3) := by decide +kernel
theorem dX10_atom4_76 : decode cX10_atom4 76 = .ok (.iconst 1, 1) := by decide +kernel
theorem dX10_atom4_77 : decode cX10_atom4 77 = .ok (.isub, 1) := by decide +kernel
theorem dX10_atom4_78 : decode cX10_atom4 78 = .ok (.putfield 170, 3) := by decide +kernel
theorem dX10_atom4_81 : decode cX10_atom4 81 = .ok (.aload_n 0, 1) := by decide +kernel
theorem dX10_atom4_82 : decode cX10_atom4 82 = .ok (.getfield 160, 3) := by decide +kernel
theorem dX10_atom4_85 : decode cX10_atom4 85 = .ok (.ifCond .ne 76, 3) := by decide +kernel
theorem dX10_atom4_88 : decode cX10_atom4 88 = .ok (.aload_n 0, 1) := by decide +kernel
theorem dX10_atom4_89 : decode cX10_atom4 89 = .ok (.invokevirtual 176, 3) := by decide +kernel
theorem dX10_atom4_92 : decode cX10_atom4 92 = .ok (.goto 69, 3) := by decide +kernel
theorem dX10_atom4_95 : decode cX10_atom4 95 = .ok (.aload_n 0, 1) := by decide +kernel
theorem dX10_atom4_96 : decode cX10_atom4 96 = .ok (.getfield 160, 3) := by decide +kernel
theorem dX10_atom4_99 : decode cX10_atom4 99 = .ok (.ifCond .ne 24, 3) := by decide +kernel
theorem dX10_atom4_102 : decode cX10_atom4 102 = .ok (.aload_n 0, 1) := by decide +kernel
theorem dX10_atom4_103 : decode cX10_atom4 103 = .ok (.getfield 143, 3) := by decide +kernel
theorem dX10_atom4_106 : decode cX10_atom4 106 = .ok (.iconst 2, 1) := by decide +kernel
theorem dX10_atom4_107 : decode cX10_atom4 107 = .ok (.if_icmp .ne 16, 3) := by decide +kernel
theorem dX10_atom4_110 : decode cX10_atom4 110 = .ok (.aload_n 0, 1) := by decide +kernel
theorem dX10_atom4_111 : decode cX10_atom4 111 = .ok (.getfield 154, 3) := by decide +kernel
theorem dX10_atom4_114 : decode cX10_atom4 114 = .ok (.l2i, 1) := by decide +kernel
theorem dX10_atom4_115 : decode cX10_atom4 115 = .ok (.istore_n 1, 1) := by decide +kernel
theorem dX10_atom4_116 : decode cX10_atom4 116 = .ok (.aload_n 0, 1) := by decide +kernel
theorem dX10_atom4_117 : decode cX10_atom4 117 = .ok (.invokevirtual 176, 3) := by decide +kernel
theorem dX10_atom4_120 : decode cX10_atom4 120 = .ok (.goto 41, 3) := by decide +kernel
theorem dX10_atom4_123 : decode cX10_atom4 123 = .ok (.aload_n 0, 1) := by decide +kernel
theorem dX10_atom4_124 : decode cX10_atom4 124 = .ok (.getfield 160, 3) := by decide +kernel
theorem dX10_atom4_127 : decode cX10_atom4 127 = .ok (.ifCond .ne 30, 3) := by decide +kernel
theorem dX10_atom4_130 : decode cX10_atom4 130 = .ok (.aload_n 0, 1) := by decide +kernel
theorem dX10_atom4_131 : decode cX10_atom4 131 = .ok (.getfield 143, 3) := by decide +kernel
theorem dX10_atom4_134 : decode cX10_atom4 134 = .ok (.iconst 1, 1) := by decide +kernel
theorem dX10_atom4_135 : decode cX10_atom4 135 = .ok (.if_icmp .ne 22, 3) := by decide +kernel
theorem dX10_atom4_138 : decode cX10_atom4 138 = .ok (.aload_n 0, 1) := by decide +kernel
theorem dX10_atom4_139 : decode cX10_atom4 139 = .ok (.invokevirtual 208, 3) := by decide +kernel
theorem dX10_atom4_142 : decode cX10_atom4 142 = .ok (.istore_n 1, 1) := by decide +kernel
theorem dX10_atom4_143 : decode cX10_atom4 143 = .ok (.aload_n 0, 1) := by decide +kernel
theorem dX10_atom4_144 : decode cX10_atom4 144 = .ok (.getfield 160, 3) := by decide +kernel
theorem dX10_atom4_147 : decode cX10_atom4 147 = .ok (.ifCond .ne 14, 3) := by decide +kernel
theorem dX10_atom4_150 : decode cX10_atom4 150 = .ok (.aload_n 0, 1) := by decide +kernel
theorem dX10_atom4_151 : decode cX10_atom4 151 = .ok (.invokevirtual 176, 3) := by decide +kernel
theorem dX10_atom4_154 : decode cX10_atom4 154 = .ok (.goto 7, 3) := by decide +kernel
theorem dX10_atom4_157 : decode cX10_atom4 157 = .ok (.aload_n 0, 1) := by decide +kernel
theorem dX10_atom4_158 : decode cX10_atom4 158 = .ok (.invokevirtual 173, 3) := by decide +kernel
theorem dX10_atom4_161 : decode cX10_atom4 161 = .ok (.iload_n 1, 1) := by decide +kernel
theorem dX10_atom4_162 : decode cX10_atom4 162 = .ok (.ireturn, 1) := by decide +kernel
theorem dX10_term4_0 : decode cX10_term4 0 = .ok (.aload_n 0, 1) := by decide +kernel
theorem dX10_term4_1 : decode cX10_term4 1 = .ok (.invokevirtual 232, 3) := by decide +kernel
theorem dX10_term4_4 : decode cX10_term4 4 = .ok (.istore_n 1, 1) := by decide +kernel
theorem dX10_term4_5 : decode cX10_term4 5 = .ok (.aload_n 0, 1) := by decide +kernel
theorem dX10_term4_6 : decode cX10_term4 6 = .ok (.bipush 42, 2) := by decide +kernel
theorem dX10_term4_8 : decode cX10_term4 8 = .ok (.invokevirtual 201, 3) := by decide +kernel
theorem dX10_term4_11 : decode cX10_term4 11 = .ok (.ifCond .eq 17, 3) := by decide +kernel
theorem dX10_term4_14 : decode cX10_term4 14 = .ok (.aload_n 0, 1) := by decide +kernel
theorem dX10_term4_15 : decode cX10_term4 15 = .ok (.invokevirtual 176, 3) := by decide +kernel
theorem dX10_term4_18 : decode cX10_term4 18 = .ok (.iload_n 1, 1) := by decide +kernel
theorem dX10_term4_19 : decode cX10_term4 19 = .ok (.aload_n 0, 1) := by decide +kernel
theorem dX10_term4_20 : decode cX10_term4 20 = .ok (.invokevirtual 232, 3) := by decide +kernel
theorem dX10_term4_23 : decode cX10_term4 23 = .ok (.imul, 1) := by decide +kernel
theorem dX10_term4_24 : decode cX10_term4 24 = .ok (.istore_n 1, 1) := by decide +kernel
theorem dX10_term4_25 : decode cX10_term4 25 = .ok (.goto (-20), 3) := by decide +kernel
theorem dX10_term4_28 : decode cX10_term4 28 = .ok (.iload_n 1, 1) := by decide +kernel
theorem dX10_term4_29 : decode cX10_term4 29 = .ok (.ireturn, 1) := by decide +kernel
theorem dX10_added4_0 : decode cX10_added4 0 = .ok (.aload_n 0, 1) := by decide +kernel
theorem dX10_added4_1 : decode cX10_added4 1 = .ok (.invokevirtual 235, 3) := by decide +kernel
theorem dX10_added4_4 : decode cX10_added4 4 = .ok (.istore_n 1, 1) := by decide +kernel
theorem dX10_added4_5 : decode cX10_added4 5 = .ok (.aload_n 0, 1) := by decide +kernel
theorem dX10_added4_6 : decode cX10_added4 6 = .ok (.bipush 43, 2) := by decide +kernel
theorem dX10_added4_8 : decode cX10_added4 8 = .ok (.invokevirtual 201, 3) := by decide +kernel
theorem dX10_added4_11 : decode cX10_added4 11 = .ok (.ifCond .ne 12, 3) := by decide +kernel
theorem dX10_added4_14 : decode cX10_added4 14 = .ok (.aload_n 0, 1) := by decide +kernel
theorem dX10_added4_15 : decode cX10_added4 15 = .ok (.bipush 45, 2) := by decide +kernel
theorem dX10_added4_17 : decode cX10_added4 17 = .ok (.invokevirtual 201, 3) := by decide +kernel
theorem dX10_added4_20 : decode cX10_added4 20 = .ok (.ifCond .eq 46, 3) := by decide +kernel
theorem dX10_added4_23 : decode cX10_added4 23 = .ok (.aload_n 0, 1) := by decide +kernel
theorem dX10_added4_24 : decode cX10_added4 24 = .ok (.getfield 154, 3) := by decide +kernel
theorem dX10_added4_27 : decode cX10_added4 27 = .ok (.ldc2_w 218, 3) := by decide +kernel
theorem dX10_added4_30 : decode cX10_added4 30 = .ok (.lcmp, 1) := by decide +kernel
theorem dX10_added4_31 : decode cX10_added4 31 = .ok (.ifCond .ne 7, 3) := by decide +kernel
theorem dX10_added4_34 : decode cX10_added4 34 = .ok (.iconst 1, 1) := by decide +kernel
theorem dX10_added4_35 : decode cX10_added4 35 = .ok (.goto 4, 3) := by decide +kernel
theorem dX10_added4_38 : decode cX10_added4 38 = .ok (.iconst 0, 1) := by decide +kernel
theorem dX10_added4_39 : decode cX10_added4 39 = .ok (.istore_n 2, 1) := by decide +kernel
theorem dX10_added4_40 : decode cX10_added4 40 = .ok (.aload_n 0, 1) := by decide +kernel
theorem dX10_added4_41 : decode cX10_added4 41 = .ok (.invokevirtual 176, 3) := by decide +kernel
theorem dX10_added4_44 : decode cX10_added4 44 = .ok (.aload_n 0, 1) := by decide +kernel
theorem dX10_added4_45 : decode cX10_added4 45 = .ok (.invokevirtual 235, 3) := by decide +kernel
theorem dX10_added4_48 : decode cX10_added4 48 = .ok (.istore_n 3, 1) := by decide +kernel
theorem dX10_added4_49 : decode cX10_added4 49 = .ok (.iload_n 2, 1) := by decide +kernel
theorem dX10_added4_50 : decode cX10_added4 50 = .ok (.ifCond .eq 9, 3) := by decide +kernel
theorem dX10_added4_53 : decode cX10_added4 53 = .ok (.iload_n 1, 1) := by decide +kernel
theorem dX10_added4_54 : decode cX10_added4 54 = .ok (.iload_n 3, 1) := by decide +kernel
theorem dX10_added4_55 : decode cX10_added4 55 = .ok (.iadd, 1) := by decide +kernel
theorem dX10_added4_56 : decode cX10_added4 56 = .ok (.goto 6, 3) := by decide +kernel
theorem dX10_added4_59 : decode cX10_added4 59 = .ok (.iload_n 1, 1) := by decide +kernel
theorem dX10_added4_60 : decode cX10_added4 60 = .ok (.iload_n 3, 1) := by decide +kernel
theorem dX10_added4_61 : decode cX10_added4 61 = .ok (.isub, 1) := by decide +kernel
theorem dX10_added4_62 : decode cX10_added4 62 = .ok (.istore_n 1, 1) := by decide +kernel
theorem dX10_added4_63 : decode cX10_added4 63 = .ok (.goto (-58), 3) := by decide +kernel
theorem dX10_added4_66 : decode cX10_added4 66 = .ok (.iload_n 1, 1) := by decide +kernel
theorem dX10_added4_67 : decode cX10_added4 67 = .ok (.ireturn, 1) := by decide +kernel
theorem dX10_not4_0 : decode cX10_not4 0 = .ok (.aload_n 0, 1) := by decide +kernel
theorem dX10_not4_1 : decode cX10_not4 1 = .ok (.bipush 110, 2) := by decide +kernel
theorem dX10_not4_3 : decode cX10_not4 3 = .ok (.bipush 111, 2) := by decide +kernel
theorem dX10_not4_5 : decode cX10_not4 5 = .ok (.bipush 116, 2) := by decide +kernel
theorem dX10_not4_7 : decode cX10_not4 7 = .ok (.iconst 0, 1) := by decide +kernel
theorem dX10_not4_8 : decode cX10_not4 8 = .ok (.iconst 0, 1) := by decide +kernel
theorem dX10_not4_9 : decode cX10_not4 9 = .ok (.iconst 0, 1) := by decide +kernel
theorem dX10_not4_10 : decode cX10_not4 10 = .ok (.iconst 0, 1) := by decide +kernel
theorem dX10_not4_11 : decode cX10_not4 11 = .ok (.iconst 0, 1) := by decide +kernel
theorem dX10_not4_12 : decode cX10_not4 12 = .ok (.invokevirtual 179, 3) := by decide +kernel
theorem dX10_not4_15 : decode cX10_not4 15 = .ok (.ifCond .eq 37, 3) := by decide +kernel
theorem dX10_not4_18 : decode cX10_not4 18 = .ok (.aload_n 0, 1) := by decide +kernel
theorem dX10_not4_19 : decode cX10_not4 19 = .ok (.invokevirtual 204, 3) := by decide +kernel
theorem dX10_not4_22 : decode cX10_not4 22 = .ok (.ifCond .ne 5, 3) := by decide +kernel
theorem dX10_not4_25 : decode cX10_not4 25 = .ok (.iconst 0, 1) := by decide +kernel
theorem dX10_not4_26 : decode cX10_not4 26 = .ok (.ireturn, 1) := by decide +kernel
theorem dX10_not4_27 : decode cX10_not4 27 = .ok (.aload_n 0, 1) := by decide +kernel
theorem dX10_not4_28 : decode cX10_not4 28 = .ok (.invokevirtual 223, 3) := by decide +kernel
theorem dX10_not4_31 : decode cX10_not4 31 = .ok (.istore_n 1, 1) := by decide +kernel
theorem dX10_not4_32 : decode cX10_not4 32 = .ok (.aload_n 0, 1) := by decide +kernel
theorem dX10_not4_33 : decode cX10_not4 33 = .ok (.dup, 1) := by decide +kernel
theorem dX10_not4_34 : decode cX10_not4 34 = .ok (.getfield 170, 3) := by decide +kernel
theorem dX10_not4_37 : decode cX10_not4 37 = .ok (.iconst 1, 1) := by decide +kernel
theorem dX10_not4_38 : decode cX10_not4 38 = .ok (.isub, 1) := by decide +kernel
theorem dX10_not4_39 : decode cX10_not4 39 = .ok (.putfield 170, 3) := by decide +kernel
theorem dX10_not4_42 : decode cX10_not4 42 = .ok (.iload_n 1, 1) := by decide +kernel
theorem dX10_not4_43 : decode cX10_not4 43 = .ok (.ifCond .ne 7, 3) := by decide +kernel
theorem dX10_not4_46 : decode cX10_not4 46 = .ok (.iconst 1, 1) := by decide +kernel
theorem dX10_not4_47 : decode cX10_not4 47 = .ok (.goto 4, 3) := by decide +kernel
theorem dX10_not4_50 : decode cX10_not4 50 = .ok (.iconst 0, 1) := by decide +kernel
theorem dX10_not4_51 : decode cX10_not4 51 = .ok (.ireturn, 1) := by decide +kernel
theorem dX10_not4_52 : decode cX10_not4 52 = .ok (.aload_n 0, 1) := by decide +kernel
theorem dX10_not4_53 : decode cX10_not4 53 = .ok (.invokevirtual 238, 3) := by decide +kernel
theorem dX10_not4_56 : decode cX10_not4 56 = .ok (.istore_n 1, 1) := by decide +kernel
theorem dX10_not4_57 : decode cX10_not4 57 = .ok (.aload_n 0, 1) := by decide +kernel
theorem dX10_not4_58 : decode cX10_not4 58 = .ok (.bipush 60, 2) := by decide +kernel
theorem dX10_not4_60 : decode cX10_not4 60 = .ok (.invokevirtual 201, 3) := by decide +kernel
theorem dX10_not4_63 : decode cX10_not4 63 = .ok (.ifCond .ne 14, 3) := by decide +kernel
theorem dX10_not4_66 : decode cX10_not4 66 = .ok (.aload_n 0, 1) := by decide +kernel
theorem dX10_not4_67 : decode cX10_not4 67 = .ok (.bipush 61, 2) := by decide +kernel
theorem dX10_not4_69 : decode cX10_not4 69 = .ok (.invokevirtual 201, 3) := by decide +kernel
theorem dX10_not4_72 : decode cX10_not4 72 = .ok (.ifCond .ne 5, 3) := by decide +kernel
theorem dX10_not4_75 : decode cX10_not4 75 = .ok (.iload_n 1, 1) := by decide +kernel
theorem dX10_not4_76 : decode cX10_not4 76 = .ok (.ireturn, 1) := by decide +kernel
theorem dX10_not4_77 : decode cX10_not4 77 = .ok (.aload_n 0, 1) := by decide +kernel
theorem dX10_not4_78 : decode cX10_not4 78 = .ok (.getfield 154, 3) := by decide +kernel
theorem dX10_not4_81 : decode cX10_not4 81 = .ok (.ldc2_w 92, 3) := by decide +kernel
theorem dX10_not4_84 : decode cX10_not4 84 = .ok (.lcmp, 1) := by decide +kernel
theorem dX10_not4_85 : decode cX10_not4 85 = .ok (.ifCond .ne 7, 3) := by decide +kernel
theorem dX10_not4_88 : decode cX10_not4 88 = .ok (.iconst 1, 1) := by decide +kernel
theorem dX10_not4_89 : decode cX10_not4 89 = .ok (.goto 4, 3) := by decide +kernel
theorem dX10_not4_92 : decode cX10_not4 92 = .ok (.iconst 0, 1) := by decide +kernel
theorem dX10_not4_93 : decode cX10_not4 93 = .ok (.istore_n 2, 1) := by decide +kernel
theorem dX10_not4_94 : decode cX10_not4 94 = .ok (.aload_n 0, 1) := by decide +kernel
theorem dX10_not4_95 : decode cX10_not4 95 = .ok (.invokevirtual 176, 3) := by decide +kernel
theorem dX10_not4_98 : decode cX10_not4 98 = .ok (.aload_n 0, 1) := by decide +kernel
theorem dX10_not4_99 : decode cX10_not4 99 = .ok (.invokevirtual 238, 3) := by decide +kernel
theorem dX10_not4_102 : decode cX10_not4 102 = .ok (.istore_n 3, 1) := by decide +kernel
theorem dX10_not4_103 : decode cX10_not4 103 = .ok (.iload_n 2, 1) := by decide +kernel
theorem dX10_not4_104 : decode cX10_not4 104 = .ok (.ifCond .eq 11, 3) := by decide +kernel
theorem dX10_not4_107 : decode cX10_not4 107 = .ok (.iload_n 1, 1) := by decide +kernel
theorem dX10_not4_108 : decode cX10_not4 108 = .ok (.iload_n 3, 1) := by decide +kernel
theorem dX10_not4_109 : decode cX10_not4 109 = .ok (.if_icmp .ge 15, 3) := by decide +kernel
theorem dX10_not4_112 : decode cX10_not4 112 = .ok (.goto 8, 3) := by decide +kernel
theorem dX10_not4_115 : decode cX10_not4 115 = .ok (.iload_n 1, 1) := by decide +kernel
theorem dX10_not4_116 : decode cX10_not4 116 = .ok (.iload_n 3, 1) := by decide +kernel
theorem dX10_not4_117 : decode cX10_not4 117 = .ok (.if_icmp .ne 7, 3) := by decide +kernel
theorem dX10_not4_120 : decode cX10_not4 120 = .ok (.iconst 1, 1) := by decide +kernel
theorem dX10_not4_121 : decode cX10_not4 121 = .ok (.goto 4, 3) := by decide +kernel
theorem dX10_not4_124 : decode cX10_not4 124 = .ok (.iconst 0, 1) := by decide +kernel
theorem dX10_not4_125 : decode cX10_not4 125 = .ok (.ireturn, 1) := by decide +kernel
theorem dX10_both4_0 : decode cX10_both4 0 = .ok (.aload_n 0, 1) := by decide +kernel
theorem dX10_both4_1 : decode cX10_both4 1 = .ok (.invokevirtual 241, 3) := by decide +kernel
theorem dX10_both4_4 : decode cX10_both4 4 = .ok (.istore_n 1, 1) := by decide +kernel
theorem dX10_both4_5 : decode cX10_both4 5 = .ok (.aload_n 0, 1) := by decide +kernel
theorem dX10_both4_6 : decode cX10_both4 6 = .ok (.bipush 97, 2) := by decide +kernel
theorem dX10_both4_8 : decode cX10_both4 8 = .ok (.bipush 110, 2) := by decide +kernel
theorem dX10_both4_10 : decode cX10_both4 10 = .ok (.bipush 100, 2) := by decide +kernel
theorem dX10_both4_12 : decode cX10_both4 12 = .ok (.iconst 0, 1) := by decide +kernel
theorem dX10_both4_13 : decode cX10_both4 13 = .ok (.iconst 0, 1) := by decide +kernel
theorem dX10_both4_14 : decode cX10_both4 14 = .ok (.iconst 0, 1) := by decide +kernel
theorem dX10_both4_15 : decode cX10_both4 15 = .ok (.iconst 0, 1) := by decide +kernel
theorem dX10_both4_16 : decode cX10_both4 16 = .ok (.iconst 0, 1) := by decide +kernel
theorem dX10_both4_17 : decode cX10_both4 17 = .ok (.invokevirtual 179, 3) := by decide +kernel
theorem dX10_both4_20 : decode cX10_both4 20 = .ok (.ifCond .eq 29, 3) := by decide +kernel
theorem dX10_both4_23 : decode cX10_both4 23 = .ok (.aload_n 0, 1) := by decide +kernel
theorem dX10_both4_24 : decode cX10_both4 24 = .ok (.invokevirtual 176, 3) := by decide +kernel
theorem dX10_both4_27 : decode cX10_both4 27 = .ok (.aload_n 0, 1) := by decide +kernel
theorem dX10_both4_28 : decode cX10_both4 28 = .ok (.invokevirtual 241, 3) := by decide +kernel
theorem dX10_both4_31 : decode cX10_both4 31 = .ok (.istore_n 2, 1) := by decide +kernel
theorem dX10_both4_32 : decode cX10_both4 32 = .ok (.iload_n 1, 1) := by decide +kernel
theorem dX10_both4_33 : decode cX10_both4 33 = .ok (.ifCond .eq 11, 3) := by decide +kernel
theorem dX10_both4_36 : decode cX10_both4 36 = .ok (.iload_n 2, 1) := by decide +kernel
theorem dX10_both4_37 : decode cX10_both4 37 = .ok (.ifCond .eq 7, 3) := by decide +kernel
theorem dX10_both4_40 : decode cX10_both4 40 = .ok (.iconst 1, 1) := by decide +kernel
theorem dX10_both4_41 : decode cX10_both4 41 = .ok (.goto 4, 3) := by decide +kernel
theorem dX10_both4_44 : decode cX10_both4 44 = .ok (.iconst 0, 1) := by decide +kernel
theorem dX10_both4_45 : decode cX10_both4 45 = .ok (.istore_n 1, 1) := by decide +kernel
theorem dX10_both4_46 : decode cX10_both4 46 = .ok (.goto (-41), 3) := by decide +kernel
theorem dX10_both4_49 : decode cX10_both4 49 = .ok (.iload_n 1, 1) := by decide +kernel
theorem dX10_both4_50 : decode cX10_both4 50 = .ok (.ireturn, 1) := by decide +kernel
theorem dX10_either4_0 : decode cX10_either4 0 = .ok (.aload_n 0, 1) := by decide +kernel
theorem dX10_either4_1 : decode cX10_either4 1 = .ok (.invokevirtual 244, 3) := by decide +kernel
theorem dX10_either4_4 : decode cX10_either4 4 = .ok (.istore_n 1, 1) := by decide +kernel
theorem dX10_either4_5 : decode cX10_either4 5 = .ok (.aload_n 0, 1) := by decide +kernel
theorem dX10_either4_6 : decode cX10_either4 6 = .ok (.bipush 111, 2) := by decide +kernel
theorem dX10_either4_8 : decode cX10_either4 8 = .ok (.bipush 114, 2) := by decide +kernel
theorem dX10_either4_10 : decode cX10_either4 10 = .ok (.iconst 0, 1) := by decide +kernel
theorem dX10_either4_11 : decode cX10_either4 11 = .ok (.iconst 0, 1) := by decide +kernel
theorem dX10_either4_12 : decode cX10_either4 12 = .ok (.iconst 0, 1) := by decide +kernel
theorem dX10_either4_13 : decode cX10_either4 13 = .ok (.iconst 0, 1) := by decide +kernel
theorem dX10_either4_14 : decode cX10_either4 14 = .ok (.iconst 0, 1) := by decide +kernel
theorem dX10_either4_15 : decode cX10_either4 15 = .ok (.iconst 0, 1) := by decide +kernel
theorem dX10_either4_16 : decode cX10_either4 16 = .ok (.invokevirtual 179, 3) := by decide +kernel
theorem dX10_either4_19 : decode cX10_either4 19 = .ok (.ifCond .eq 29, 3) := by decide +kernel
theorem dX10_either4_22 : decode cX10_either4 22 = .ok (.aload_n 0, 1) := by decide +kernel
theorem dX10_either4_23 : decode cX10_either4 23 = .ok (.invokevirtual 176, 3) := by decide +kernel
theorem dX10_either4_26 : decode cX10_either4 26 = .ok (.aload_n 0, 1) := by decide +kernel
theorem dX10_either4_27 : decode cX10_either4 27 = .ok (.invokevirtual 244, 3) := by decide +kernel
theorem dX10_either4_30 : decode cX10_either4 30 = .ok (.istore_n 2, 1) := by decide +kernel
theorem dX10_either4_31 : decode cX10_either4 31 = .ok (.iload_n 1, 1) := by decide +kernel
theorem dX10_either4_32 : decode cX10_either4 32 = .ok (.ifCond .ne 7, 3) := by decide +kernel
theorem dX10_either4_35 : decode cX10_either4 35 = .ok (.iload_n 2, 1) := by decide +kernel
theorem dX10_either4_36 : decode cX10_either4 36 = .ok (.ifCond .eq 7, 3) := by decide +kernel
theorem dX10_either4_39 : decode cX10_either4 39 = .ok (.iconst 1, 1) := by decide +kernel
theorem dX10_either4_40 : decode cX10_either4 40 = .ok (.goto 4, 3) := by decide +kernel
theorem dX10_either4_43 : decode cX10_either4 43 = .ok (.iconst 0, 1) := by decide +kernel
theorem dX10_either4_44 : decode cX10_either4 44 = .ok (.istore_n 1, 1) := by decide +kernel
theorem dX10_either4_45 : decode cX10_either4 45 = .ok (.goto (-40), 3) := by decide +kernel
theorem dX10_either4_48 : decode cX10_either4 48 = .ok (.iload_n 1, 1) := by decide +kernel
theorem dX10_either4_49 : decode cX10_either4 49 = .ok (.ireturn, 1) := by decide +kernel
theorem dX10_atom3_0 : decode cX10_atom3 0 = .ok (.iconst 0, 1) := by decide +kernel
theorem dX10_atom3_1 : decode cX10_atom3 1 = .ok (.istore_n 1, 1) := by decide +kernel
theorem dX10_atom3_2 : decode cX10_atom3 2 = .ok (.aload_n 0, 1) := by decide +kernel
theorem dX10_atom3_3 : decode cX10_atom3 3 = .ok (.bipush 45, 2) := by decide +kernel
theorem dX10_atom3_5 : decode cX10_atom3 5 = .ok (.invokevirtual 201, 3) := by decide +kernel
theorem dX10_atom3_8 : decode cX10_atom3 8 = .ok (.ifCond .eq 29, 3) := by decide +kernel
theorem dX10_atom3_11 : decode cX10_atom3 11 = .ok (.aload_n 0, 1) := by decide +kernel
theorem dX10_atom3_12 : decode cX10_atom3 12 = .ok (.invokevirtual 204, 3) := by decide +kernel
theorem dX10_atom3_15 : decode cX10_atom3 15 = .ok (.ifCond .eq 146, 3) := by decide +kernel
theorem dX10_atom3_18 : decode cX10_atom3 18 = .ok (.aload_n 0, 1) := by decide +kernel
theorem dX10_atom3_19 : decode cX10_atom3 19 = .ok (.invokevirtual 232, 3) := by decide +kernel
theorem dX10_atom3_22 : decode cX10_atom3 22 = .ok (.ineg, 1) := by decide +kernel
theorem dX10_atom3_23 : decode cX10_atom3 23 = .ok (.istore_n 1, 1) := by decide +kernel
theorem dX10_atom3_24 : decode cX10_atom3 24 = .ok (.aload_n 0, 1) := by decide +kernel
theorem dX10_atom3_25 : decode cX10_atom3 25 = .ok (.dup, 1) := by decide +kernel
theorem dX10_atom3_26 : decode cX10_atom3 26 = .ok (.getfield 170, 3) := by decide +kernel
theorem dX10_atom3_29 : decode cX10_atom3 29 = .ok (.iconst 1, 1) := by decide +kernel
theorem dX10_atom3_30 : decode cX10_atom3 30 = .ok (.isub, 1) := by decide +kernel
theorem dX10_atom3_31 : decode cX10_atom3 31 = .ok (.putfield 170, 3) := by decide +kernel
theorem dX10_atom3_34 : decode cX10_atom3 34 = .ok (.goto 127, 3) := by decide +kernel
theorem dX10_atom3_37 : decode cX10_atom3 37 = .ok (.aload_n 0, 1) := by decide +kernel
theorem dX10_atom3_38 : decode cX10_atom3 38 = .ok (.bipush 40, 2) := by decide +kernel
theorem dX10_atom3_40 : decode cX10_atom3 40 = .ok (.invokevirtual 201, 3) := by decide +kernel
theorem dX10_atom3_43 : decode cX10_atom3 43 = .ok (.ifCond .eq 52, 3) := by decide +kernel
theorem dX10_atom3_46 : decode cX10_atom3 46 = .ok (.aload_n 0, 1) := by decide +kernel
theorem dX10_atom3_47 : decode cX10_atom3 47 = .ok (.invokevirtual 204, 3) := by decide +kernel
theorem dX10_atom3_50 : decode cX10_atom3 50 = .ok (.ifCond .eq 111, 3) := by decide +kernel
theorem dX10_atom3_53 : decode cX10_atom3 53 = .ok (.aload_n 0, 1) := by decide +kernel
theorem dX10_atom3_54 : decode cX10_atom3 54 = .ok (.invokevirtual 247, 3) := by decide +kernel
theorem dX10_atom3_57 : decode cX10_atom3 57 = .ok (.istore_n 1, 1) := by decide +kernel
theorem dX10_atom3_58 : decode cX10_atom3 58 = .ok (.aload_n 0, 1) := by decide +kernel
theorem dX10_atom3_59 : decode cX10_atom3 59 = .ok (.bipush 41, 2) := by decide +kernel
theorem dX10_atom3_61 : decode cX10_atom3 61 = .ok (.invokevirtual 201, 3) := by decide +kernel
theorem dX10_atom3_64 : decode cX10_atom3 64 = .ok (.ifCond .ne 7, 3) := by decide +kernel
theorem dX10_atom3_67 : decode cX10_atom3 67 = .ok (.aload_n 0, 1) := by decide +kernel
theorem dX10_atom3_68 : decode cX10_atom3 68 = .ok (.invokevirtual 173, 3) := by decide +kernel
theorem dX10_atom3_71 : decode cX10_atom3 71 = .ok (.aload_n 0, 1) := by decide +kernel
theorem dX10_atom3_72 : decode cX10_atom3 72 = .ok (.dup, 1) := by decide +kernel
theorem dX10_atom3_73 : decode cX10_atom3 73 = .ok (.getfield 170, 3) := by decide +kernel
theorem dX10_atom3_76 : decode cX10_atom3 76 = .ok (.iconst 1, 1) := by decide +kernel
theorem dX10_atom3_77 : decode cX10_atom3 77 = .ok (.isub, 1) := by decide +kernel
theorem dX10_atom3_78 : decode cX10_atom3 78 = .ok (.putfield 170, 3) := by decide +kernel
theorem dX10_atom3_81 : decode cX10_atom3 81 = .ok (.aload_n 0, 1) := by decide +kernel
theorem dX10_atom3_82 : decode cX10_atom3 82 = .ok (.getfield 160, 3) := by decide +kernel
theorem dX10_atom3_85 : decode cX10_atom3 85 = .ok (.ifCond .ne 76, 3) := by decide +kernel
theorem dX10_atom3_88 : decode cX10_atom3 88 = .ok (.aload_n 0, 1) := by decide +kernel
theorem dX10_atom3_89 : decode cX10_atom3 89 = .ok (.invokevirtual 176, 3) := by decide +kernel
theorem dX10_atom3_92 : decode cX10_atom3 92 = .ok (.goto 69, 3) := by decide +kernel
theorem dX10_atom3_95 : decode cX10_atom3 95 = .ok (.aload_n 0, 1) := by decide +kernel
theorem dX10_atom3_96 : decode cX10_atom3 96 = .ok (.getfield 160, 3) := by decide +kernel
theorem dX10_atom3_99 : decode cX10_atom3 99 = .ok (.ifCond .ne 24, 3) := by decide +kernel
theorem dX10_atom3_102 : decode cX10_atom3 102 = .ok (.aload_n 0, 1) := by decide +kernel
theorem dX10_atom3_103 : decode cX10_atom3 103 = .ok (.getfield 143, 3) := by decide +kernel
theorem dX10_atom3_106 : decode cX10_atom3 106 = .ok (.iconst 2, 1) := by decide +kernel
theorem dX10_atom3_107 : decode cX10_atom3 107 = .ok (.if_icmp .ne 16, 3) := by decide +kernel
theorem dX10_atom3_110 : decode cX10_atom3 110 = .ok (.aload_n 0, 1) := by decide +kernel
theorem dX10_atom3_111 : decode cX10_atom3 111 = .ok (.getfield 154, 3) := by decide +kernel
theorem dX10_atom3_114 : decode cX10_atom3 114 = .ok (.l2i, 1) := by decide +kernel
theorem dX10_atom3_115 : decode cX10_atom3 115 = .ok (.istore_n 1, 1) := by decide +kernel
theorem dX10_atom3_116 : decode cX10_atom3 116 = .ok (.aload_n 0, 1) := by decide +kernel
theorem dX10_atom3_117 : decode cX10_atom3 117 = .ok (.invokevirtual 176, 3) := by decide +kernel
theorem dX10_atom3_120 : decode cX10_atom3 120 = .ok (.goto 41, 3) := by decide +kernel
theorem dX10_atom3_123 : decode cX10_atom3 123 = .ok (.aload_n 0, 1) := by decide +kernel
theorem dX10_atom3_124 : decode cX10_atom3 124 = .ok (.getfield 160, 3) := by decide +kernel
theorem dX10_atom3_127 : decode cX10_atom3 127 = .ok (.ifCond .ne 30, 3) := by decide +kernel
theorem dX10_atom3_130 : decode cX10_atom3 130 = .ok (.aload_n 0, 1) := by decide +kernel
theorem dX10_atom3_131 : decode cX10_atom3 131 = .ok (.getfield 143, 3) := by decide +kernel
theorem dX10_atom3_134 : decode cX10_atom3 134 = .ok (.iconst 1, 1) := by decide +kernel
theorem dX10_atom3_135 : decode cX10_atom3 135 = .ok (.if_icmp .ne 22, 3) := by decide +kernel
theorem dX10_atom3_138 : decode cX10_atom3 138 = .ok (.aload_n 0, 1) := by decide +kernel
theorem dX10_atom3_139 : decode cX10_atom3 139 = .ok (.invokevirtual 208, 3) := by decide +kernel
theorem dX10_atom3_142 : decode cX10_atom3 142 = .ok (.istore_n 1, 1) := by decide +kernel
theorem dX10_atom3_143 : decode cX10_atom3 143 = .ok (.aload_n 0, 1) := by decide +kernel
theorem dX10_atom3_144 : decode cX10_atom3 144 = .ok (.getfield 160, 3) := by decide +kernel
theorem dX10_atom3_147 : decode cX10_atom3 147 = .ok (.ifCond .ne 14, 3) := by decide +kernel
theorem dX10_atom3_150 : decode cX10_atom3 150 = .ok (.aload_n 0, 1) := by decide +kernel
theorem dX10_atom3_151 : decode cX10_atom3 151 = .ok (.invokevirtual 176, 3) := by decide +kernel
theorem dX10_atom3_154 : decode cX10_atom3 154 = .ok (.goto 7, 3) := by decide +kernel
theorem dX10_atom3_157 : decode cX10_atom3 157 = .ok (.aload_n 0, 1) := by decide +kernel
theorem dX10_atom3_158 : decode cX10_atom3 158 = .ok (.invokevirtual 173, 3) := by decide +kernel
theorem dX10_atom3_161 : decode cX10_atom3 161 = .ok (.iload_n 1, 1) := by decide +kernel
theorem dX10_atom3_162 : decode cX10_atom3 162 = .ok (.ireturn, 1) := by decide +kernel
theorem dX10_term3_0 : decode cX10_term3 0 = .ok (.aload_n 0, 1) := by decide +kernel
theorem dX10_term3_1 : decode cX10_term3 1 = .ok (.invokevirtual 250, 3) := by decide +kernel
theorem dX10_term3_4 : decode cX10_term3 4 = .ok (.istore_n 1, 1) := by decide +kernel
theorem dX10_term3_5 : decode cX10_term3 5 = .ok (.aload_n 0, 1) := by decide +kernel
theorem dX10_term3_6 : decode cX10_term3 6 = .ok (.bipush 42, 2) := by decide +kernel
theorem dX10_term3_8 : decode cX10_term3 8 = .ok (.invokevirtual 201, 3) := by decide +kernel
theorem dX10_term3_11 : decode cX10_term3 11 = .ok (.ifCond .eq 17, 3) := by decide +kernel
theorem dX10_term3_14 : decode cX10_term3 14 = .ok (.aload_n 0, 1) := by decide +kernel
theorem dX10_term3_15 : decode cX10_term3 15 = .ok (.invokevirtual 176, 3) := by decide +kernel
theorem dX10_term3_18 : decode cX10_term3 18 = .ok (.iload_n 1, 1) := by decide +kernel
theorem dX10_term3_19 : decode cX10_term3 19 = .ok (.aload_n 0, 1) := by decide +kernel
theorem dX10_term3_20 : decode cX10_term3 20 = .ok (.invokevirtual 250, 3) := by decide +kernel
theorem dX10_term3_23 : decode cX10_term3 23 = .ok (.imul, 1) := by decide +kernel
theorem dX10_term3_24 : decode cX10_term3 24 = .ok (.istore_n 1, 1) := by decide +kernel
theorem dX10_term3_25 : decode cX10_term3 25 = .ok (.goto (-20), 3) := by decide +kernel
theorem dX10_term3_28 : decode cX10_term3 28 = .ok (.iload_n 1, 1) := by decide +kernel
theorem dX10_term3_29 : decode cX10_term3 29 = .ok (.ireturn, 1) := by decide +kernel
theorem dX10_added3_0 : decode cX10_added3 0 = .ok (.aload_n 0, 1) := by decide +kernel
theorem dX10_added3_1 : decode cX10_added3 1 = .ok (.invokevirtual 253, 3) := by decide +kernel
theorem dX10_added3_4 : decode cX10_added3 4 = .ok (.istore_n 1, 1) := by decide +kernel
theorem dX10_added3_5 : decode cX10_added3 5 = .ok (.aload_n 0, 1) := by decide +kernel
theorem dX10_added3_6 : decode cX10_added3 6 = .ok (.bipush 43, 2) := by decide +kernel
theorem dX10_added3_8 : decode cX10_added3 8 = .ok (.invokevirtual 201, 3) := by decide +kernel
theorem dX10_added3_11 : decode cX10_added3 11 = .ok (.ifCond .ne 12, 3) := by decide +kernel
theorem dX10_added3_14 : decode cX10_added3 14 = .ok (.aload_n 0, 1) := by decide +kernel
theorem dX10_added3_15 : decode cX10_added3 15 = .ok (.bipush 45, 2) := by decide +kernel
theorem dX10_added3_17 : decode cX10_added3 17 = .ok (.invokevirtual 201, 3) := by decide +kernel
theorem dX10_added3_20 : decode cX10_added3 20 = .ok (.ifCond .eq 46, 3) := by decide +kernel
theorem dX10_added3_23 : decode cX10_added3 23 = .ok (.aload_n 0, 1) := by decide +kernel
theorem dX10_added3_24 : decode cX10_added3 24 = .ok (.getfield 154, 3) := by decide +kernel
theorem dX10_added3_27 : decode cX10_added3 27 = .ok (.ldc2_w 218, 3) := by decide +kernel
theorem dX10_added3_30 : decode cX10_added3 30 = .ok (.lcmp, 1) := by decide +kernel
theorem dX10_added3_31 : decode cX10_added3 31 = .ok (.ifCond .ne 7, 3) := by decide +kernel
theorem dX10_added3_34 : decode cX10_added3 34 = .ok (.iconst 1, 1) := by decide +kernel
theorem dX10_added3_35 : decode cX10_added3 35 = .ok (.goto 4, 3) := by decide +kernel
theorem dX10_added3_38 : decode cX10_added3 38 = .ok (.iconst 0, 1) := by decide +kernel
theorem dX10_added3_39 : decode cX10_added3 39 = .ok (.istore_n 2, 1) := by decide +kernel
theorem dX10_added3_40 : decode cX10_added3 40 = .ok (.aload_n 0, 1) := by decide +kernel
theorem dX10_added3_41 : decode cX10_added3 41 = .ok (.invokevirtual 176, 3) := by decide +kernel
theorem dX10_added3_44 : decode cX10_added3 44 = .ok (.aload_n 0, 1) := by decide +kernel
theorem dX10_added3_45 : decode cX10_added3 45 = .ok (.invokevirtual 253, 3) := by decide +kernel
theorem dX10_added3_48 : decode cX10_added3 48 = .ok (.istore_n 3, 1) := by decide +kernel
theorem dX10_added3_49 : decode cX10_added3 49 = .ok (.iload_n 2, 1) := by decide +kernel
theorem dX10_added3_50 : decode cX10_added3 50 = .ok (.ifCond .eq 9, 3) := by decide +kernel
theorem dX10_added3_53 : decode cX10_added3 53 = .ok (.iload_n 1, 1) := by decide +kernel
theorem dX10_added3_54 : decode cX10_added3 54 = .ok (.iload_n 3, 1) := by decide +kernel
theorem dX10_added3_55 : decode cX10_added3 55 = .ok (.iadd, 1) := by decide +kernel
theorem dX10_added3_56 : decode cX10_added3 56 = .ok (.goto 6, 3) := by decide +kernel
theorem dX10_added3_59 : decode cX10_added3 59 = .ok (.iload_n 1, 1) := by decide +kernel
theorem dX10_added3_60 : decode cX10_added3 60 = .ok (.iload_n 3, 1) := by decide +kernel
theorem dX10_added3_61 : decode cX10_added3 61 = .ok (.isub, 1) := by decide +kernel
theorem dX10_added3_62 : decode cX10_added3 62 = .ok (.istore_n 1, 1) := by decide +kernel
theorem dX10_added3_63 : decode cX10_added3 63 = .ok (.goto (-58), 3) := by decide +kernel
theorem dX10_added3_66 : decode cX10_added3 66 = .ok (.iload_n 1, 1) := by decide +kernel
theorem dX10_added3_67 : decode cX10_added3 67 = .ok (.ireturn, 1) := by decide +kernel
theorem dX10_not3_0 : decode cX10_not3 0 = .ok (.aload_n 0, 1) := by decide +kernel
theorem dX10_not3_1 : decode cX10_not3 1 = .ok (.bipush 110, 2) := by decide +kernel
theorem dX10_not3_3 : decode cX10_not3 3 = .ok (.bipush 111, 2) := by decide +kernel
theorem dX10_not3_5 : decode cX10_not3 5 = .ok (.bipush 116, 2) := by decide +kernel
theorem dX10_not3_7 : decode cX10_not3 7 = .ok (.iconst 0, 1) := by decide +kernel
theorem dX10_not3_8 : decode cX10_not3 8 = .ok (.iconst 0, 1) := by decide +kernel
theorem dX10_not3_9 : decode cX10_not3 9 = .ok (.iconst 0, 1) := by decide +kernel
theorem dX10_not3_10 : decode cX10_not3 10 = .ok (.iconst 0, 1) := by decide +kernel
theorem dX10_not3_11 : decode cX10_not3 11 = .ok (.iconst 0, 1) := by decide +kernel
theorem dX10_not3_12 : decode cX10_not3 12 = .ok (.invokevirtual 179, 3) := by decide +kernel
theorem dX10_not3_15 : decode cX10_not3 15 = .ok (.ifCond .eq 37, 3) := by decide +kernel
theorem dX10_not3_18 : decode cX10_not3 18 = .ok (.aload_n 0, 1) := by decide +kernel
theorem dX10_not3_19 : decode cX10_not3 19 = .ok (.invokevirtual 204, 3) := by decide +kernel
theorem dX10_not3_22 : decode cX10_not3 22 = .ok (.ifCond .ne 5, 3) := by decide +kernel
theorem dX10_not3_25 : decode cX10_not3 25 = .ok (.iconst 0, 1) := by decide +kernel
theorem dX10_not3_26 : decode cX10_not3 26 = .ok (.ireturn, 1) := by decide +kernel
theorem dX10_not3_27 : decode cX10_not3 27 = .ok (.aload_n 0, 1) := by decide +kernel
theorem dX10_not3_28 : decode cX10_not3 28 = .ok (.invokevirtual 241, 3) := by decide +kernel
theorem dX10_not3_31 : decode cX10_not3 31 = .ok (.istore_n 1, 1) := by decide +kernel
theorem dX10_not3_32 : decode cX10_not3 32 = .ok (.aload_n 0, 1) := by decide +kernel
theorem dX10_not3_33 : decode cX10_not3 33 = .ok (.dup, 1) := by decide +kernel
theorem dX10_not3_34 : decode cX10_not3 34 = .ok (.getfield 170, 3) := by decide +kernel
theorem dX10_not3_37 : decode cX10_not3 37 = .ok (.iconst 1, 1) := by decide +kernel
theorem dX10_not3_38 : decode cX10_not3 38 = .ok (.isub, 1) := by decide +kernel
theorem dX10_not3_39 : decode cX10_not3 39 = .ok (.putfield 170, 3) := by decide +kernel
theorem dX10_not3_42 : decode cX10_not3 42 = .ok (.iload_n 1, 1) := by decide +kernel
theorem dX10_not3_43 : decode cX10_not3 43 = .ok (.ifCond .ne 7, 3) := by decide +kernel
theorem dX10_not3_46 : decode cX10_not3 46 = .ok (.iconst 1, 1) := by decide +kernel
theorem dX10_not3_47 : decode cX10_not3 47 = .ok (.goto 4, 3) := by decide +kernel
theorem dX10_not3_50 : decode cX10_not3 50 = .ok (.iconst 0, 1) := by decide +kernel
theorem dX10_not3_51 : decode cX10_not3 51 = .ok (.ireturn, 1) := by decide +kernel
theorem dX10_not3_52 : decode cX10_not3 52 = .ok (.aload_n 0, 1) := by decide +kernel
theorem dX10_not3_53 : decode cX10_not3 53 = .ok (.invokevirtual 256, 3) := by decide +kernel
theorem dX10_not3_56 : decode cX10_not3 56 = .ok (.istore_n 1, 1) := by decide +kernel
theorem dX10_not3_57 : decode cX10_not3 57 = .ok (.aload_n 0, 1) := by decide +kernel
theorem dX10_not3_58 : decode cX10_not3 58 = .ok (.bipush 60, 2) := by decide +kernel
theorem dX10_not3_60 : decode cX10_not3 60 = .ok (.invokevirtual 201, 3) := by decide +kernel
theorem dX10_not3_63 : decode cX10_not3 63 = .ok (.ifCond .ne 14, 3) := by decide +kernel
theorem dX10_not3_66 : decode cX10_not3 66 = .ok (.aload_n 0, 1) := by decide +kernel
theorem dX10_not3_67 : decode cX10_not3 67 = .ok (.bipush 61, 2) := by decide +kernel
theorem dX10_not3_69 : decode cX10_not3 69 = .ok (.invokevirtual 201, 3) := by decide +kernel
theorem dX10_not3_72 : decode cX10_not3 72 = .ok (.ifCond .ne 5, 3) := by decide +kernel
theorem dX10_not3_75 : decode cX10_not3 75 = .ok (.iload_n 1, 1) := by decide +kernel
theorem dX10_not3_76 : decode cX10_not3 76 = .ok (.ireturn, 1) := by decide +kernel
theorem dX10_not3_77 : decode cX10_not3 77 = .ok (.aload_n 0, 1) := by decide +kernel
theorem dX10_not3_78 : decode cX10_not3 78 = .ok (.getfield 154, 3) := by decide +kernel
theorem dX10_not3_81 : decode cX10_not3 81 = .ok (.ldc2_w 92, 3) := by decide +kernel
theorem dX10_not3_84 : decode cX10_not3 84 = .ok (.lcmp, 1) := by decide +kernel
theorem dX10_not3_85 : decode cX10_not3 85 = .ok (.ifCond .ne 7, 3) := by decide +kernel
theorem dX10_not3_88 : decode cX10_not3 88 = .ok (.iconst 1, 1) := by decide +kernel
theorem dX10_not3_89 : decode cX10_not3 89 = .ok (.goto 4, 3) := by decide +kernel
theorem dX10_not3_92 : decode cX10_not3 92 = .ok (.iconst 0, 1) := by decide +kernel
theorem dX10_not3_93 : decode cX10_not3 93 = .ok (.istore_n 2, 1) := by decide +kernel
theorem dX10_not3_94 : decode cX10_not3 94 = .ok (.aload_n 0, 1) := by decide +kernel
theorem dX10_not3_95 : decode cX10_not3 95 = .ok (.invokevirtual 176, 3) := by decide +kernel
theorem dX10_not3_98 : decode cX10_not3 98 = .ok (.aload_n 0, 1) := by decide +kernel
theorem dX10_not3_99 : decode cX10_not3 99 = .ok (.invokevirtual 256, 3) := by decide +kernel
theorem dX10_not3_102 : decode cX10_not3 102 = .ok (.istore_n 3, 1) := by decide +kernel
theorem dX10_not3_103 : decode cX10_not3 103 = .ok (.iload_n 2, 1) := by decide +kernel
theorem dX10_not3_104 : decode cX10_not3 104 = .ok (.ifCond .eq 11, 3) := by decide +kernel
theorem dX10_not3_107 : decode cX10_not3 107 = .ok (.iload_n 1, 1) := by decide +kernel
theorem dX10_not3_108 : decode cX10_not3 108 = .ok (.iload_n 3, 1) := by decide +kernel
theorem dX10_not3_109 : decode cX10_not3 109 = .ok (.if_icmp .ge 15, 3) := by decide +kernel
theorem dX10_not3_112 : decode cX10_not3 112 = .ok (.goto 8, 3) := by decide +kernel
theorem dX10_not3_115 : decode cX10_not3 115 = .ok (.iload_n 1, 1) := by decide +kernel
theorem dX10_not3_116 : decode cX10_not3 116 = .ok (.iload_n 3, 1) := by decide +kernel
theorem dX10_not3_117 : decode cX10_not3 117 = .ok (.if_icmp .ne 7, 3) := by decide +kernel
theorem dX10_not3_120 : decode cX10_not3 120 = .ok (.iconst 1, 1) := by decide +kernel
theorem dX10_not3_121 : decode cX10_not3 121 = .ok (.goto 4, 3) := by decide +kernel
theorem dX10_not3_124 : decode cX10_not3 124 = .ok (.iconst 0, 1) := by decide +kernel
theorem dX10_not3_125 : decode cX10_not3 125 = .ok (.ireturn, 1) := by decide +kernel
theorem dX10_both3_0 : decode cX10_both3 0 = .ok (.aload_n 0, 1) := by decide +kernel
theorem dX10_both3_1 : decode cX10_both3 1 = .ok (.invokevirtual 259, 3) := by decide +kernel
theorem dX10_both3_4 : decode cX10_both3 4 = .ok (.istore_n 1, 1) := by decide +kernel
theorem dX10_both3_5 : decode cX10_both3 5 = .ok (.aload_n 0, 1) := by decide +kernel
theorem dX10_both3_6 : decode cX10_both3 6 = .ok (.bipush 97, 2) := by decide +kernel
theorem dX10_both3_8 : decode cX10_both3 8 = .ok (.bipush 110, 2) := by decide +kernel
theorem dX10_both3_10 : decode cX10_both3 10 = .ok (.bipush 100, 2) := by decide +kernel
theorem dX10_both3_12 : decode cX10_both3 12 = .ok (.iconst 0, 1) := by decide +kernel
theorem dX10_both3_13 : decode cX10_both3 13 = .ok (.iconst 0, 1) := by decide +kernel
theorem dX10_both3_14 : decode cX10_both3 14 = .ok (.iconst 0, 1) := by decide +kernel
theorem dX10_both3_15 : decode cX10_both3 15 = .ok (.iconst 0, 1) := by decide +kernel
theorem dX10_both3_16 : decode cX10_both3 16 = .ok (.iconst 0, 1) := by decide +kernel
theorem dX10_both3_17 : decode cX10_both3 17 = .ok (.invokevirtual 179, 3) := by decide +kernel
theorem dX10_both3_20 : decode cX10_both3 20 = .ok (.ifCond .eq 29, 3) := by decide +kernel
theorem dX10_both3_23 : decode cX10_both3 23 = .ok (.aload_n 0, 1) := by decide +kernel
theorem dX10_both3_24 : decode cX10_both3 24 = .ok (.invokevirtual 176, 3) := by decide +kernel
theorem dX10_both3_27 : decode cX10_both3 27 = .ok (.aload_n 0, 1) := by decide +kernel
theorem dX10_both3_28 : decode cX10_both3 28 = .ok (.invokevirtual 259, 3) := by decide +kernel
theorem dX10_both3_31 : decode cX10_both3 31 = .ok (.istore_n 2, 1) := by decide +kernel
theorem dX10_both3_32 : decode cX10_both3 32 = .ok (.iload_n 1, 1) := by decide +kernel
theorem dX10_both3_33 : decode cX10_both3 33 = .ok (.ifCond .eq 11, 3) := by decide +kernel
theorem dX10_both3_36 : decode cX10_both3 36 = .ok (.iload_n 2, 1) := by decide +kernel
theorem dX10_both3_37 : decode cX10_both3 37 = .ok (.ifCond .eq 7, 3) := by decide +kernel
theorem dX10_both3_40 : decode cX10_both3 40 = .ok (.iconst 1, 1) := by decide +kernel
theorem dX10_both3_41 : decode cX10_both3 41 = .ok (.goto 4, 3) := by decide +kernel
theorem dX10_both3_44 : decode cX10_both3 44 = .ok (.iconst 0, 1) := by decide +kernel
theorem dX10_both3_45 : decode cX10_both3 45 = .ok (.istore_n 1, 1) := by decide +kernel
theorem dX10_both3_46 : decode cX10_both3 46 = .ok (.goto (-41), 3) := by decide +kernel
theorem dX10_both3_49 : decode cX10_both3 49 = .ok (.iload_n 1, 1) := by decide +kernel
theorem dX10_both3_50 : decode cX10_both3 50 = .ok (.ireturn, 1) := by decide +kernel
theorem dX10_either3_0 : decode cX10_either3 0 = .ok (.aload_n 0, 1) := by decide +kernel
theorem dX10_either3_1 : decode cX10_either3 1 = .ok (.invokevirtual 262, 3) := by decide +kernel
theorem dX10_either3_4 : decode cX10_either3 4 = .ok (.istore_n 1, 1) := by decide +kernel
theorem dX10_either3_5 : decode cX10_either3 5 = .ok (.aload_n 0, 1) := by decide +kernel
theorem dX10_either3_6 : decode cX10_either3 6 = .ok (.bipush 111, 2) := by decide +kernel
theorem dX10_either3_8 : decode cX10_either3 8 = .ok (.bipush 114, 2) := by decide +kernel
theorem dX10_either3_10 : decode cX10_either3 10 = .ok (.iconst 0, 1) := by decide +kernel
theorem dX10_either3_11 : decode cX10_either3 11 = .ok (.iconst 0, 1) := by decide +kernel
theorem dX10_either3_12 : decode cX10_either3 12 = .ok (.iconst 0, 1) := by decide +kernel
theorem dX10_either3_13 : decode cX10_either3 13 = .ok (.iconst 0, 1) := by decide +kernel
theorem dX10_either3_14 : decode cX10_either3 14 = .ok (.iconst 0, 1) := by decide +kernel
theorem dX10_either3_15 : decode cX10_either3 15 = .ok (.iconst 0, 1) := by decide +kernel
theorem dX10_either3_16 : decode cX10_either3 16 = .ok (.invokevirtual 179, 3) := by decide +kernel
theorem dX10_either3_19 : decode cX10_either3 19 = .ok (.ifCond .eq 29, 3) := by decide +kernel
theorem dX10_either3_22 : decode cX10_either3 22 = .ok (.aload_n 0, 1) := by decide +kernel
theorem dX10_either3_23 : decode cX10_either3 23 = .ok (.invokevirtual 176, 3) := by decide +kernel
theorem dX10_either3_26 : decode cX10_either3 26 = .ok (.aload_n 0, 1) := by decide +kernel
theorem dX10_either3_27 : decode cX10_either3 27 = .ok (.invokevirtual 262, 3) := by decide +kernel
theorem dX10_either3_30 : decode cX10_either3 30 = .ok (.istore_n 2, 1) := by decide +kernel
theorem dX10_either3_31 : decode cX10_either3 31 = .ok (.iload_n 1, 1) := by decide +kernel
theorem dX10_either3_32 : decode cX10_either3 32 = .ok (.ifCond .ne 7, 3) := by decide +kernel
theorem dX10_either3_35 : decode cX10_either3 35 = .ok (.iload_n 2, 1) := by decide +kernel
theorem dX10_either3_36 : decode cX10_either3 36 = .ok (.ifCond .eq 7, 3) := by decide +kernel
theorem dX10_either3_39 : decode cX10_either3 39 = .ok (.iconst 1, 1) := by decide +kernel
theorem dX10_either3_40 : decode cX10_either3 40 = .ok (.goto 4, 3) := by decide +kernel
theorem dX10_either3_43 : decode cX10_either3 43 = .ok (.iconst 0, 1) := by decide +kernel
theorem dX10_either3_44 : decode cX10_either3 44 = .ok (.istore_n 1, 1) := by decide +kernel
theorem dX10_either3_45 : decode cX10_either3 45 = .ok (.goto (-40), 3) := by decide +kernel
theorem dX10_either3_48 : decode cX10_either3 48 = .ok (.iload_n 1, 1) := by decide +kernel
theorem dX10_either3_49 : decode cX10_either3 49 = .ok (.ireturn, 1) := by decide +kernel
theorem dX10_atom2_0 : decode cX10_atom2 0 = .ok (.iconst 0, 1) := by decide +kernel
theorem dX10_atom2_1 : decode cX10_atom2 1 = .ok (.istore_n 1, 1) := by decide +kernel
theorem dX10_atom2_2 : decode cX10_atom2 2 = .ok (.aload_n 0, 1) := by decide +kernel
theorem dX10_atom2_3 : decode cX10_atom2 3 = .ok (.bipush 45, 2) := by decide +kernel
theorem dX10_atom2_5 : decode cX10_atom2 5 = .ok (.invokevirtual 201, 3) := by decide +kernel
theorem dX10_atom2_8 : decode cX10_atom2 8 = .ok (.ifCond .eq 29, 3) := by decide +kernel
theorem dX10_atom2_11 : decode cX10_atom2 11 = .ok (.aload_n 0, 1) := by decide +kernel
theorem dX10_atom2_12 : decode cX10_atom2 12 = .ok (.invokevirtual 204, 3) := by decide +kernel
theorem dX10_atom2_15 : decode cX10_atom2 15 = .ok (.ifCond .eq 146, 3) := by decide +kernel
theorem dX10_atom2_18 : decode cX10_atom2 18 = .ok (.aload_n 0, 1) := by decide +kernel
theorem dX10_atom2_19 : decode cX10_atom2 19 = .ok (.invokevirtual 250, 3) := by decide +kernel
theorem dX10_atom2_22 : decode cX10_atom2 22 = .ok (.ineg, 1) := by decide +kernel
theorem dX10_atom2_23 : decode cX10_atom2 23 = .ok (.istore_n 1, 1) := by decide +kernel
theorem dX10_atom2_24 : decode cX10_atom2 24 = .ok (.aload_n 0, 1) := by decide +kernel
theorem dX10_atom2_25 : decode cX10_atom2 25 = .ok (.dup, 1) := by decide +kernel
theorem dX10_atom2_26 : decode cX10_atom2 26 = .ok (.getfield 170, 3) := by decide +kernel
theorem dX10_atom2_29 : decode cX10_atom2 29 = .ok (.iconst 1, 1) := by decide +kernel
theorem dX10_atom2_30 : decode cX10_atom2 30 = .ok (.isub, 1) := by decide +kernel
theorem dX10_atom2_31 : decode cX10_atom2 31 = .ok (.putfield 170, 3) := by decide +kernel
theorem dX10_atom2_34 : decode cX10_atom2 34 = .ok (.goto 127, 3) := by decide +kernel
theorem dX10_atom2_37 : decode cX10_atom2 37 = .ok (.aload_n 0, 1) := by decide +kernel
theorem dX10_atom2_38 : decode cX10_atom2 38 = .ok (.bipush 40, 2) := by decide +kernel
theorem dX10_atom2_40 : decode cX10_atom2 40 = .ok (.invokevirtual 201, 3) := by decide +kernel
theorem dX10_atom2_43 : decode cX10_atom2 43 = .ok (.ifCond .eq 52, 3) := by decide +kernel
theorem dX10_atom2_46 : decode cX10_atom2 46 = .ok (.aload_n 0, 1) := by decide +kernel
theorem dX10_atom2_47 : decode cX10_atom2 47 = .ok (.invokevirtual 204, 3) := by decide +kernel
theorem dX10_atom2_50 : decode cX10_atom2 50 = .ok (.ifCond .eq 111, 3) := by decide +kernel
theorem dX10_atom2_53 : decode cX10_atom2 53 = .ok (.aload_n 0, 1) := by decide +kernel
theorem dX10_atom2_54 : decode cX10_atom2 54 = .ok (.invokevirtual 265, 3) := by decide +kernel
theorem dX10_atom2_57 : decode cX10_atom2 57 = .ok (.istore_n 1, 1) := by decide +kernel
theorem dX10_atom2_58 : decode cX10_atom2 58 = .ok (.aload_n 0, 1) := by decide +kernel
theorem dX10_atom2_59 : decode cX10_atom2 59 = .ok (.bipush 41, 2) := by decide +kernel
theorem dX10_atom2_61 : decode cX10_atom2 61 = .ok (.invokevirtual 201, 3) := by decide +kernel
theorem dX10_atom2_64 : decode cX10_atom2 64 = .ok (.ifCond .ne 7, 3) := by decide +kernel
theorem dX10_atom2_67 : decode cX10_atom2 67 = .ok (.aload_n 0, 1) := by decide +kernel
theorem dX10_atom2_68 : decode cX10_atom2 68 = .ok (.invokevirtual 173, 3) := by decide +kernel
theorem dX10_atom2_71 : decode cX10_atom2 71 = .ok (.aload_n 0, 1) := by decide +kernel
theorem dX10_atom2_72 : decode cX10_atom2 72 = .ok (.dup, 1) := by decide +kernel
theorem dX10_atom2_73 : decode cX10_atom2 73 = .ok (.getfield 170, 3) := by decide +kernel
theorem dX10_atom2_76 : decode cX10_atom2 76 = .ok (.iconst 1, 1) := by decide +kernel
theorem dX10_atom2_77 : decode cX10_atom2 77 = .ok (.isub, 1) := by decide +kernel
theorem dX10_atom2_78 : decode cX10_atom2 78 = .ok (.putfield 170, 3) := by decide +kernel
theorem dX10_atom2_81 : decode cX10_atom2 81 = .ok (.aload_n 0, 1) := by decide +kernel
theorem dX10_atom2_82 : decode cX10_atom2 82 = .ok (.getfield 160, 3) := by decide +kernel
theorem dX10_atom2_85 : decode cX10_atom2 85 = .ok (.ifCond .ne 76, 3) := by decide +kernel
theorem dX10_atom2_88 : decode cX10_atom2 88 = .ok (.aload_n 0, 1) := by decide +kernel
theorem dX10_atom2_89 : decode cX10_atom2 89 = .ok (.invokevirtual 176, 3) := by decide +kernel
theorem dX10_atom2_92 : decode cX10_atom2 92 = .ok (.goto 69, 3) := by decide +kernel
theorem dX10_atom2_95 : decode cX10_atom2 95 = .ok (.aload_n 0, 1) := by decide +kernel
theorem dX10_atom2_96 : decode cX10_atom2 96 = .ok (.getfield 160, 3) := by decide +kernel
theorem dX10_atom2_99 : decode cX10_atom2 99 = .ok (.ifCond .ne 24, 3) := by decide +kernel
theorem dX10_atom2_102 : decode cX10_atom2 102 = .ok (.aload_n 0, 1) := by decide +kernel
theorem dX10_atom2_103 : decode cX10_atom2 103 = .ok (.getfield 143, 3) := by decide +kernel
theorem dX10_atom2_106 : decode cX10_atom2 106 = .ok (.iconst 2, 1) := by decide +kernel
theorem dX10_atom2_107 : decode cX10_atom2 107 = .ok (.if_icmp .ne 16, 3) := by decide +kernel
theorem dX10_atom2_110 : decode cX10_atom2 110 = .ok (.aload_n 0, 1) := by decide +kernel
theorem dX10_atom2_111 : decode cX10_atom2 111 = .ok (.getfield 154, 3) := by decide +kernel
theorem dX10_atom2_114 : decode cX10_atom2 114 = .ok (.l2i, 1) := by decide +kernel
theorem dX10_atom2_115 : decode cX10_atom2 115 = .ok (.istore_n 1, 1) := by decide +kernel
theorem dX10_atom2_116 : decode cX10_atom2 116 = .ok (.aload_n 0, 1) := by decide +kernel
theorem dX10_atom2_117 : decode cX10_atom2 117 = .ok (.invokevirtual 176, 3) := by decide +kernel
theorem dX10_atom2_120 : decode cX10_atom2 120 = .ok (.goto 41, 3) := by decide +kernel
theorem dX10_atom2_123 : decode cX10_atom2 123 = .ok (.aload_n 0, 1) := by decide +kernel
theorem dX10_atom2_124 : decode cX10_atom2 124 = .ok (.getfield 160, 3) := by decide +kernel
theorem dX10_atom2_127 : decode cX10_atom2 127 = .ok (.ifCond .ne 30, 3) := by decide +kernel
theorem dX10_atom2_130 : decode cX10_atom2 130 = .ok (.aload_n 0, 1) := by decide +kernel
theorem dX10_atom2_131 : decode cX10_atom2 131 = .ok (.getfield 143, 3) := by decide +kernel
theorem dX10_atom2_134 : decode cX10_atom2 134 = .ok (.iconst 1, 1) := by decide +kernel
theorem dX10_atom2_135 : decode cX10_atom2 135 = .ok (.if_icmp .ne 22, 3) := by decide +kernel
theorem dX10_atom2_138 : decode cX10_atom2 138 = .ok (.aload_n 0, 1) := by decide +kernel
theorem dX10_atom2_139 : decode cX10_atom2 139 = .ok (.invokevirtual 208, 3) := by decide +kernel
theorem dX10_atom2_142 : decode cX10_atom2 142 = .ok (.istore_n 1, 1) := by decide +kernel
theorem dX10_atom2_143 : decode cX10_atom2 143 = .ok (.aload_n 0, 1) := by decide +kernel
theorem dX10_atom2_144 : decode cX10_atom2 144 = .ok (.getfield 160, 3) := by decide +kernel
theorem dX10_atom2_147 : decode cX10_atom2 147 = .ok (.ifCond .ne 14, 3) := by decide +kernel
theorem dX10_atom2_150 : decode cX10_atom2 150 = .ok (.aload_n 0, 1) := by decide +kernel
theorem dX10_atom2_151 : decode cX10_atom2 151 = .ok (.invokevirtual 176, 3) := by decide +kernel
theorem dX10_atom2_154 : decode cX10_atom2 154 = .ok (.goto 7, 3) := by decide +kernel
theorem dX10_atom2_157 : decode cX10_atom2 157 = .ok (.aload_n 0, 1) := by decide +kernel
theorem dX10_atom2_158 : decode cX10_atom2 158 = .ok (.invokevirtual 173, 3) := by decide +kernel
theorem dX10_atom2_161 : decode cX10_atom2 161 = .ok (.iload_n 1, 1) := by decide +kernel
theorem dX10_atom2_162 : decode cX10_atom2 162 = .ok (.ireturn, 1) := by decide +kernel
theorem dX10_term2_0 : decode cX10_term2 0 = .ok (.aload_n 0, 1) := by decide +kernel
theorem dX10_term2_1 : decode cX10_term2 1 = .ok (.invokevirtual 268, 3) := by decide +kernel
theorem dX10_term2_4 : decode cX10_term2 4 = .ok (.istore_n 1, 1) := by decide +kernel
theorem dX10_term2_5 : decode cX10_term2 5 = .ok (.aload_n 0, 1) := by decide +kernel
theorem dX10_term2_6 : decode cX10_term2 6 = .ok (.bipush 42, 2) := by decide +kernel
theorem dX10_term2_8 : decode cX10_term2 8 = .ok (.invokevirtual 201, 3) := by decide +kernel
theorem dX10_term2_11 : decode cX10_term2 11 = .ok (.ifCond .eq 17, 3) := by decide +kernel
theorem dX10_term2_14 : decode cX10_term2 14 = .ok (.aload_n 0, 1) := by decide +kernel
theorem dX10_term2_15 : decode cX10_term2 15 = .ok (.invokevirtual 176, 3) := by decide +kernel
theorem dX10_term2_18 : decode cX10_term2 18 = .ok (.iload_n 1, 1) := by decide +kernel
theorem dX10_term2_19 : decode cX10_term2 19 = .ok (.aload_n 0, 1) := by decide +kernel
theorem dX10_term2_20 : decode cX10_term2 20 = .ok (.invokevirtual 268, 3) := by decide +kernel
theorem dX10_term2_23 : decode cX10_term2 23 = .ok (.imul, 1) := by decide +kernel
theorem dX10_term2_24 : decode cX10_term2 24 = .ok (.istore_n 1, 1) := by decide +kernel
theorem dX10_term2_25 : decode cX10_term2 25 = .ok (.goto (-20), 3) := by decide +kernel
theorem dX10_term2_28 : decode cX10_term2 28 = .ok (.iload_n 1, 1) := by decide +kernel
theorem dX10_term2_29 : decode cX10_term2 29 = .ok (.ireturn, 1) := by decide +kernel
theorem dX10_added2_0 : decode cX10_added2 0 = .ok (.aload_n 0, 1) := by decide +kernel
theorem dX10_added2_1 : decode cX10_added2 1 = .ok (.invokevirtual 271, 3) := by decide +kernel
theorem dX10_added2_4 : decode cX10_added2 4 = .ok (.istore_n 1, 1) := by decide +kernel
theorem dX10_added2_5 : decode cX10_added2 5 = .ok (.aload_n 0, 1) := by decide +kernel
theorem dX10_added2_6 : decode cX10_added2 6 = .ok (.bipush 43, 2) := by decide +kernel
theorem dX10_added2_8 : decode cX10_added2 8 = .ok (.invokevirtual 201, 3) := by decide +kernel
theorem dX10_added2_11 : decode cX10_added2 11 = .ok (.ifCond .ne 12, 3) := by decide +kernel
theorem dX10_added2_14 : decode cX10_added2 14 = .ok (.aload_n 0, 1) := by decide +kernel
theorem dX10_added2_15 : decode cX10_added2 15 = .ok (.bipush 45, 2) := by decide +kernel
theorem dX10_added2_17 : decode cX10_added2 17 = .ok (.invokevirtual 201, 3) := by decide +kernel
theorem dX10_added2_20 : decode cX10_added2 20 = .ok (.ifCond .eq 46, 3) := by decide +kernel
theorem dX10_added2_23 : decode cX10_added2 23 = .ok (.aload_n 0, 1) := by decide +kernel
theorem dX10_added2_24 : decode cX10_added2 24 = .ok (.getfield 154, 3) := by decide +kernel
theorem dX10_added2_27 : decode cX10_added2 27 = .ok (.ldc2_w 218, 3) := by decide +kernel
theorem dX10_added2_30 : decode cX10_added2 30 = .ok (.lcmp, 1) := by decide +kernel
theorem dX10_added2_31 : decode cX10_added2 31 = .ok (.ifCond .ne 7, 3) := by decide +kernel
theorem dX10_added2_34 : decode cX10_added2 34 = .ok (.iconst 1, 1) := by decide +kernel
theorem dX10_added2_35 : decode cX10_added2 35 = .ok (.goto 4, 3) := by decide +kernel
theorem dX10_added2_38 : decode cX10_added2 38 = .ok (.iconst 0, 1) := by decide +kernel
theorem dX10_added2_39 : decode cX10_added2 39 = .ok (.istore_n 2, 1) := by decide +kernel
theorem dX10_added2_40 : decode cX10_added2 40 = .ok (.aload_n 0, 1) := by decide +kernel
theorem dX10_added2_41 : decode cX10_added2 41 = .ok (.invokevirtual 176, 3) := by decide +kernel
theorem dX10_added2_44 : decode cX10_added2 44 = .ok (.aload_n 0, 1) := by decide +kernel
theorem dX10_added2_45 : decode cX10_added2 45 = .ok (.invokevirtual 271, 3) := by decide +kernel
theorem dX10_added2_48 : decode cX10_added2 48 = .ok (.istore_n 3, 1) := by decide +kernel
theorem dX10_added2_49 : decode cX10_added2 49 = .ok (.iload_n 2, 1) := by decide +kernel
theorem dX10_added2_50 : decode cX10_added2 50 = .ok (.ifCond .eq 9, 3) := by decide +kernel
theorem dX10_added2_53 : decode cX10_added2 53 = .ok (.iload_n 1, 1) := by decide +kernel
theorem dX10_added2_54 : decode cX10_added2 54 = .ok (.iload_n 3, 1) := by decide +kernel
theorem dX10_added2_55 : decode cX10_added2 55 = .ok (.iadd, 1) := by decide +kernel
theorem dX10_added2_56 : decode cX10_added2 56 = .ok (.goto 6, 3) := by decide +kernel
theorem dX10_added2_59 : decode cX10_added2 59 = .ok (.iload_n 1, 1) := by decide +kernel
theorem dX10_added2_60 : decode cX10_added2 60 = .ok (.iload_n 3, 1) := by decide +kernel
theorem dX10_added2_61 : decode cX10_added2 61 = .ok (.isub, 1) := by decide +kernel
theorem dX10_added2_62 : decode cX10_added2 62 = .ok (.istore_n 1, 1) := by decide +kernel
theorem dX10_added2_63 : decode cX10_added2 63 = .ok (.goto (-58), 3) := by decide +kernel
theorem dX10_added2_66 : decode cX10_added2 66 = .ok (.iload_n 1, 1) := by decide +kernel
theorem dX10_added2_67 : decode cX10_added2 67 = .ok (.ireturn, 1) := by decide +kernel
theorem dX10_not2_0 : decode cX10_not2 0 = .ok (.aload_n 0, 1) := by decide +kernel
theorem dX10_not2_1 : decode cX10_not2 1 = .ok (.bipush 110, 2) := by decide +kernel
theorem dX10_not2_3 : decode cX10_not2 3 = .ok (.bipush 111, 2) := by decide +kernel
theorem dX10_not2_5 : decode cX10_not2 5 = .ok (.bipush 116, 2) := by decide +kernel
theorem dX10_not2_7 : decode cX10_not2 7 = .ok (.iconst 0, 1) := by decide +kernel
theorem dX10_not2_8 : decode cX10_not2 8 = .ok (.iconst 0, 1) := by decide +kernel
theorem dX10_not2_9 : decode cX10_not2 9 = .ok (.iconst 0, 1) := by decide +kernel
theorem dX10_not2_10 : decode cX10_not2 10 = .ok (.iconst 0, 1) := by decide +kernel
theorem dX10_not2_11 : decode cX10_not2 11 = .ok (.iconst 0, 1) := by decide +kernel
theorem dX10_not2_12 : decode cX10_not2 12 = .ok (.invokevirtual 179, 3) := by decide +kernel
theorem dX10_not2_15 : decode cX10_not2 15 = .ok (.ifCond .eq 37, 3) := by decide +kernel
theorem dX10_not2_18 : decode cX10_not2 18 = .ok (.aload_n 0, 1) := by decide +kernel
theorem dX10_not2_19 : decode cX10_not2 19 = .ok (.invokevirtual 204, 3) := by decide +kernel
theorem dX10_not2_22 : decode cX10_not2 22 = .ok (.ifCond .ne 5, 3) := by decide +kernel
theorem dX10_not2_25 : decode cX10_not2 25 = .ok (.iconst 0, 1) := by decide +kernel
theorem dX10_not2_26 : decode cX10_not2 26 = .ok (.ireturn, 1) := by decide +kernel
theorem dX10_not2_27 : decode cX10_not2 27 = .ok (.aload_n 0, 1) := by decide +kernel
theorem dX10_not2_28 : decode cX10_not2 28 = .ok (.invokevirtual 259, 3) := by decide +kernel
theorem dX10_not2_31 : decode cX10_not2 31 = .ok (.istore_n 1, 1) := by decide +kernel
theorem dX10_not2_32 : decode cX10_not2 32 = .ok (.aload_n 0, 1) := by decide +kernel
theorem dX10_not2_33 : decode cX10_not2 33 = .ok (.dup, 1) := by decide +kernel
theorem dX10_not2_34 : decode cX10_not2 34 = .ok (.getfield 170, 3) := by decide +kernel
theorem dX10_not2_37 : decode cX10_not2 37 = .ok (.iconst 1, 1) := by decide +kernel
theorem dX10_not2_38 : decode cX10_not2 38 = .ok (.isub, 1) := by decide +kernel
theorem dX10_not2_39 : decode cX10_not2 39 = .ok (.putfield 170, 3) := by decide +kernel
theorem dX10_not2_42 : decode cX10_not2 42 = .ok (.iload_n 1, 1) := by decide +kernel
theorem dX10_not2_43 : decode cX10_not2 43 = .ok (.ifCond .ne 7, 3) := by decide +kernel
theorem dX10_not2_46 : decode cX10_not2 46 = .ok (.iconst 1, 1) := by decide +kernel
theorem dX10_not2_47 : decode cX10_not2 47 = .ok (.goto 4, 3) := by decide +kernel
theorem dX10_not2_50 : decode cX10_not2 50 = .ok (.iconst 0, 1) := by decide +kernel
theorem dX10_not2_51 : decode cX10_not2 51 = .ok (.ireturn, 1) := by decide +kernel
theorem dX10_not2_52 : decode cX10_not2 52 = .ok (.aload_n 0, 1) := by decide +kernel
theorem dX10_not2_53 : decode cX10_not2 53 = .ok (.invokevirtual 274, 3) := by decide +kernel
theorem dX10_not2_56 : decode cX10_not2 56 = .ok (.istore_n 1, 1) := by decide +kernel
theorem dX10_not2_57 : decode cX10_not2 57 = .ok (.aload_n 0, 1) := by decide +kernel
theorem dX10_not2_58 : decode cX10_not2 58 = .ok (.bipush 60, 2) := by decide +kernel
theorem dX10_not2_60 : decode cX10_not2 60 = .ok (.invokevirtual 201, 3) := by decide +kernel
theorem dX10_not2_63 : decode cX10_not2 63 = .ok (.ifCond .ne 14, 3) := by decide +kernel
theorem dX10_not2_66 : decode cX10_not2 66 = .ok (.aload_n 0, 1) := by decide +kernel
theorem dX10_not2_67 : decode cX10_not2 67 = .ok (.bipush 61, 2) := by decide +kernel
theorem dX10_not2_69 : decode cX10_not2 69 = .ok (.invokevirtual 201, 3) := by decide +kernel
theorem dX10_not2_72 : decode cX10_not2 72 = .ok (.ifCond .ne 5, 3) := by decide +kernel
theorem dX10_not2_75 : decode cX10_not2 75 = .ok (.iload_n 1, 1) := by decide +kernel
theorem dX10_not2_76 : decode cX10_not2 76 = .ok (.ireturn, 1) := by decide +kernel
theorem dX10_not2_77 : decode cX10_not2 77 = .ok (.aload_n 0, 1) := by decide +kernel
theorem dX10_not2_78 : decode cX10_not2 78 = .ok (.getfield 154, 3) := by decide +kernel
theorem dX10_not2_81 : decode cX10_not2 81 = .ok (.ldc2_w 92, 3) := by decide +kernel
theorem dX10_not2_84 : decode cX10_not2 84 = .ok (.lcmp, 1) := by decide +kernel
theorem dX10_not2_85 : decode cX10_not2 85 = .ok (.ifCond .ne 7, 3) := by decide +kernel
theorem dX10_not2_88 : decode cX10_not2 88 = .ok (.iconst 1, 1) := by decide +kernel
theorem dX10_not2_89 : decode cX10_not2 89 = .ok (.goto 4, 3) := by decide +kernel
theorem dX10_not2_92 : decode cX10_not2 92 = .ok (.iconst 0, 1) := by decide +kernel
theorem dX10_not2_93 : decode cX10_not2 93 = .ok (.istore_n 2, 1) := by decide +kernel
theorem dX10_not2_94 : decode cX10_not2 94 = .ok (.aload_n 0, 1) := by decide +kernel
theorem dX10_not2_95 : decode cX10_not2 95 = .ok (.invokevirtual 176, 3) := by decide +kernel
theorem dX10_not2_98 : decode cX10_not2 98 = .ok (.aload_n 0, 1) := by decide +kernel
theorem dX10_not2_99 : decode cX10_not2 99 = .ok (.invokevirtual 274, 3) := by decide +kernel
theorem dX10_not2_102 : decode cX10_not2 102 = .ok (.istore_n 3, 1) := by decide +kernel
theorem dX10_not2_103 : decode cX10_not2 103 = .ok (.iload_n 2, 1) := by decide +kernel
theorem dX10_not2_104 : decode cX10_not2 104 = .ok (.ifCond .eq 11, 3) := by decide +kernel
theorem dX10_not2_107 : decode cX10_not2 107 = .ok (.iload_n 1, 1) := by decide +kernel
theorem dX10_not2_108 : decode cX10_not2 108 = .ok (.iload_n 3, 1) := by decide +kernel
theorem dX10_not2_109 : decode cX10_not2 109 = .ok (.if_icmp .ge 15, 3) := by decide +kernel
theorem dX10_not2_112 : decode cX10_not2 112 = .ok (.goto 8, 3) := by decide +kernel
theorem dX10_not2_115 : decode cX10_not2 115 = .ok (.iload_n 1, 1) := by decide +kernel
theorem dX10_not2_116 : decode cX10_not2 116 = .ok (.iload_n 3, 1) := by decide +kernel
theorem dX10_not2_117 : decode cX10_not2 117 = .ok (.if_icmp .ne 7, 3) := by decide +kernel
theorem dX10_not2_120 : decode cX10_not2 120 = .ok (.iconst 1, 1) := by decide +kernel
theorem dX10_not2_121 : decode cX10_not2 121 = .ok (.goto 4, 3) := by decide +kernel
theorem dX10_not2_124 : decode cX10_not2 124 = .ok (.iconst 0, 1) := by decide +kernel
theorem dX10_not2_125 : decode cX10_not2 125 = .ok (.ireturn, 1) := by decide +kernel
theorem dX10_both2_0 : decode cX10_both2 0 = .ok (.aload_n 0, 1) := by decide +kernel
theorem dX10_both2_1 : decode cX10_both2 1 = .ok (.invokevirtual 277, 3) := by decide +kernel
theorem dX10_both2_4 : decode cX10_both2 4 = .ok (.istore_n 1, 1) := by decide +kernel
theorem dX10_both2_5 : decode cX10_both2 5 = .ok (.aload_n 0, 1) := by decide +kernel
theorem dX10_both2_6 : decode cX10_both2 6 = .ok (.bipush 97, 2) := by decide +kernel
theorem dX10_both2_8 : decode cX10_both2 8 = .ok (.bipush 110, 2) := by decide +kernel
theorem dX10_both2_10 : decode cX10_both2 10 = .ok (.bipush 100, 2) := by decide +kernel
theorem dX10_both2_12 : decode cX10_both2 12 = .ok (.iconst 0, 1) := by decide +kernel
theorem dX10_both2_13 : decode cX10_both2 13 = .ok (.iconst 0, 1) := by decide +kernel
theorem dX10_both2_14 : decode cX10_both2 14 = .ok (.iconst 0, 1) := by decide +kernel
theorem dX10_both2_15 : decode cX10_both2 15 = .ok (.iconst 0, 1) := by decide +kernel
theorem dX10_both2_16 : decode cX10_both2 16 = .ok (.iconst 0, 1) := by decide +kernel
theorem dX10_both2_17 : decode cX10_both2 17 = .ok (.invokevirtual 179, 3) := by decide +kernel
theorem dX10_both2_20 : decode cX10_both2 20 = .ok (.ifCond .eq 29, 3) := by decide +kernel
theorem dX10_both2_23 : decode cX10_both2 23 = .ok (.aload_n 0, 1) := by decide +kernel
theorem dX10_both2_24 : decode cX10_both2 24 = .ok (.invokevirtual 176, 3) := by decide +kernel
theorem dX10_both2_27 : decode cX10_both2 27 = .ok (.aload_n 0, 1) := by decide +kernel
theorem dX10_both2_28 : decode cX10_both2 28 = .ok (.invokevirtual 277, 3) := by decide +kernel
theorem dX10_both2_31 : decode cX10_both2 31 = .ok (.istore_n 2, 1) := by decide +kernel
theorem dX10_both2_32 : decode cX10_both2 32 = .ok (.iload_n 1, 1) := by decide +kernel
theorem dX10_both2_33 : decode cX10_both2 33 = .ok (.ifCond .eq 11, 3) := by decide +kernel
theorem dX10_both2_36 : decode cX10_both2 36 = .ok (.iload_n 2, 1) := by decide +kernel
theorem dX10_both2_37 : decode cX10_both2 37 = .ok (.ifCond .eq 7, 3) := by decide +kernel
theorem dX10_both2_40 : decode cX10_both2 40 = .ok (.iconst 1, 1) := by decide +kernel
theorem dX10_both2_41 : decode cX10_both2 41 = .ok (.goto 4, 3) := by decide +kernel
theorem dX10_both2_44 : decode cX10_both2 44 = .ok (.iconst 0, 1) := by decide +kernel
theorem dX10_both2_45 : decode cX10_both2 45 = .ok (.istore_n 1, 1) := by decide +kernel
theorem dX10_both2_46 : decode cX10_both2 46 = .ok (.goto (-41), 3) := by decide +kernel
theorem dX10_both2_49 : decode cX10_both2 49 = .ok (.iload_n 1, 1) := by decide +kernel
theorem dX10_both2_50 : decode cX10_both2 50 = .ok (.ireturn, 1) := by decide +kernel
theorem dX10_either2_0 : decode cX10_either2 0 = .ok (.aload_n 0, 1) := by decide +kernel
theorem dX10_either2_1 : decode cX10_either2 1 = .ok (.invokevirtual 280, 3) := by decide +kernel
theorem dX10_either2_4 : decode cX10_either2 4 = .ok (.istore_n 1, 1) := by decide +kernel
theorem dX10_either2_5 : decode cX10_either2 5 = .ok (.aload_n 0, 1) := by decide +kernel
theorem dX10_either2_6 : decode cX10_either2 6 = .ok (.bipush 111, 2) := by decide +kernel
theorem dX10_either2_8 : decode cX10_either2 8 = .ok (.bipush 114, 2) := by decide +kernel
theorem dX10_either2_10 : decode cX10_either2 10 = .ok (.iconst 0, 1) := by decide +kernel
theorem dX10_either2_11 : decode cX10_either2 11 = .ok (.iconst 0, 1) := by decide +kernel
theorem dX10_either2_12 : decode cX10_either2 12 = .ok (.iconst 0, 1) := by decide +kernel
theorem dX10_either2_13 : decode cX10_either2 13 = .ok (.iconst 0, 1) := by decide +kernel
theorem dX10_either2_14 : decode cX10_either2 14 = .ok (.iconst 0, 1) := by decide +kernel
theorem dX10_either2_15 : decode cX10_either2 15 = .ok (.iconst 0, 1) := by decide +kernel
theorem dX10_either2_16 : decode cX10_either2 16 = .ok (.invokevirtual 179, 3) := by decide +kernel
theorem dX10_either2_19 : decode cX10_either2 19 = .ok (.ifCond .eq 29, 3) := by decide +kernel
theorem dX10_either2_22 : decode cX10_either2 22 = .ok (.aload_n 0, 1) := by decide +kernel
theorem dX10_either2_23 : decode cX10_either2 23 = .ok (.invokevirtual 176, 3) := by decide +kernel
theorem dX10_either2_26 : decode cX10_either2 26 = .ok (.aload_n 0, 1) := by decide +kernel
theorem dX10_either2_27 : decode cX10_either2 27 = .ok (.invokevirtual 280, 3) := by decide +kernel
theorem dX10_either2_30 : decode cX10_either2 30 = .ok (.istore_n 2, 1) := by decide +kernel
theorem dX10_either2_31 : decode cX10_either2 31 = .ok (.iload_n 1, 1) := by decide +kernel
theorem dX10_either2_32 : decode cX10_either2 32 = .ok (.ifCond .ne 7, 3) := by decide +kernel
theorem dX10_either2_35 : decode cX10_either2 35 = .ok (.iload_n 2, 1) := by decide +kernel
theorem dX10_either2_36 : decode cX10_either2 36 = .ok (.ifCond .eq 7, 3) := by decide +kernel
theorem dX10_either2_39 : decode cX10_either2 39 = .ok (.iconst 1, 1) := by decide +kernel
theorem dX10_either2_40 : decode cX10_either2 40 = .ok (.goto 4, 3) := by decide +kernel
theorem dX10_either2_43 : decode cX10_either2 43 = .ok (.iconst 0, 1) := by decide +kernel
theorem dX10_either2_44 : decode cX10_either2 44 = .ok (.istore_n 1, 1) := by decide +kernel
theorem dX10_either2_45 : decode cX10_either2 45 = .ok (.goto (-40), 3) := by decide +kernel
theorem dX10_either2_48 : decode cX10_either2 48 = .ok (.iload_n 1, 1) := by decide +kernel
theorem dX10_either2_49 : decode cX10_either2 49 = .ok (.ireturn, 1) := by decide +kernel
theorem dX10_atom1_0 : decode cX10_atom1 0 = .ok (.iconst 0, 1) := by decide +kernel
theorem dX10_atom1_1 : decode cX10_atom1 1 = .ok (.istore_n 1, 1) := by decide +kernel
theorem dX10_atom1_2 : decode cX10_atom1 2 = .ok (.aload_n 0, 1) := by decide +kernel
theorem dX10_atom1_3 : decode cX10_atom1 3 = .ok (.bipush 45, 2) := by decide +kernel
theorem dX10_atom1_5 : decode cX10_atom1 5 = .ok (.invokevirtual 201, 3) := by decide +kernel
theorem dX10_atom1_8 : decode cX10_atom1 8 = .ok (.ifCond .eq 29, 3) := by decide +kernel
theorem dX10_atom1_11 : decode cX10_atom1 11 = .ok (.aload_n 0, 1) := by decide +kernel
theorem dX10_atom1_12 : decode cX10_atom1 12 = .ok (.invokevirtual 204, 3) := by decide +kernel
theorem dX10_atom1_15 : decode cX10_atom1 15 = .ok (.ifCond .eq 146, 3) := by decide +kernel
theorem dX10_atom1_18 : decode cX10_atom1 18 = .ok (.aload_n 0, 1) := by decide +kernel
theorem dX10_atom1_19 : decode cX10_atom1 19 = .ok (.invokevirtual 268, 3) := by decide +kernel
theorem dX10_atom1_22 : decode cX10_atom1 22 = .ok (.ineg, 1) := by decide +kernel
theorem dX10_atom1_23 : decode cX10_atom1 23 = .ok (.istore_n 1, 1) := by decide +kernel
theorem dX10_atom1_24 : decode cX10_atom1 24 = .ok (.aload_n 0, 1) := by decide +kernel
theorem dX10_atom1_25 : decode cX10_atom1 25 = .ok (.dup, 1) := by decide +kernel
theorem dX10_atom1_26 : decode cX10_atom1 26 = .ok (.getfield 170, 3) := by decide +kernel
theorem dX10_atom1_29 : decode cX10_atom1 29 = .ok (.iconst 1, 1) := by decide +kernel
theorem dX10_atom1_30 : decode cX10_atom1 30 = .ok (.isub, 1) := by decide +kernel
theorem dX10_atom1_31 : decode cX10_atom1 31 = .ok (.putfield 170, 3) := by decide +kernel
theorem dX10_atom1_34 : decode cX10_atom1 34 = .ok (.goto 127, 3) := by decide +kernel
theorem dX10_atom1_37 : decode cX10_atom1 37 = .ok (.aload_n 0, 1) := by decide +kernel
theorem dX10_atom1_38 : decode cX10_atom1 38 = .ok (.bipush 40, 2) := by decide +kernel
theorem dX10_atom1_40 : decode cX10_atom1 40 = .ok (.invokevirtual 201, 3) := by decide +kernel
theorem dX10_atom1_43 : decode cX10_atom1 43 = .ok (.ifCond .eq 52, 3) := by decide +kernel
theorem dX10_atom1_46 : decode cX10_atom1 46 = .ok (.aload_n 0, 1) := by decide +kernel
theorem dX10_atom1_47 : decode cX10_atom1 47 = .ok (.invokevirtual 204, 3) := by decide +kernel
theorem dX10_atom1_50 : decode cX10_atom1 50 = .ok (.ifCond .eq 111, 3) := by decide +kernel
theorem dX10_atom1_53 : decode cX10_atom1 53 = .ok (.aload_n 0, 1) := by decide +kernel
theorem dX10_atom1_54 : decode cX10_atom1 54 = .ok (.invokevirtual 283, 3) := by decide +kernel
theorem dX10_atom1_57 : decode cX10_atom1 57 = .ok (.istore_n 1, 1) := by decide +kernel
theorem dX10_atom1_58 : decode cX10_atom1 58 = .ok (.aload_n 0, 1) := by decide +kernel
theorem dX10_atom1_59 : decode cX10_atom1 59 = .ok (.bipush 41, 2) := by decide +kernel
theorem dX10_atom1_61 : decode cX10_atom1 61 = .ok (.invokevirtual 201, 3) := by decide +kernel
theorem dX10_atom1_64 : decode cX10_atom1 64 = .ok (.ifCond .ne 7, 3) := by decide +kernel
theorem dX10_atom1_67 : decode cX10_atom1 67 = .ok (.aload_n 0, 1) := by decide +kernel
theorem dX10_atom1_68 : decode cX10_atom1 68 = .ok (.invokevirtual 173, 3) := by decide +kernel
theorem dX10_atom1_71 : decode cX10_atom1 71 = .ok (.aload_n 0, 1) := by decide +kernel
theorem dX10_atom1_72 : decode cX10_atom1 72 = .ok (.dup, 1) := by decide +kernel
theorem dX10_atom1_73 : decode cX10_atom1 73 = .ok (.getfield 170, 3) := by decide +kernel
theorem dX10_atom1_76 : decode cX10_atom1 76 = .ok (.iconst 1, 1) := by decide +kernel
theorem dX10_atom1_77 : decode cX10_atom1 77 = .ok (.isub, 1) := by decide +kernel
theorem dX10_atom1_78 : decode cX10_atom1 78 = .ok (.putfield 170, 3) := by decide +kernel
theorem dX10_atom1_81 : decode cX10_atom1 81 = .ok (.aload_n 0, 1) := by decide +kernel
theorem dX10_atom1_82 : decode cX10_atom1 82 = .ok (.getfield 160, 3) := by decide +kernel
theorem dX10_atom1_85 : decode cX10_atom1 85 = .ok (.ifCond .ne 76, 3) := by decide +kernel
theorem dX10_atom1_88 : decode cX10_atom1 88 = .ok (.aload_n 0, 1) := by decide +kernel
theorem dX10_atom1_89 : decode cX10_atom1 89 = .ok (.invokevirtual 176, 3) := by decide +kernel
theorem dX10_atom1_92 : decode cX10_atom1 92 = .ok (.goto 69, 3) := by decide +kernel
theorem dX10_atom1_95 : decode cX10_atom1 95 = .ok (.aload_n 0, 1) := by decide +kernel
theorem dX10_atom1_96 : decode cX10_atom1 96 = .ok (.getfield 160, 3) := by decide +kernel
theorem dX10_atom1_99 : decode cX10_atom1 99 = .ok (.ifCond .ne 24, 3) := by decide +kernel
theorem dX10_atom1_102 : decode cX10_atom1 102 = .ok (.aload_n 0, 1) := by decide +kernel
theorem dX10_atom1_103 : decode cX10_atom1 103 = .ok (.getfield 143, 3) := by decide +kernel
theorem dX10_atom1_106 : decode cX10_atom1 106 = .ok (.iconst 2, 1) := by decide +kernel
theorem dX10_atom1_107 : decode cX10_atom1 107 = .ok (.if_icmp .ne 16, 3) := by decide +kernel
theorem dX10_atom1_110 : decode cX10_atom1 110 = .ok (.aload_n 0, 1) := by decide +kernel
theorem dX10_atom1_111 : decode cX10_atom1 111 = .ok (.getfield 154, 3) := by decide +kernel
theorem dX10_atom1_114 : decode cX10_atom1 114 = .ok (.l2i, 1) := by decide +kernel
theorem dX10_atom1_115 : decode cX10_atom1 115 = .ok (.istore_n 1, 1) := by decide +kernel
theorem dX10_atom1_116 : decode cX10_atom1 116 = .ok (.aload_n 0, 1) := by decide +kernel
theorem dX10_atom1_117 : decode cX10_atom1 117 = .ok (.invokevirtual 176, 3) := by decide +kernel
theorem dX10_atom1_120 : decode cX10_atom1 120 = .ok (.goto 41, 3) := by decide +kernel
theorem dX10_atom1_123 : decode cX10_atom1 123 = .ok (.aload_n 0, 1) := by decide +kernel
theorem dX10_atom1_124 : decode cX10_atom1 124 = .ok (.getfield 160, 3) := by decide +kernel
theorem dX10_atom1_127 : decode cX10_atom1 127 = .ok (.ifCond .ne 30, 3) := by decide +kernel
theorem dX10_atom1_130 : decode cX10_atom1 130 = .ok (.aload_n 0, 1) := by decide +kernel
theorem dX10_atom1_131 : decode cX10_atom1 131 = .ok (.getfield 143, 3) := by decide +kernel
theorem dX10_atom1_134 : decode cX10_atom1 134 = .ok (.iconst 1, 1) := by decide +kernel
theorem dX10_atom1_135 : decode cX10_atom1 135 = .ok (.if_icmp .ne 22, 3) := by decide +kernel
theorem dX10_atom1_138 : decode cX10_atom1 138 = .ok (.aload_n 0, 1) := by decide +kernel
theorem dX10_atom1_139 : decode cX10_atom1 139 = .ok (.invokevirtual 208, 3) := by decide +kernel
theorem dX10_atom1_142 : decode cX10_atom1 142 = .ok (.istore_n 1, 1) := by decide +kernel
theorem dX10_atom1_143 : decode cX10_atom1 143 = .ok (.aload_n 0, 1) := by decide +kernel
theorem dX10_atom1_144 : decode cX10_atom1 144 = .ok (.getfield 160, 3) := by decide +kernel
theorem dX10_atom1_147 : decode cX10_atom1 147 = .ok (.ifCond .ne 14, 3) := by decide +kernel
theorem dX10_atom1_150 : decode cX10_atom1 150 = .ok (.aload_n 0, 1) := by decide +kernel
theorem dX10_atom1_151 : decode cX10_atom1 151 = .ok (.invokevirtual 176, 3) := by decide +kernel
theorem dX10_atom1_154 : decode cX10_atom1 154 = .ok (.goto 7, 3) := by decide +kernel
theorem dX10_atom1_157 : decode cX10_atom1 157 = .ok (.aload_n 0, 1) := by decide +kernel
theorem dX10_atom1_158 : decode cX10_atom1 158 = .ok (.invokevirtual 173, 3) := by decide +kernel
theorem dX10_atom1_161 : decode cX10_atom1 161 = .ok (.iload_n 1, 1) := by decide +kernel
theorem dX10_atom1_162 : decode cX10_atom1 162 = .ok (.ireturn, 1) := by decide +kernel
theorem dX10_term1_0 : decode cX10_term1 0 = .ok (.aload_n 0, 1) := by decide +kernel
theorem dX10_term1_1 : decode cX10_term1 1 = .ok (.invokevirtual 286, 3) := by decide +kernel
theorem dX10_term1_4 : decode cX10_term1 4 = .ok (.istore_n 1, 1) := by decide +kernel
theorem dX10_term1_5 : decode cX10_term1 5 = .ok (.aload_n 0, 1) := by decide +kernel
theorem dX10_term1_6 : decode cX10_term1 6 = .ok (.bipush 42, 2) := by decide +kernel
theorem dX10_term1_8 : decode cX10_term1 8 = .ok (.invokevirtual 201, 3) := by decide +kernel
theorem dX10_term1_11 : decode cX10_term1 11 = .ok (.ifCond .eq 17, 3) := by decide +kernel
theorem dX10_term1_14 : decode cX10_term1 14 = .ok (.aload_n 0, 1) := by decide +kernel
theorem dX10_term1_15 : decode cX10_term1 15 = .ok (.invokevirtual 176, 3) := by decide +kernel
theorem dX10_term1_18 : decode cX10_term1 18 = .ok (.iload_n 1, 1) := by decide +kernel
theorem dX10_term1_19 : decode cX10_term1 19 = .ok (.aload_n 0, 1) := by decide +kernel
theorem dX10_term1_20 : decode cX10_term1 20 = .ok (.invokevirtual 286, 3) := by decide +kernel
theorem dX10_term1_23 : decode cX10_term1 23 = .ok (.imul, 1) := by decide +kernel
theorem dX10_term1_24 : decode cX10_term1 24 = .ok (.istore_n 1, 1) := by decide +kernel
theorem dX10_term1_25 : decode cX10_term1 25 = .ok (.goto (-20), 3) := by decide +kernel
theorem dX10_term1_28 : decode cX10_term1 28 = .ok (.iload_n 1, 1) := by decide +kernel
theorem dX10_term1_29 : decode cX10_term1 29 = .ok (.ireturn, 1) := by decide +kernel
theorem dX10_added1_0 : decode cX10_added1 0 = .ok (.aload_n 0, 1) := by decide +kernel
theorem dX10_added1_1 : decode cX10_added1 1 = .ok (.invokevirtual 289, 3) := by decide +kernel
theorem dX10_added1_4 : decode cX10_added1 4 = .ok (.istore_n 1, 1) := by decide +kernel
theorem dX10_added1_5 : decode cX10_added1 5 = .ok (.aload_n 0, 1) := by decide +kernel
theorem dX10_added1_6 : decode cX10_added1 6 = .ok (.bipush 43, 2) := by decide +kernel
theorem dX10_added1_8 : decode cX10_added1 8 = .ok (.invokevirtual 201, 3) := by decide +kernel
theorem dX10_added1_11 : decode cX10_added1 11 = .ok (.ifCond .ne 12, 3) := by decide +kernel
theorem dX10_added1_14 : decode cX10_added1 14 = .ok (.aload_n 0, 1) := by decide +kernel
theorem dX10_added1_15 : decode cX10_added1 15 = .ok (.bipush 45, 2) := by decide +kernel
theorem dX10_added1_17 : decode cX10_added1 17 = .ok (.invokevirtual 201, 3) := by decide +kernel
theorem dX10_added1_20 : decode cX10_added1 20 = .ok (.ifCond .eq 46, 3) := by decide +kernel
theorem dX10_added1_23 : decode cX10_added1 23 = .ok (.aload_n 0, 1) := by decide +kernel
theorem dX10_added1_24 : decode cX10_added1 24 = .ok (.getfield 154, 3) := by decide +kernel
theorem dX10_added1_27 : decode cX10_added1 27 = .ok (.ldc2_w 218, 3) := by decide +kernel
theorem dX10_added1_30 : decode cX10_added1 30 = .ok (.lcmp, 1) := by decide +kernel
theorem dX10_added1_31 : decode cX10_added1 31 = .ok (.ifCond .ne 7, 3) := by decide +kernel
theorem dX10_added1_34 : decode cX10_added1 34 = .ok (.iconst 1, 1) := by decide +kernel
theorem dX10_added1_35 : decode cX10_added1 35 = .ok (.goto 4, 3) := by decide +kernel
theorem dX10_added1_38 : decode cX10_added1 38 = .ok (.iconst 0, 1) := by decide +kernel
theorem dX10_added1_39 : decode cX10_added1 39 = .ok (.istore_n 2, 1) := by decide +kernel
theorem dX10_added1_40 : decode cX10_added1 40 = .ok (.aload_n 0, 1) := by decide +kernel
theorem dX10_added1_41 : decode cX10_added1 41 = .ok (.invokevirtual 176, 3) := by decide +kernel
theorem dX10_added1_44 : decode cX10_added1 44 = .ok (.aload_n 0, 1) := by decide +kernel
theorem dX10_added1_45 : decode cX10_added1 45 = .ok (.invokevirtual 289, 3) := by decide +kernel
theorem dX10_added1_48 : decode cX10_added1 48 = .ok (.istore_n 3, 1) := by decide +kernel
theorem dX10_added1_49 : decode cX10_added1 49 = .ok (.iload_n 2, 1) := by decide +kernel
theorem dX10_added1_50 : decode cX10_added1 50 = .ok (.ifCond .eq 9, 3) := by decide +kernel
theorem dX10_added1_53 : decode cX10_added1 53 = .ok (.iload_n 1, 1) := by decide +kernel
theorem dX10_added1_54 : decode cX10_added1 54 = .ok (.iload_n 3, 1) := by decide +kernel
theorem dX10_added1_55 : decode cX10_added1 55 = .ok (.iadd, 1) := by decide +kernel
theorem dX10_added1_56 : decode cX10_added1 56 = .ok (.goto 6, 3) := by decide +kernel
theorem dX10_added1_59 : decode cX10_added1 59 = .ok (.iload_n 1, 1) := by decide +kernel
theorem dX10_added1_60 : decode cX10_added1 60 = .ok (.iload_n 3, 1) := by decide +kernel
theorem dX10_added1_61 : decode cX10_added1 61 = .ok (.isub, 1) := by decide +kernel
theorem dX10_added1_62 : decode cX10_added1 62 = .ok (.istore_n 1, 1) := by decide +kernel
theorem dX10_added1_63 : decode cX10_added1 63 = .ok (.goto (-58), 3) := by decide +kernel
theorem dX10_added1_66 : decode cX10_added1 66 = .ok (.iload_n 1, 1) := by decide +kernel
theorem dX10_added1_67 : decode cX10_added1 67 = .ok (.ireturn, 1) := by decide +kernel
theorem dX10_not1_0 : decode cX10_not1 0 = .ok (.aload_n 0, 1) := by decide +kernel
theorem dX10_not1_1 : decode cX10_not1 1 = .ok (.bipush 110, 2) := by decide +kernel
theorem dX10_not1_3 : decode cX10_not1 3 = .ok (.bipush 111, 2) := by decide +kernel
theorem dX10_not1_5 : decode cX10_not1 5 = .ok (.bipush 116, 2) := by decide +kernel
theorem dX10_not1_7 : decode cX10_not1 7 = .ok (.iconst 0, 1) := by decide +kernel
theorem dX10_not1_8 : decode cX10_not1 8 = .ok (.iconst 0, 1) := by decide +kernel
theorem dX10_not1_9 : decode cX10_not1 9 = .ok (.iconst 0, 1) := by decide +kernel
theorem dX10_not1_10 : decode cX10_not1 10 = .ok (.iconst 0, 1) := by decide +kernel
theorem dX10_not1_11 : decode cX10_not1 11 = .ok (.iconst 0, 1) := by decide +kernel
theorem dX10_not1_12 : decode cX10_not1 12 = .ok (.invokevirtual 179, 3) := by decide +kernel
theorem dX10_not1_15 : decode cX10_not1 15 = .ok (.ifCond .eq 37, 3) := by decide +kernel
theorem dX10_not1_18 : decode cX10_not1 18 = .ok (.aload_n 0, 1) := by decide +kernel
theorem dX10_not1_19 : decode cX10_not1 19 = .ok (.invokevirtual 204, 3) := by decide +kernel
theorem dX10_not1_22 : decode cX10_not1 22 = .ok (.ifCond .ne 5, 3) := by decide +kernel
theorem dX10_not1_25 : decode cX10_not1 25 = .ok (.iconst 0, 1) := by decide +kernel
theorem dX10_not1_26 : decode cX10_not1 26 = .ok (.ireturn, 1) := by decide +kernel
theorem dX10_not1_27 : decode cX10_not1 27 = .ok (.aload_n 0, 1) := by decide +kernel
theorem dX10_not1_28 : decode cX10_not1 28 = .ok (.invokevirtual 277, 3) := by decide +kernel
theorem dX10_not1_31 : decode cX10_not1 31 = .ok (.istore_n 1, 1) := by decide +kernel
theorem dX10_not1_32 : decode cX10_not1 32 = .ok (.aload_n 0, 1) := by decide +kernel
theorem dX10_not1_33 : decode cX10_not1 33 = .ok (.dup, 1) := by decide +kernel
theorem dX10_not1_34 : decode cX10_not1 34 = .ok (.getfield 170, 3) := by decide +kernel
theorem dX10_not1_37 : decode cX10_not1 37 = .ok (.iconst 1, 1) := by decide +kernel
theorem dX10_not1_38 : decode cX10_not1 38 = .ok (.isub, 1) := by decide +kernel
theorem dX10_not1_39 : decode cX10_not1 39 = .ok (.putfield 170, 3) := by decide +kernel
theorem dX10_not1_42 : decode cX10_not1 42 = .ok (.iload_n 1, 1) := by decide +kernel
theorem dX10_not1_43 : decode cX10_not1 43 = .ok (.ifCond .ne 7, 3) := by decide +kernel
theorem dX10_not1_46 : decode cX10_not1 46 = .ok (.iconst 1, 1) := by decide +kernel
theorem dX10_not1_47 : decode cX10_not1 47 = .ok (.goto 4, 3) := by decide +kernel
theorem dX10_not1_50 : decode cX10_not1 50 = .ok (.iconst 0, 1) := by decide +kernel
theorem dX10_not1_51 : decode cX10_not1 51 = .ok (.ireturn, 1) := by decide +kernel
theorem dX10_not1_52 : decode cX10_not1 52 = .ok (.aload_n 0, 1) := by decide +kernel
theorem dX10_not1_53 : decode cX10_not1 53 = .ok (.invokevirtual 292, 3) := by decide +kernel
theorem dX10_not1_56 : decode cX10_not1 56 = .ok (.istore_n 1, 1) := by decide +kernel
theorem dX10_not1_57 : decode cX10_not1 57 = .ok (.aload_n 0, 1) := by decide +kernel
theorem dX10_not1_58 : decode cX10_not1 58 = .ok (.bipush 60, 2) := by decide +kernel
theorem dX10_not1_60 : decode cX10_not1 60 = .ok (.invokevirtual 201, 3) := by decide +kernel
theorem dX10_not1_63 : decode cX10_not1 63 = .ok (.ifCond .ne 14, 3) := by decide +kernel
theorem dX10_not1_66 : decode cX10_not1 66 = .ok (.aload_n 0, 1) := by decide +kernel
theorem dX10_not1_67 : decode cX10_not1 67 = .ok (.bipush 61, 2) := by decide +kernel
theorem dX10_not1_69 : decode cX10_not1 69 = .ok (.invokevirtual 201, 3) := by decide +kernel
theorem dX10_not1_72 : decode cX10_not1 72 = .ok (.ifCond .ne 5, 3) := by decide +kernel
theorem dX10_not1_75 : decode cX10_not1 75 = .ok (.iload_n 1, 1) := by decide +kernel
theorem dX10_not1_76 : decode cX10_not1 76 = .ok (.ireturn, 1) := by decide +kernel
theorem dX10_not1_77 : decode cX10_not1 77 = .ok (.aload_n 0, 1) := by decide +kernel
theorem dX10_not1_78 : decode cX10_not1 78 = .ok (.getfield 154, 3) := by decide +kernel
theorem dX10_not1_81 : decode cX10_not1 81 = .ok (.ldc2_w 92, 3) := by decide +kernel
theorem dX10_not1_84 : decode cX10_not1 84 = .ok (.lcmp, 1) := by decide +kernel
theorem dX10_not1_85 : decode cX10_not1 85 = .ok (.ifCond .ne 7, 3) := by decide +kernel
theorem dX10_not1_88 : decode cX10_not1 88 = .ok (.iconst 1, 1) := by decide +kernel
theorem dX10_not1_89 : decode cX10_not1 89 = .ok (.goto 4, 3) := by decide +kernel
theorem dX10_not1_92 : decode cX10_not1 92 = .ok (.iconst 0, 1) := by decide +kernel
theorem dX10_not1_93 : decode cX10_not1 93 = .ok (.istore_n 2, 1) := by decide +kernel
theorem dX10_not1_94 : decode cX10_not1 94 = .ok (.aload_n 0, 1) := by decide +kernel
theorem dX10_not1_95 : decode cX10_not1 95 = .ok (.invokevirtual 176, 3) := by decide +kernel
theorem dX10_not1_98 : decode cX10_not1 98 = .ok (.aload_n 0, 1) := by decide +kernel
theorem dX10_not1_99 : decode cX10_not1 99 = .ok (.invokevirtual 292, 3) := by decide +kernel
theorem dX10_not1_102 : decode cX10_not1 102 = .ok (.istore_n 3, 1) := by decide +kernel
theorem dX10_not1_103 : decode cX10_not1 103 = .ok (.iload_n 2, 1) := by decide +kernel
theorem dX10_not1_104 : decode cX10_not1 104 = .ok (.ifCond .eq 11, 3) := by decide +kernel
theorem dX10_not1_107 : decode cX10_not1 107 = .ok (.iload_n 1, 1) := by decide +kernel
theorem dX10_not1_108 : decode cX10_not1 108 = .ok (.iload_n 3, 1) := by decide +kernel
theorem dX10_not1_109 : decode cX10_not1 109 = .ok (.if_icmp .ge 15, 3) := by decide +kernel
theorem dX10_not1_112 : decode cX10_not1 112 = .ok (.goto 8, 3) := by decide +kernel
theorem dX10_not1_115 : decode cX10_not1 115 = .ok (.iload_n 1, 1) := by decide +kernel
theorem dX10_not1_116 : decode cX10_not1 116 = .ok (.iload_n 3, 1) := by decide +kernel
theorem dX10_not1_117 : decode cX10_not1 117 = .ok (.if_icmp .ne 7, 3) := by decide +kernel
theorem dX10_not1_120 : decode cX10_not1 120 = .ok (.iconst 1, 1) := by decide +kernel
theorem dX10_not1_121 : decode cX10_not1 121 = .ok (.goto 4, 3) := by decide +kernel
theorem dX10_not1_124 : decode cX10_not1 124 = .ok (.iconst 0, 1) := by decide +kernel
theorem dX10_not1_125 : decode cX10_not1 125 = .ok (.ireturn, 1) := by decide +kernel
theorem dX10_both1_0 : decode cX10_both1 0 = .ok (.aload_n 0, 1) := by decide +kernel
theorem dX10_both1_1 : decode cX10_both1 1 = .ok (.invokevirtual 295, 3) := by decide +kernel
theorem dX10_both1_4 : decode cX10_both1 4 = .ok (.istore_n 1, 1) := by decide +kernel
theorem dX10_both1_5 : decode cX10_both1 5 = .ok (.aload_n 0, 1) := by decide +kernel
theorem dX10_both1_6 : decode cX10_both1 6 = .ok (.bipush 97, 2) := by decide +kernel
theorem dX10_both1_8 : decode cX10_both1 8 = .ok (.bipush 110, 2) := by decide +kernel
theorem dX10_both1_10 : decode cX10_both1 10 = .ok (.bipush 100, 2) := by decide +kernel
theorem dX10_both1_12 : decode cX10_both1 12 = .ok (.iconst 0, 1) := by decide +kernel
theorem dX10_both1_13 : decode cX10_both1 13 = .ok (.iconst 0, 1) := by decide +kernel
theorem dX10_both1_14 : decode cX10_both1 14 = .ok (.iconst 0, 1) := by decide +kernel
theorem dX10_both1_15 : decode cX10_both1 15 = .ok (.iconst 0, 1) := by decide +kernel
theorem dX10_both1_16 : decode cX10_both1 16 = .ok (.iconst 0, 1) := by decide +kernel
theorem dX10_both1_17 : decode cX10_both1 17 = .ok (.invokevirtual 179, 3) := by decide +kernel
theorem dX10_both1_20 : decode cX10_both1 20 = .ok (.ifCond .eq 29, 3) := by decide +kernel
theorem dX10_both1_23 : decode cX10_both1 23 = .ok (.aload_n 0, 1) := by decide +kernel
theorem dX10_both1_24 : decode cX10_both1 24 = .ok (.invokevirtual 176, 3) := by decide +kernel
theorem dX10_both1_27 : decode cX10_both1 27 = .ok (.aload_n 0, 1) := by decide +kernel
theorem dX10_both1_28 : decode cX10_both1 28 = .ok (.invokevirtual 295, 3) := by decide +kernel
theorem dX10_both1_31 : decode cX10_both1 31 = .ok (.istore_n 2, 1) := by decide +kernel
theorem dX10_both1_32 : decode cX10_both1 32 = .ok (.iload_n 1, 1) := by decide +kernel
theorem dX10_both1_33 : decode cX10_both1 33 = .ok (.ifCond .eq 11, 3) := by decide +kernel
theorem dX10_both1_36 : decode cX10_both1 36 = .ok (.iload_n 2, 1) := by decide +kernel
theorem dX10_both1_37 : decode cX10_both1 37 = .ok (.ifCond .eq 7, 3) := by decide +kernel
theorem dX10_both1_40 : decode cX10_both1 40 = .ok (.iconst 1, 1) := by decide +kernel
theorem dX10_both1_41 : decode cX10_both1 41 = .ok (.goto 4, 3) := by decide +kernel
theorem dX10_both1_44 : decode cX10_both1 44 = .ok (.iconst 0, 1) := by decide +kernel
theorem dX10_both1_45 : decode cX10_both1 45 = .ok (.istore_n 1, 1) := by decide +kernel
theorem dX10_both1_46 : decode cX10_both1 46 = .ok (.goto (-41), 3) := by decide +kernel
theorem dX10_both1_49 : decode cX10_both1 49 = .ok (.iload_n 1, 1) := by decide +kernel
theorem dX10_both1_50 : decode cX10_both1 50 = .ok (.ireturn, 1) := by decide +kernel
theorem dX10_either1_0 : decode cX10_either1 0 = .ok (.aload_n 0, 1) := by decide +kernel
theorem dX10_either1_1 : decode cX10_either1 1 = .ok (.invokevirtual 298, 3) := by decide +kernel
theorem dX10_either1_4 : decode cX10_either1 4 = .ok (.istore_n 1, 1) := by decide +kernel
theorem dX10_either1_5 : decode cX10_either1 5 = .ok (.aload_n 0, 1) := by decide +kernel
theorem dX10_either1_6 : decode cX10_either1 6 = .ok (.bipush 111, 2) := by decide +kernel
theorem dX10_either1_8 : decode cX10_either1 8 = .ok (.bipush 114, 2) := by decide +kernel
theorem dX10_either1_10 : decode cX10_either1 10 = .ok (.iconst 0, 1) := by decide +kernel
theorem dX10_either1_11 : decode cX10_either1 11 = .ok (.iconst 0, 1) := by decide +kernel
theorem dX10_either1_12 : decode cX10_either1 12 = .ok (.iconst 0, 1) := by decide +kernel
theorem dX10_either1_13 : decode cX10_either1 13 = .ok (.iconst 0, 1) := by decide +kernel
theorem dX10_either1_14 : decode cX10_either1 14 = .ok (.iconst 0, 1) := by decide +kernel
theorem dX10_either1_15 : decode cX10_either1 15 = .ok (.iconst 0, 1) := by decide +kernel
theorem dX10_either1_16 : decode cX10_either1 16 = .ok (.invokevirtual 179, 3) := by decide +kernel
theorem dX10_either1_19 : decode cX10_either1 19 = .ok (.ifCond .eq 29, 3) := by decide +kernel
theorem dX10_either1_22 : decode cX10_either1 22 = .ok (.aload_n 0, 1) := by decide +kernel
theorem dX10_either1_23 : decode cX10_either1 23 = .ok (.invokevirtual 176, 3) := by decide +kernel
theorem dX10_either1_26 : decode cX10_either1 26 = .ok (.aload_n 0, 1) := by decide +kernel
theorem dX10_either1_27 : decode cX10_either1 27 = .ok (.invokevirtual 298, 3) := by decide +kernel
theorem dX10_either1_30 : decode cX10_either1 30 = .ok (.istore_n 2, 1) := by decide +kernel
theorem dX10_either1_31 : decode cX10_either1 31 = .ok (.iload_n 1, 1) := by decide +kernel
theorem dX10_either1_32 : decode cX10_either1 32 = .ok (.ifCond .ne 7, 3) := by decide +kernel
theorem dX10_either1_35 : decode cX10_either1 35 = .ok (.iload_n 2, 1) := by decide +kernel
theorem dX10_either1_36 : decode cX10_either1 36 = .ok (.ifCond .eq 7, 3) := by decide +kernel
theorem dX10_either1_39 : decode cX10_either1 39 = .ok (.iconst 1, 1) := by decide +kernel
theorem dX10_either1_40 : decode cX10_either1 40 = .ok (.goto 4, 3) := by decide +kernel
theorem dX10_either1_43 : decode cX10_either1 43 = .ok (.iconst 0, 1) := by decide +kernel
theorem dX10_either1_44 : decode cX10_either1 44 = .ok (.istore_n 1, 1) := by decide +kernel
theorem dX10_either1_45 : decode cX10_either1 45 = .ok (.goto (-40), 3) := by decide +kernel
theorem dX10_either1_48 : decode cX10_either1 48 = .ok (.iload_n 1, 1) := by decide +kernel
theorem dX10_either1_49 : decode cX10_either1 49 = .ok (.ireturn, 1) := by decide +kernel
theorem dX10_atom0_0 : decode cX10_atom0 0 = .ok (.iconst 0, 1) := by decide +kernel
theorem dX10_atom0_1 : decode cX10_atom0 1 = .ok (.istore_n 1, 1) := by decide +kernel
theorem dX10_atom0_2 : decode cX10_atom0 2 = .ok (.aload_n 0, 1) := by decide +kernel
theorem dX10_atom0_3 : decode cX10_atom0 3 = .ok (.bipush 45, 2) := by decide +kernel
theorem dX10_atom0_5 : decode cX10_atom0 5 = .ok (.invokevirtual 201, 3) := by decide +kernel
theorem dX10_atom0_8 : decode cX10_atom0 8 = .ok (.ifCond .eq 29, 3) := by decide +kernel
theorem dX10_atom0_11 : decode cX10_atom0 11 = .ok (.aload_n 0, 1) := by decide +kernel
theorem dX10_atom0_12 : decode cX10_atom0 12 = .ok (.invokevirtual 204, 3) := by decide +kernel
theorem dX10_atom0_15 : decode cX10_atom0 15 = .ok (.ifCond .eq 146, 3) := by decide +kernel
theorem dX10_atom0_18 : decode cX10_atom0 18 = .ok (.aload_n 0, 1) := by decide +kernel
theorem dX10_atom0_19 : decode cX10_atom0 19 = .ok (.invokevirtual 286, 3) := by decide +kernel
theorem dX10_atom0_22 : decode cX10_atom0 22 = .ok (.ineg, 1) := by decide +kernel
theorem dX10_atom0_23 : decode cX10_atom0 23 = .ok (.istore_n 1, 1) := by decide +kernel
theorem dX10_atom0_24 : decode cX10_atom0 24 = .ok (.aload_n 0, 1) := by decide +kernel
theorem dX10_atom0_25 : decode cX10_atom0 25 = .ok (.dup, 1) := by decide +kernel
theorem dX10_atom0_26 : decode cX10_atom0 26 = .ok (.getfield 170, 3) := by decide +kernel
theorem dX10_atom0_29 : decode cX10_atom0 29 = .ok (.iconst 1, 1) := by decide +kernel
theorem dX10_atom0_30 : decode cX10_atom0 30 = .ok (.isub, 1) := by decide +kernel
theorem dX10_atom0_31 : decode cX10_atom0 31 = .ok (.putfield 170, 3) := by decide +kernel
theorem dX10_atom0_34 : decode cX10_atom0 34 = .ok (.goto 127, 3) := by decide +kernel
theorem dX10_atom0_37 : decode cX10_atom0 37 = .ok (.aload_n 0, 1) := by decide +kernel
theorem dX10_atom0_38 : decode cX10_atom0 38 = .ok (.bipush 40, 2) := by decide +kernel
theorem dX10_atom0_40 : decode cX10_atom0 40 = .ok (.invokevirtual 201, 3) := by decide +kernel
theorem dX10_atom0_43 : decode cX10_atom0 43 = .ok (.ifCond .eq 52, 3) := by decide +kernel
theorem dX10_atom0_46 : decode cX10_atom0 46 = .ok (.aload_n 0, 1) := by decide +kernel
theorem dX10_atom0_47 : decode cX10_atom0 47 = .ok (.invokevirtual 204, 3) := by decide +kernel
theorem dX10_atom0_50 : decode cX10_atom0 50 = .ok (.ifCond .eq 111, 3) := by decide +kernel
theorem dX10_atom0_53 : decode cX10_atom0 53 = .ok (.aload_n 0, 1) := by decide +kernel
theorem dX10_atom0_54 : decode cX10_atom0 54 = .ok (.invokevirtual 301, 3) := by decide +kernel
theorem dX10_atom0_57 : decode cX10_atom0 57 = .ok (.istore_n 1, 1) := by decide +kernel
theorem dX10_atom0_58 : decode cX10_atom0 58 = .ok (.aload_n 0, 1) := by decide +kernel
theorem dX10_atom0_59 : decode cX10_atom0 59 = .ok (.bipush 41, 2) := by decide +kernel
theorem dX10_atom0_61 : decode cX10_atom0 61 = .ok (.invokevirtual 201, 3) := by decide +kernel
theorem dX10_atom0_64 : decode cX10_atom0 64 = .ok (.ifCond .ne 7, 3) := by decide +kernel
theorem dX10_atom0_67 : decode cX10_atom0 67 = .ok (.aload_n 0, 1) := by decide +kernel
theorem dX10_atom0_68 : decode cX10_atom0 68 = .ok (.invokevirtual 173, 3) := by decide +kernel
theorem dX10_atom0_71 : decode cX10_atom0 71 = .ok (.aload_n 0, 1) := by decide +kernel
theorem dX10_atom0_72 : decode cX10_atom0 72 = .ok (.dup, 1) := by decide +kernel
theorem dX10_atom0_73 : decode cX10_atom0 73 = .ok (.getfield 170, 3) := by decide +kernel
theorem dX10_atom0_76 : decode cX10_atom0 76 = .ok (.iconst 1, 1) := by decide +kernel
theorem dX10_atom0_77 : decode cX10_atom0 77 = .ok (.isub, 1) := by decide +kernel
theorem dX10_atom0_78 : decode cX10_atom0 78 = .ok (.putfield 170, 3) := by decide +kernel
theorem dX10_atom0_81 : decode cX10_atom0 81 = .ok (.aload_n 0, 1) := by decide +kernel
theorem dX10_atom0_82 : decode cX10_atom0 82 = .ok (.getfield 160, 3) := by decide +kernel
theorem dX10_atom0_85 : decode cX10_atom0 85 = .ok (.ifCond .ne 76, 3) := by decide +kernel
theorem dX10_atom0_88 : decode cX10_atom0 88 = .ok (.aload_n 0, 1) := by decide +kernel
theorem dX10_atom0_89 : decode cX10_atom0 89 = .ok (.invokevirtual 176, 3) := by decide +kernel
theorem dX10_atom0_92 : decode cX10_atom0 92 = .ok (.goto 69, 3) := by decide +kernel
theorem dX10_atom0_95 : decode cX10_atom0 95 = .ok (.aload_n 0, 1) := by decide +kernel
theorem dX10_atom0_96 : decode cX10_atom0 96 = .ok (.getfield 160, 3) := by decide +kernel
theorem dX10_atom0_99 : decode cX10_atom0 99 = .ok (.ifCond .ne 24, 3) := by decide +kernel
theorem dX10_atom0_102 : decode cX10_atom0 102 = .ok (.aload_n 0, 1) := by decide +kernel
theorem dX10_atom0_103 : decode cX10_atom0 103 = .ok (.getfield 143, 3) := by decide +kernel
theorem dX10_atom0_106 : decode cX10_atom0 106 = .ok (.iconst 2, 1) := by decide +kernel
theorem dX10_atom0_107 : decode cX10_atom0 107 = .ok (.if_icmp .ne 16, 3) := by decide +kernel
theorem dX10_atom0_110 : decode cX10_atom0 110 = .ok (.aload_n 0, 1) := by decide +kernel
theorem dX10_atom0_111 : decode cX10_atom0 111 = .ok (.getfield 154, 3) := by decide +kernel
theorem dX10_atom0_114 : decode cX10_atom0 114 = .ok (.l2i, 1) := by decide +kernel
theorem dX10_atom0_115 : decode cX10_atom0 115 = .ok (.istore_n 1, 1) := by decide +kernel
theorem dX10_atom0_116 : decode cX10_atom0 116 = .ok (.aload_n 0, 1) := by decide +kernel
theorem dX10_atom0_117 : decode cX10_atom0 117 = .ok (.invokevirtual 176, 3) := by decide +kernel
theorem dX10_atom0_120 : decode cX10_atom0 120 = .ok (.goto 41, 3) := by decide +kernel
theorem dX10_atom0_123 : decode cX10_atom0 123 = .ok (.aload_n 0, 1) := by decide +kernel
theorem dX10_atom0_124 : decode cX10_atom0 124 = .ok (.getfield 160, 3) := by decide +kernel
theorem dX10_atom0_127 : decode cX10_atom0 127 = .ok (.ifCond .ne 30, 3) := by decide +kernel
theorem dX10_atom0_130 : decode cX10_atom0 130 = .ok (.aload_n 0, 1) := by decide +kernel
theorem dX10_atom0_131 : decode cX10_atom0 131 = .ok (.getfield 143, 3) := by decide +kernel
theorem dX10_atom0_134 : decode cX10_atom0 134 = .ok (.iconst 1, 1) := by decide +kernel
theorem dX10_atom0_135 : decode cX10_atom0 135 = .ok (.if_icmp .ne 22, 3) := by decide +kernel
theorem dX10_atom0_138 : decode cX10_atom0 138 = .ok (.aload_n 0, 1) := by decide +kernel
theorem dX10_atom0_139 : decode cX10_atom0 139 = .ok (.invokevirtual 208, 3) := by decide +kernel
theorem dX10_atom0_142 : decode cX10_atom0 142 = .ok (.istore_n 1, 1) := by decide +kernel
theorem dX10_atom0_143 : decode cX10_atom0 143 = .ok (.aload_n 0, 1) := by decide +kernel
theorem dX10_atom0_144 : decode cX10_atom0 144 = .ok (.getfield 160, 3) := by decide +kernel
theorem dX10_atom0_147 : decode cX10_atom0 147 = .ok (.ifCond .ne 14, 3) := by decide +kernel
theorem dX10_atom0_150 : decode cX10_atom0 150 = .ok (.aload_n 0, 1) := by decide +kernel
theorem dX10_atom0_151 : decode cX10_atom0 151 = .ok (.invokevirtual 176, 3) := by decide +kernel
theorem dX10_atom0_154 : decode cX10_atom0 154 = .ok (.goto 7, 3) := by decide +kernel
theorem dX10_atom0_157 : decode cX10_atom0 157 = .ok (.aload_n 0, 1) := by decide +kernel
theorem dX10_atom0_158 : decode cX10_atom0 158 = .ok (.invokevirtual 173, 3) := by decide +kernel
theorem dX10_atom0_161 : decode cX10_atom0 161 = .ok (.iload_n 1, 1) := by decide +kernel
theorem dX10_atom0_162 : decode cX10_atom0 162 = .ok (.ireturn, 1) := by decide +kernel
theorem dX10_term0_0 : decode cX10_term0 0 = .ok (.aload_n 0, 1) := by decide +kernel
theorem dX10_term0_1 : decode cX10_term0 1 = .ok (.invokevirtual 304, 3) := by decide +kernel
theorem dX10_term0_4 : decode cX10_term0 4 = .ok (.istore_n 1, 1) := by decide +kernel
theorem dX10_term0_5 : decode cX10_term0 5 = .ok (.aload_n 0, 1) := by decide +kernel
theorem dX10_term0_6 : decode cX10_term0 6 = .ok (.bipush 42, 2) := by decide +kernel
theorem dX10_term0_8 : decode cX10_term0 8 = .ok (.invokevirtual 201, 3) := by decide +kernel
theorem dX10_term0_11 : decode cX10_term0 11 = .ok (.ifCond .eq 17, 3) := by decide +kernel
theorem dX10_term0_14 : decode cX10_term0 14 = .ok (.aload_n 0, 1) := by decide +kernel
theorem dX10_term0_15 : decode cX10_term0 15 = .ok (.invokevirtual 176, 3) := by decide +kernel
theorem dX10_term0_18 : decode cX10_term0 18 = .ok (.iload_n 1, 1) := by decide +kernel
theorem dX10_term0_19 : decode cX10_term0 19 = .ok (.aload_n 0, 1) := by decide +kernel
theorem dX10_term0_20 : decode cX10_term0 20 = .ok (.invokevirtual 304, 3) := by decide +kernel
theorem dX10_term0_23 : decode cX10_term0 23 = .ok (.imul, 1) := by decide +kernel
theorem dX10_term0_24 : decode cX10_term0 24 = .ok (.istore_n 1, 1) := by decide +kernel
theorem dX10_term0_25 : decode cX10_term0 25 = .ok (.goto (-20), 3) := by decide +kernel
theorem dX10_term0_28 : decode cX10_term0 28 = .ok (.iload_n 1, 1) := by decide +kernel
theorem dX10_term0_29 : decode cX10_term0 29 = .ok (.ireturn, 1) := by decide +kernel
theorem dX10_added0_0 : decode cX10_added0 0 = .ok (.aload_n 0, 1) := by decide +kernel
theorem dX10_added0_1 : decode cX10_added0 1 = .ok (.invokevirtual 307, 3) := by decide +kernel
theorem dX10_added0_4 : decode cX10_added0 4 = .ok (.istore_n 1, 1) := by decide +kernel
theorem dX10_added0_5 : decode cX10_added0 5 = .ok (.aload_n 0, 1) := by decide +kernel
theorem dX10_added0_6 : decode cX10_added0 6 = .ok (.bipush 43, 2) := by decide +kernel
theorem dX10_added0_8 : decode cX10_added0 8 = .ok (.invokevirtual 201, 3) := by decide +kernel
theorem dX10_added0_11 : decode cX10_added0 11 = .ok (.ifCond .ne 12, 3) := by decide +kernel
theorem dX10_added0_14 : decode cX10_added0 14 = .ok (.aload_n 0, 1) := by decide +kernel
theorem dX10_added0_15 : decode cX10_added0 15 = .ok (.bipush 45, 2) := by decide +kernel
theorem dX10_added0_17 : decode cX10_added0 17 = .ok (.invokevirtual 201, 3) := by decide +kernel
theorem dX10_added0_20 : decode cX10_added0 20 = .ok (.ifCond .eq 46, 3) := by decide +kernel
theorem dX10_added0_23 : decode cX10_added0 23 = .ok (.aload_n 0, 1) := by decide +kernel
theorem dX10_added0_24 : decode cX10_added0 24 = .ok (.getfield 154, 3) := by decide +kernel
theorem dX10_added0_27 : decode cX10_added0 27 = .ok (.ldc2_w 218, 3) := by decide +kernel
theorem dX10_added0_30 : decode cX10_added0 30 = .ok (.lcmp, 1) := by decide +kernel
theorem dX10_added0_31 : decode cX10_added0 31 = .ok (.ifCond .ne 7, 3) := by decide +kernel
theorem dX10_added0_34 : decode cX10_added0 34 = .ok (.iconst 1, 1) := by decide +kernel
theorem dX10_added0_35 : decode cX10_added0 35 = .ok (.goto 4, 3) := by decide +kernel
theorem dX10_added0_38 : decode cX10_added0 38 = .ok (.iconst 0, 1) := by decide +kernel
theorem dX10_added0_39 : decode cX10_added0 39 = .ok (.istore_n 2, 1) := by decide +kernel
theorem dX10_added0_40 : decode cX10_added0 40 = .ok (.aload_n 0, 1) := by decide +kernel
theorem dX10_added0_41 : decode cX10_added0 41 = .ok (.invokevirtual 176, 3) := by decide +kernel
theorem dX10_added0_44 : decode cX10_added0 44 = .ok (.aload_n 0, 1) := by decide +kernel
theorem dX10_added0_45 : decode cX10_added0 45 = .ok (.invokevirtual 307, 3) := by decide +kernel
theorem dX10_added0_48 : decode cX10_added0 48 = .ok (.istore_n 3, 1) := by decide +kernel
theorem dX10_added0_49 : decode cX10_added0 49 = .ok (.iload_n 2, 1) := by decide +kernel
theorem dX10_added0_50 : decode cX10_added0 50 = .ok (.ifCond .eq 9, 3) := by decide +kernel
theorem dX10_added0_53 : decode cX10_added0 53 = .ok (.iload_n 1, 1) := by decide +kernel
theorem dX10_added0_54 : decode cX10_added0 54 = .ok (.iload_n 3, 1) := by decide +kernel
theorem dX10_added0_55 : decode cX10_added0 55 = .ok (.iadd, 1) := by decide +kernel
theorem dX10_added0_56 : decode cX10_added0 56 = .ok (.goto 6, 3) := by decide +kernel
theorem dX10_added0_59 : decode cX10_added0 59 = .ok (.iload_n 1, 1) := by decide +kernel
theorem dX10_added0_60 : decode cX10_added0 60 = .ok (.iload_n 3, 1) := by decide +kernel
theorem dX10_added0_61 : decode cX10_added0 61 = .ok (.isub, 1) := by decide +kernel
theorem dX10_added0_62 : decode cX10_added0 62 = .ok (.istore_n 1, 1) := by decide +kernel
theorem dX10_added0_63 : decode cX10_added0 63 = .ok (.goto (-58), 3) := by decide +kernel
theorem dX10_added0_66 : decode cX10_added0 66 = .ok (.iload_n 1, 1) := by decide +kernel
theorem dX10_added0_67 : decode cX10_added0 67 = .ok (.ireturn, 1) := by decide +kernel
theorem dX10_not0_0 : decode cX10_not0 0 = .ok (.aload_n 0, 1) := by decide +kernel
theorem dX10_not0_1 : decode cX10_not0 1 = .ok (.bipush 110, 2) := by decide +kernel
theorem dX10_not0_3 : decode cX10_not0 3 = .ok (.bipush 111, 2) := by decide +kernel
theorem dX10_not0_5 : decode cX10_not0 5 = .ok (.bipush 116, 2) := by decide +kernel
theorem dX10_not0_7 : decode cX10_not0 7 = .ok (.iconst 0, 1) := by decide +kernel
theorem dX10_not0_8 : decode cX10_not0 8 = .ok (.iconst 0, 1) := by decide +kernel
theorem dX10_not0_9 : decode cX10_not0 9 = .ok (.iconst 0, 1) := by decide +kernel
theorem dX10_not0_10 : decode cX10_not0 10 = .ok (.iconst 0, 1) := by decide +kernel
theorem dX10_not0_11 : decode cX10_not0 11 = .ok (.iconst 0, 1) := by decide +kernel
theorem dX10_not0_12 : decode cX10_not0 12 = .ok (.invokevirtual 179, 3) := by decide +kernel
theorem dX10_not0_15 : decode cX10_not0 15 = .ok (.ifCond .eq 37, 3) := by decide +kernel
theorem dX10_not0_18 : decode cX10_not0 18 = .ok (.aload_n 0, 1) := by decide +kernel
theorem dX10_not0_19 : decode cX10_not0 19 = .ok (.invokevirtual 204, 3) := by decide +kernel
theorem dX10_not0_22 : decode cX10_not0 22 = .ok (.ifCond .ne 5, 3) := by decide +kernel
theorem dX10_not0_25 : decode cX10_not0 25 = .ok (.iconst 0, 1) := by decide +kernel
theorem dX10_not0_26 : decode cX10_not0 26 = .ok (.ireturn, 1) := by decide +kernel
theorem dX10_not0_27 : decode cX10_not0 27 = .ok (.aload_n 0, 1) := by decide +kernel
theorem dX10_not0_28 : decode cX10_not0 28 = .ok (.invokevirtual 295, 3) := by decide +kernel
theorem dX10_not0_31 : decode cX10_not0 31 = .ok (.istore_n 1, 1) := by decide +kernel
theorem dX10_not0_32 : decode cX10_not0 32 = .ok (.aload_n 0, 1) := by decide +kernel
theorem dX10_not0_33 : decode cX10_not0 33 = .ok (.dup, 1) := by decide +kernel
theorem dX10_not0_34 : decode cX10_not0 34 = .ok (.getfield 170, 3) := by decide +kernel
theorem dX10_not0_37 : decode cX10_not0 37 = .ok (.iconst 1, 1) := by decide +kernel
theorem dX10_not0_38 : decode cX10_not0 38 = .ok (.isub, 1) := by decide +kernel
theorem dX10_not0_39 : decode cX10_not0 39 = .ok (.putfield 170, 3) := by decide +kernel
theorem dX10_not0_42 : decode cX10_not0 42 = .ok (.iload_n 1, 1) := by decide +kernel
theorem dX10_not0_43 : decode cX10_not0 43 = .ok (.ifCond .ne 7, 3) := by decide +kernel
theorem dX10_not0_46 : decode cX10_not0 46 = .ok (.iconst 1, 1) := by decide +kernel
theorem dX10_not0_47 : decode cX10_not0 47 = .ok (.goto 4, 3) := by decide +kernel
theorem dX10_not0_50 : decode cX10_not0 50 = .ok (.iconst 0, 1) := by decide +kernel
theorem dX10_not0_51 : decode cX10_not0 51 = .ok (.ireturn, 1) := by decide +kernel
theorem dX10_not0_52 : decode cX10_not0 52 = .ok (.aload_n 0, 1) := by decide +kernel
theorem dX10_not0_53 : decode cX10_not0 53 = .ok (.invokevirtual 310, 3) := by decide +kernel
theorem dX10_not0_56 : decode cX10_not0 56 = .ok (.istore_n 1, 1) := by decide +kernel
theorem dX10_not0_57 : decode cX10_not0 57 = .ok (.aload_n 0, 1) := by decide +kernel
theorem dX10_not0_58 : decode cX10_not0 58 = .ok (.bipush 60, 2) := by decide +kernel
theorem dX10_not0_60 : decode cX10_not0 60 = .ok (.invokevirtual 201, 3) := by decide +kernel
theorem dX10_not0_63 : decode cX10_not0 63 = .ok (.ifCond .ne 14, 3) := by decide +kernel
theorem dX10_not0_66 : decode cX10_not0 66 = .ok (.aload_n 0, 1) := by decide +kernel
theorem dX10_not0_67 : decode cX10_not0 67 = .ok (.bipush 61, 2) := by decide +kernel
theorem dX10_not0_69 : decode cX10_not0 69 = .ok (.invokevirtual 201, 3) := by decide +kernel
theorem dX10_not0_72 : decode cX10_not0 72 = .ok (.ifCond .ne 5, 3) := by decide +kernel
theorem dX10_not0_75 : decode cX10_not0 75 = .ok (.iload_n 1, 1) := by decide +kernel
theorem dX10_not0_76 : decode cX10_not0 76 = .ok (.ireturn, 1) := by decide +kernel
theorem dX10_not0_77 : decode cX10_not0 77 = .ok (.aload_n 0, 1) := by decide +kernel
theorem dX10_not0_78 : decode cX10_not0 78 = .ok (.getfield 154, 3) := by decide +kernel
theorem dX10_not0_81 : decode cX10_not0 81 = .ok (.ldc2_w 92, 3) := by decide +kernel
theorem dX10_not0_84 : decode cX10_not0 84 = .ok (.lcmp, 1) := by decide +kernel
theorem dX10_not0_85 : decode cX10_not0 85 = .ok (.ifCond .ne 7, 3) := by decide +kernel
theorem dX10_not0_88 : decode cX10_not0 88 = .ok (.iconst 1, 1) := by decide +kernel
theorem dX10_not0_89 : decode cX10_not0 89 = .ok (.goto 4, 3) := by decide +kernel
theorem dX10_not0_92 : decode cX10_not0 92 = .ok (.iconst 0, 1) := by decide +kernel
theorem dX10_not0_93 : decode cX10_not0 93 = .ok (.istore_n 2, 1) := by decide +kernel
theorem dX10_not0_94 : decode cX10_not0 94 = .ok (.aload_n 0, 1) := by decide +kernel
theorem dX10_not0_95 : decode cX10_not0 95 = .ok (.invokevirtual 176, 3) := by decide +kernel
theorem dX10_not0_98 : decode cX10_not0 98 = .ok (.aload_n 0, 1) := by decide +kernel
theorem dX10_not0_99 : decode cX10_not0 99 = .ok (.invokevirtual 310, 3) := by decide +kernel
theorem dX10_not0_102 : decode cX10_not0 102 = .ok (.istore_n 3, 1) := by decide +kernel
theorem dX10_not0_103 : decode cX10_not0 103 = .ok (.iload_n 2, 1) := by decide +kernel
theorem dX10_not0_104 : decode cX10_not0 104 = .ok (.ifCond .eq 11, 3) := by decide +kernel
theorem dX10_not0_107 : decode cX10_not0 107 = .ok (.iload_n 1, 1) := by decide +kernel
theorem dX10_not0_108 : decode cX10_not0 108 = .ok (.iload_n 3, 1) := by decide +kernel
theorem dX10_not0_109 : decode cX10_not0 109 = .ok (.if_icmp .ge 15, 3) := by decide +kernel
theorem dX10_not0_112 : decode cX10_not0 112 = .ok (.goto 8, 3) := by decide +kernel
theorem dX10_not0_115 : decode cX10_not0 115 = .ok (.iload_n 1, 1) := by decide +kernel
theorem dX10_not0_116 : decode cX10_not0 116 = .ok (.iload_n 3, 1) := by decide +kernel
theorem dX10_not0_117 : decode cX10_not0 117 = .ok (.if_icmp .ne 7, 3) := by decide +kernel
theorem dX10_not0_120 : decode cX10_not0 120 = .ok (.iconst 1, 1) := by decide +kernel
theorem dX10_not0_121 : decode cX10_not0 121 = .ok (.goto 4, 3) := by decide +kernel
theorem dX10_not0_124 : decode cX10_not0 124 = .ok (.iconst 0, 1) := by decide +kernel
theorem dX10_not0_125 : decode cX10_not0 125 = .ok (.ireturn, 1) := by decide +kernel
theorem dX10_both0_0 : decode cX10_both0 0 = .ok (.aload_n 0, 1) := by decide +kernel
theorem dX10_both0_1 : decode cX10_both0 1 = .ok (.invokevirtual 313, 3) := by decide +kernel
theorem dX10_both0_4 : decode cX10_both0 4 = .ok (.istore_n 1, 1) := by decide +kernel
theorem dX10_both0_5 : decode cX10_both0 5 = .ok (.aload_n 0, 1) := by decide +kernel
theorem dX10_both0_6 : decode cX10_both0 6 = .ok (.bipush 97, 2) := by decide +kernel
theorem dX10_both0_8 : decode cX10_both0 8 = .ok (.bipush 110, 2) := by decide +kernel
theorem dX10_both0_10 : decode cX10_both0 10 = .ok (.bipush 100, 2) := by decide +kernel
theorem dX10_both0_12 : decode cX10_both0 12 = .ok (.iconst 0, 1) := by decide +kernel
theorem dX10_both0_13 : decode cX10_both0 13 = .ok (.iconst 0, 1) := by decide +kernel
theorem dX10_both0_14 : decode cX10_both0 14 = .ok (.iconst 0, 1) := by decide +kernel
theorem dX10_both0_15 : decode cX10_both0 15 = .ok (.iconst 0, 1) := by decide +kernel
theorem dX10_both0_16 : decode cX10_both0 16 = .ok (.iconst 0, 1) := by decide +kernel
theorem dX10_both0_17 : decode cX10_both0 17 = .ok (.invokevirtual 179, 3) := by decide +kernel
theorem dX10_both0_20 : decode cX10_both0 20 = .ok (.ifCond .eq 29, 3) := by decide +kernel
theorem dX10_both0_23 : decode cX10_both0 23 = .ok (.aload_n 0, 1) := by decide +kernel
theorem dX10_both0_24 : decode cX10_both0 24 = .ok (.invokevirtual 176, 3) := by decide +kernel
theorem dX10_both0_27 : decode cX10_both0 27 = .ok (.aload_n 0, 1) := by decide +kernel
theorem dX10_both0_28 : decode cX10_both0 28 = .ok (.invokevirtual 313, 3) := by decide +kernel
theorem dX10_both0_31 : decode cX10_both0 31 = .ok (.istore_n 2, 1) := by decide +kernel
theorem dX10_both0_32 : decode cX10_both0 32 = .ok (.iload_n 1, 1) := by decide +kernel
theorem dX10_both0_33 : decode cX10_both0 33 = .ok (.ifCond .eq 11, 3) := by decide +kernel
theorem dX10_both0_36 : decode cX10_both0 36 = .ok (.iload_n 2, 1) := by decide +kernel
theorem dX10_both0_37 : decode cX10_both0 37 = .ok (.ifCond .eq 7, 3) := by decide +kernel
theorem dX10_both0_40 : decode cX10_both0 40 = .ok (.iconst 1, 1) := by decide +kernel
theorem dX10_both0_41 : decode cX10_both0 41 = .ok (.goto 4, 3) := by decide +kernel
theorem dX10_both0_44 : decode cX10_both0 44 = .ok (.iconst 0, 1) := by decide +kernel
theorem dX10_both0_45 : decode cX10_both0 45 = .ok (.istore_n 1, 1) := by decide +kernel
theorem dX10_both0_46 : decode cX10_both0 46 = .ok (.goto (-41), 3) := by decide +kernel
theorem dX10_both0_49 : decode cX10_both0 49 = .ok (.iload_n 1, 1) := by decide +kernel
theorem dX10_both0_50 : decode cX10_both0 50 = .ok (.ireturn, 1) := by decide +kernel
theorem dX10_either0_0 : decode cX10_either0 0 = .ok (.aload_n 0, 1) := by decide +kernel
theorem dX10_either0_1 : decode cX10_either0 1 = .ok (.invokevirtual 316, 3) := by decide +kernel
theorem dX10_either0_4 : decode cX10_either0 4 = .ok (.istore_n 1, 1) := by decide +kernel
theorem dX10_either0_5 : decode cX10_either0 5 = .ok (.aload_n 0, 1) := by decide +kernel
theorem dX10_either0_6 : decode cX10_either0 6 = .ok (.bipush 111, 2) := by decide +kernel
theorem dX10_either0_8 : decode cX10_either0 8 = .ok (.bipush 114, 2) := by decide +kernel
theorem dX10_either0_10 : decode cX10_either0 10 = .ok (.iconst 0, 1) := by decide +kernel
theorem dX10_either0_11 : decode cX10_either0 11 = .ok (.iconst 0, 1) := by decide +kernel
theorem dX10_either0_12 : decode cX10_either0 12 = .ok (.iconst 0, 1) := by decide +kernel
theorem dX10_either0_13 : decode cX10_either0 13 = .ok (.iconst 0, 1) := by decide +kernel
theorem dX10_either0_14 : decode cX10_either0 14 = .ok (.iconst 0, 1) := by decide +kernel
theorem dX10_either0_15 : decode cX10_either0 15 = .ok (.iconst 0, 1) := by decide +kernel
theorem dX10_either0_16 : decode cX10_either0 16 = .ok (.invokevirtual 179, 3) := by decide +kernel
theorem dX10_either0_19 : decode cX10_either0 19 = .ok (.ifCond .eq 29, 3) := by decide +kernel
theorem dX10_either0_22 : decode cX10_either0 22 = .ok (.aload_n 0, 1) := by decide +kernel
theorem dX10_either0_23 : decode cX10_either0 23 = .ok (.invokevirtual 176, 3) := by decide +kernel
theorem dX10_either0_26 : decode cX10_either0 26 = .ok (.aload_n 0, 1) := by decide +kernel
theorem dX10_either0_27 : decode cX10_either0 27 = .ok (.invokevirtual 316, 3) := by decide +kernel
theorem dX10_either0_30 : decode cX10_either0 30 = .ok (.istore_n 2, 1) := by decide +kernel
theorem dX10_either0_31 : decode cX10_either0 31 = .ok (.iload_n 1, 1) := by decide +kernel
theorem dX10_either0_32 : decode cX10_either0 32 = .ok (.ifCond .ne 7, 3) := by decide +kernel
theorem dX10_either0_35 : decode cX10_either0 35 = .ok (.iload_n 2, 1) := by decide +kernel
theorem dX10_either0_36 : decode cX10_either0 36 = .ok (.ifCond .eq 7, 3) := by decide +kernel
theorem dX10_either0_39 : decode cX10_either0 39 = .ok (.iconst 1, 1) := by decide +kernel
theorem dX10_either0_40 : decode cX10_either0 40 = .ok (.goto 4, 3) := by decide +kernel
theorem dX10_either0_43 : decode cX10_either0 43 = .ok (.iconst 0, 1) := by decide +kernel
theorem dX10_either0_44 : decode cX10_either0 44 = .ok (.istore_n 1, 1) := by decide +kernel
theorem dX10_either0_45 : decode cX10_either0 45 = .ok (.goto (-40), 3) := by decide +kernel
theorem dX10_either0_48 : decode cX10_either0 48 = .ok (.iload_n 1, 1) := by decide +kernel
theorem dX10_either0_49 : decode cX10_either0 49 = .ok (.ireturn, 1) := by decide +kernel
theorem dX10_part_0 : decode cX10_part 0 = .ok (.iload_n 1, 1) := by decide +kernel
theorem dX10_part_1 : decode cX10_part 1 = .ok (.ifCond .ne 7, 3) := by decide +kernel
theorem dX10_part_4 : decode cX10_part 4 = .ok (.aload_n 0, 1) := by decide +kernel
theorem dX10_part_5 : decode cX10_part 5 = .ok (.invokevirtual 173, 3) := by decide +kernel
theorem dX10_part_8 : decode cX10_part 8 = .ok (.aload_n 0, 1) := by decide +kernel
theorem dX10_part_9 : decode cX10_part 9 = .ok (.getfield 160, 3) := by decide +kernel
theorem dX10_part_12 : decode cX10_part 12 = .ok (.ifCond .ne 7, 3) := by decide +kernel
theorem dX10_part_15 : decode cX10_part 15 = .ok (.aload_n 0, 1) := by decide +kernel
theorem dX10_part_16 : decode cX10_part 16 = .ok (.invokevirtual 176, 3) := by decide +kernel
theorem dX10_part_19 : decode cX10_part 19 = .ok (.aload_n 0, 1) := by decide +kernel
theorem dX10_part_20 : decode cX10_part 20 = .ok (.getfield 160, 3) := by decide +kernel
theorem dX10_part_23 : decode cX10_part 23 = .ok (.ifCond .eq 7, 3) := by decide +kernel
theorem dX10_part_26 : decode cX10_part 26 = .ok (.iconst 0, 1) := by decide +kernel
theorem dX10_part_27 : decode cX10_part 27 = .ok (.goto 7, 3) := by decide +kernel
theorem dX10_part_30 : decode cX10_part 30 = .ok (.aload_n 0, 1) := by decide +kernel
theorem dX10_part_31 : decode cX10_part 31 = .ok (.invokevirtual 319, 3) := by decide +kernel
theorem dX10_part_34 : decode cX10_part 34 = .ok (.istore_n 2, 1) := by decide +kernel
theorem dX10_part_35 : decode cX10_part 35 = .ok (.aload_n 0, 1) := by decide +kernel
theorem dX10_part_36 : decode cX10_part 36 = .ok (.bipush 59, 2) := by decide +kernel
theorem dX10_part_38 : decode cX10_part 38 = .ok (.invokevirtual 201, 3) := by decide +kernel
theorem dX10_part_41 : decode cX10_part 41 = .ok (.ifCond .ne 7, 3) := by decide +kernel
theorem dX10_part_44 : decode cX10_part 44 = .ok (.aload_n 0, 1) := by decide +kernel
theorem dX10_part_45 : decode cX10_part 45 = .ok (.invokevirtual 173, 3) := by decide +kernel
theorem dX10_part_48 : decode cX10_part 48 = .ok (.aload_n 0, 1) := by decide +kernel
theorem dX10_part_49 : decode cX10_part 49 = .ok (.getfield 160, 3) := by decide +kernel
theorem dX10_part_52 : decode cX10_part 52 = .ok (.ifCond .ne 7, 3) := by decide +kernel
theorem dX10_part_55 : decode cX10_part 55 = .ok (.aload_n 0, 1) := by decide +kernel
theorem dX10_part_56 : decode cX10_part 56 = .ok (.invokevirtual 176, 3) := by decide +kernel
theorem dX10_part_59 : decode cX10_part 59 = .ok (.iload_n 2, 1) := by decide +kernel
theorem dX10_part_60 : decode cX10_part 60 = .ok (.ireturn, 1) := by decide +kernel
theorem dX10_read_0 : decode cX10_read 0 = .ok (.aload_n 0, 1) := by decide +kernel
theorem dX10_read_1 : decode cX10_read 1 = .ok (.sipush 160, 3) := by decide +kernel
theorem dX10_read_4 : decode cX10_read 4 = .ok (.iload_n 1, 1) := by decide +kernel
theorem dX10_read_5 : decode cX10_read 5 = .ok (.imul, 1) := by decide +kernel
theorem dX10_read_6 : decode cX10_read 6 = .ok (.putfield 130, 3) := by decide +kernel
theorem dX10_read_9 : decode cX10_read 9 = .ok (.aload_n 0, 1) := by decide +kernel
theorem dX10_read_10 : decode cX10_read 10 = .ok (.aload_n 0, 1) := by decide +kernel
theorem dX10_read_11 : decode cX10_read 11 = .ok (.getfield 17, 3) := by decide +kernel
theorem dX10_read_14 : decode cX10_read 14 = .ok (.iload_n 1, 1) := by decide +kernel
theorem dX10_read_15 : decode cX10_read 15 = .ok (.iaload, 1) := by decide +kernel
theorem dX10_read_16 : decode cX10_read 16 = .ok (.putfield 127, 3) := by decide +kernel
theorem dX10_read_19 : decode cX10_read 19 = .ok (.aload_n 0, 1) := by decide +kernel
theorem dX10_read_20 : decode cX10_read 20 = .ok (.iconst 0, 1) := by decide +kernel
theorem dX10_read_21 : decode cX10_read 21 = .ok (.putfield 133, 3) := by decide +kernel
theorem dX10_read_24 : decode cX10_read 24 = .ok (.aload_n 0, 1) := by decide +kernel
theorem dX10_read_25 : decode cX10_read 25 = .ok (.iconst 0, 1) := by decide +kernel
theorem dX10_read_26 : decode cX10_read 26 = .ok (.putfield 170, 3) := by decide +kernel
theorem dX10_read_29 : decode cX10_read 29 = .ok (.aload_n 0, 1) := by decide +kernel
theorem dX10_read_30 : decode cX10_read 30 = .ok (.iconst 0, 1) := by decide +kernel
theorem dX10_read_31 : decode cX10_read 31 = .ok (.putfield 160, 3) := by decide +kernel
theorem dX10_read_34 : decode cX10_read 34 = .ok (.aload_n 0, 1) := by decide +kernel
theorem dX10_read_35 : decode cX10_read 35 = .ok (.invokevirtual 176, 3) := by decide +kernel
theorem dX10_read_38 : decode cX10_read 38 = .ok (.aload_n 0, 1) := by decide +kernel
theorem dX10_read_39 : decode cX10_read 39 = .ok (.aload_n 0, 1) := by decide +kernel
theorem dX10_read_40 : decode cX10_read 40 = .ok (.bipush 99, 2) := by decide +kernel
theorem dX10_read_42 : decode cX10_read 42 = .ok (.bipush 111, 2) := by decide +kernel
theorem dX10_read_44 : decode cX10_read 44 = .ok (.bipush 115, 2) := by decide +kernel
theorem dX10_read_46 : decode cX10_read 46 = .ok (.bipush 116, 2) := by decide +kernel
theorem dX10_read_48 : decode cX10_read 48 = .ok (.bipush 115, 2) := by decide +kernel
theorem dX10_read_50 : decode cX10_read 50 = .ok (.iconst 0, 1) := by decide +kernel
theorem dX10_read_51 : decode cX10_read 51 = .ok (.iconst 0, 1) := by decide +kernel
theorem dX10_read_52 : decode cX10_read 52 = .ok (.iconst 0, 1) := by decide +kernel
theorem dX10_read_53 : decode cX10_read 53 = .ok (.invokevirtual 179, 3) := by decide +kernel
theorem dX10_read_56 : decode cX10_read 56 = .ok (.invokevirtual 322, 3) := by decide +kernel
theorem dX10_read_59 : decode cX10_read 59 = .ok (.istore_n 3, 1) := by decide +kernel
theorem dX10_read_60 : decode cX10_read 60 = .ok (.aload_n 0, 1) := by decide +kernel
theorem dX10_read_61 : decode cX10_read 61 = .ok (.getfield 160, 3) := by decide +kernel
theorem dX10_read_64 : decode cX10_read 64 = .ok (.ifCond .eq 7, 3) := by decide +kernel
theorem dX10_read_67 : decode cX10_read 67 = .ok (.iconst 0, 1) := by decide +kernel
theorem dX10_read_68 : decode cX10_read 68 = .ok (.goto 25, 3) := by decide +kernel
theorem dX10_read_71 : decode cX10_read 71 = .ok (.aload_n 0, 1) := by decide +kernel
theorem dX10_read_72 : decode cX10_read 72 = .ok (.aload_n 0, 1) := by decide +kernel
theorem dX10_read_73 : decode cX10_read 73 = .ok (.bipush 99, 2) := by decide +kernel
theorem dX10_read_75 : decode cX10_read 75 = .ok (.bipush 114, 2) := by decide +kernel
theorem dX10_read_77 : decode cX10_read 77 = .ok (.bipush 111, 2) := by decide +kernel
theorem dX10_read_79 : decode cX10_read 79 = .ok (.bipush 119, 2) := by decide +kernel
theorem dX10_read_81 : decode cX10_read 81 = .ok (.bipush 100, 2) := by decide +kernel
theorem dX10_read_83 : decode cX10_read 83 = .ok (.bipush 115, 2) := by decide +kernel
theorem dX10_read_85 : decode cX10_read 85 = .ok (.iconst 0, 1) := by decide +kernel
theorem dX10_read_86 : decode cX10_read 86 = .ok (.iconst 0, 1) := by decide +kernel
theorem dX10_read_87 : decode cX10_read 87 = .ok (.invokevirtual 179, 3) := by decide +kernel
theorem dX10_read_90 : decode cX10_read 90 = .ok (.invokevirtual 322, 3) := by decide +kernel
theorem dX10_read_93 : decode cX10_read 93 = .ok (.istore 4, 2) := by decide +kernel
theorem dX10_read_95 : decode cX10_read 95 = .ok (.aload_n 0, 1) := by decide +kernel
theorem dX10_read_96 : decode cX10_read 96 = .ok (.getfield 160, 3) := by decide +kernel
theorem dX10_read_99 : decode cX10_read 99 = .ok (.ifCond .eq 7, 3) := by decide +kernel
theorem dX10_read_102 : decode cX10_read 102 = .ok (.iconst 0, 1) := by decide +kernel
theorem dX10_read_103 : decode cX10_read 103 = .ok (.goto 24, 3) := by decide +kernel
theorem dX10_read_106 : decode cX10_read 106 = .ok (.aload_n 0, 1) := by decide +kernel
theorem dX10_read_107 : decode cX10_read 107 = .ok (.aload_n 0, 1) := by decide +kernel
theorem dX10_read_108 : decode cX10_read 108 = .ok (.bipush 109, 2) := by decide +kernel
theorem dX10_read_110 : decode cX10_read 110 = .ok (.bipush 105, 2) := by decide +kernel
theorem dX10_read_112 : decode cX10_read 112 = .ok (.bipush 110, 2) := by decide +kernel
theorem dX10_read_114 : decode cX10_read 114 = .ok (.bipush 100, 2) := by decide +kernel
theorem dX10_read_116 : decode cX10_read 116 = .ok (.bipush 115, 2) := by decide +kernel
theorem dX10_read_118 : decode cX10_read 118 = .ok (.iconst 0, 1) := by decide +kernel
theorem dX10_read_119 : decode cX10_read 119 = .ok (.iconst 0, 1) := by decide +kernel
theorem dX10_read_120 : decode cX10_read 120 = .ok (.iconst 0, 1) := by decide +kernel
theorem dX10_read_121 : decode cX10_read 121 = .ok (.invokevirtual 179, 3) := by decide +kernel
theorem dX10_read_124 : decode cX10_read 124 = .ok (.invokevirtual 322, 3) := by decide +kernel
theorem dX10_read_127 : decode cX10_read 127 = .ok (.istore 5, 2) := by decide +kernel
theorem dX10_read_129 : decode cX10_read 129 = .ok (.aload_n 0, 1) := by decide +kernel
theorem dX10_read_130 : decode cX10_read 130 = .ok (.getfield 160, 3) := by decide +kernel
theorem dX10_read_133 : decode cX10_read 133 = .ok (.ifCond .ne 14, 3) := by decide +kernel
theorem dX10_read_136 : decode cX10_read 136 = .ok (.aload_n 0, 1) := by decide +kernel
theorem dX10_read_137 : decode cX10_read 137 = .ok (.getfield 143, 3) := by decide +kernel
theorem dX10_read_140 : decode cX10_read 140 = .ok (.ifCond .eq 7, 3) := by decide +kernel
theorem dX10_read_143 : decode cX10_read 143 = .ok (.aload_n 0, 1) := by decide +kernel
theorem dX10_read_144 : decode cX10_read 144 = .ok (.invokevirtual 173, 3) := by decide +kernel
theorem dX10_read_147 : decode cX10_read 147 = .ok (.iload_n 2, 1) := by decide +kernel
theorem dX10_read_148 : decode cX10_read 148 = .ok (.ifCond .ne 7, 3) := by decide +kernel
theorem dX10_read_151 : decode cX10_read 151 = .ok (.iload_n 3, 1) := by decide +kernel
theorem dX10_read_152 : decode cX10_read 152 = .ok (.goto 15, 3) := by decide +kernel
theorem dX10_read_155 : decode cX10_read 155 = .ok (.iload_n 2, 1) := by decide +kernel
theorem dX10_read_156 : decode cX10_read 156 = .ok (.iconst 1, 1) := by decide +kernel
theorem dX10_read_157 : decode cX10_read 157 = .ok (.if_icmp .ne 8, 3) := by decide +kernel
theorem dX10_read_160 : decode cX10_read 160 = .ok (.iload 4, 2) := by decide +kernel
theorem dX10_read_162 : decode cX10_read 162 = .ok (.goto 5, 3) := by decide +kernel
theorem dX10_read_165 : decode cX10_read 165 = .ok (.iload 5, 2) := by decide +kernel
theorem dX10_read_167 : decode cX10_read 167 = .ok (.ireturn, 1) := by decide +kernel
theorem dX10_text_0 : decode cX10_text 0 = .ok (.aload_n 0, 1) := by decide +kernel
theorem dX10_text_1 : decode cX10_text 1 = .ok (.getfield 70, 3) := by decide +kernel
theorem dX10_text_4 : decode cX10_text 4 = .ok (.bipush 6, 2) := by decide +kernel
theorem dX10_text_6 : decode cX10_text 6 = .ok (.if_icmp .ne 6, 3) := by decide +kernel
theorem dX10_text_9 : decode cX10_text 9 = .ok (.bipush (-4), 2) := by decide +kernel
theorem dX10_text_11 : decode cX10_text 11 = .ok (.ireturn, 1) := by decide +kernel
theorem dX10_text_12 : decode cX10_text 12 = .ok (.iconst 0, 1) := by decide +kernel
theorem dX10_text_13 : decode cX10_text 13 = .ok (.istore_n 1, 1) := by decide +kernel
theorem dX10_text_14 : decode cX10_text 14 = .ok (.iload_n 1, 1) := by decide +kernel
theorem dX10_text_15 : decode cX10_text 15 = .ok (.aload_n 0, 1) := by decide +kernel
theorem dX10_text_16 : decode cX10_text 16 = .ok (.getfield 124, 3) := by decide +kernel
theorem dX10_text_19 : decode cX10_text 19 = .ok (.if_icmp .ge 30, 3) := by decide +kernel
theorem dX10_text_22 : decode cX10_text 22 = .ok (.aload_n 0, 1) := by decide +kernel
theorem dX10_text_23 : decode cX10_text 23 = .ok (.getfield 13, 3) := by decide +kernel
theorem dX10_text_26 : decode cX10_text 26 = .ok (.sipush 160, 3) := by decide +kernel
theorem dX10_text_29 : decode cX10_text 29 = .ok (.aload_n 0, 1) := by decide +kernel
theorem dX10_text_30 : decode cX10_text 30 = .ok (.getfield 70, 3) := by decide +kernel
theorem dX10_text_33 : decode cX10_text 33 = .ok (.imul, 1) := by decide +kernel
theorem dX10_text_34 : decode cX10_text 34 = .ok (.iload_n 1, 1) := by decide +kernel
theorem dX10_text_35 : decode cX10_text 35 = .ok (.iadd, 1) := by decide +kernel
theorem dX10_text_36 : decode cX10_text 36 = .ok (.aload_n 0, 1) := by decide +kernel
theorem dX10_text_37 : decode cX10_text 37 = .ok (.getfield 20, 3) := by decide +kernel
theorem dX10_text_40 : decode cX10_text 40 = .ok (.iload_n 1, 1) := by decide +kernel
theorem dX10_text_41 : decode cX10_text 41 = .ok (.iaload, 1) := by decide +kernel
theorem dX10_text_42 : decode cX10_text 42 = .ok (.iastore, 1) := by decide +kernel
theorem dX10_text_43 : decode cX10_text 43 = .ok (.iinc 1 1, 3) := by decide +kernel
theorem dX10_text_46 : decode cX10_text 46 = .ok (.goto (-32), 3) := by decide +kernel
theorem dX10_text_49 : decode cX10_text 49 = .ok (.aload_n 0, 1) := by decide +kernel
theorem dX10_text_50 : decode cX10_text 50 = .ok (.getfield 17, 3) := by decide +kernel
theorem dX10_text_53 : decode cX10_text 53 = .ok (.aload_n 0, 1) := by decide +kernel
theorem dX10_text_54 : decode cX10_text 54 = .ok (.getfield 70, 3) := by decide +kernel
theorem dX10_text_57 : decode cX10_text 57 = .ok (.aload_n 0, 1) := by decide +kernel
theorem dX10_text_58 : decode cX10_text 58 = .ok (.getfield 124, 3) := by decide +kernel
theorem dX10_text_61 : decode cX10_text 61 = .ok (.iastore, 1) := by decide +kernel
theorem dX10_text_62 : decode cX10_text 62 = .ok (.aload_n 0, 1) := by decide +kernel
theorem dX10_text_63 : decode cX10_text 63 = .ok (.iconst 0, 1) := by decide +kernel
theorem dX10_text_64 : decode cX10_text 64 = .ok (.putfield 124, 3) := by decide +kernel
theorem dX10_text_67 : decode cX10_text 67 = .ok (.aload_n 0, 1) := by decide +kernel
theorem dX10_text_68 : decode cX10_text 68 = .ok (.aload_n 0, 1) := by decide +kernel
theorem dX10_text_69 : decode cX10_text 69 = .ok (.getfield 70, 3) := by decide +kernel
theorem dX10_text_72 : decode cX10_text 72 = .ok (.iconst 0, 1) := by decide +kernel
theorem dX10_text_73 : decode cX10_text 73 = .ok (.invokevirtual 326, 3) := by decide +kernel
theorem dX10_text_76 : decode cX10_text 76 = .ok (.istore_n 1, 1) := by decide +kernel
theorem dX10_text_77 : decode cX10_text 77 = .ok (.aload_n 0, 1) := by decide +kernel
theorem dX10_text_78 : decode cX10_text 78 = .ok (.getfield 160, 3) := by decide +kernel
theorem dX10_text_81 : decode cX10_text 81 = .ok (.ifCond .eq 11, 3) := by decide +kernel
theorem dX10_text_84 : decode cX10_text 84 = .ok (.bipush (-100), 2) := by decide +kernel
theorem dX10_text_86 : decode cX10_text 86 = .ok (.aload_n 0, 1) := by decide +kernel
theorem dX10_text_87 : decode cX10_text 87 = .ok (.getfield 164, 3) := by decide +kernel
theorem dX10_text_90 : decode cX10_text 90 = .ok (.isub, 1) := by decide +kernel
theorem dX10_text_91 : decode cX10_text 91 = .ok (.ireturn, 1) := by decide +kernel
theorem dX10_text_92 : decode cX10_text 92 = .ok (.aload_n 0, 1) := by decide +kernel
theorem dX10_text_93 : decode cX10_text 93 = .ok (.dup, 1) := by decide +kernel
theorem dX10_text_94 : decode cX10_text 94 = .ok (.getfield 70, 3) := by decide +kernel
theorem dX10_text_97 : decode cX10_text 97 = .ok (.iconst 1, 1) := by decide +kernel
theorem dX10_text_98 : decode cX10_text 98 = .ok (.iadd, 1) := by decide +kernel
theorem dX10_text_99 : decode cX10_text 99 = .ok (.putfield 70, 3) := by decide +kernel
theorem dX10_text_102 : decode cX10_text 102 = .ok (.aload_n 0, 1) := by decide +kernel
theorem dX10_text_103 : decode cX10_text 103 = .ok (.getfield 70, 3) := by decide +kernel
theorem dX10_text_106 : decode cX10_text 106 = .ok (.iconst 1, 1) := by decide +kernel
theorem dX10_text_107 : decode cX10_text 107 = .ok (.isub, 1) := by decide +kernel
theorem dX10_text_108 : decode cX10_text 108 = .ok (.ireturn, 1) := by decide +kernel
theorem dX10_force_0 : decode cX10_force 0 = .ok (.iload_n 1, 1) := by decide +kernel
theorem dX10_force_1 : decode cX10_force 1 = .ok (.i2l, 1) := by decide +kernel
theorem dX10_force_2 : decode cX10_force 2 = .ok (.lconst 0, 1) := by decide +kernel
theorem dX10_force_3 : decode cX10_force 3 = .ok (.aload_n 0, 1) := by decide +kernel
theorem dX10_force_4 : decode cX10_force 4 = .ok (.getfield 70, 3) := by decide +kernel
theorem dX10_force_7 : decode cX10_force 7 = .ok (.iconst 1, 1) := by decide +kernel
theorem dX10_force_8 : decode cX10_force 8 = .ok (.isub, 1) := by decide +kernel
theorem dX10_force_9 : decode cX10_force 9 = .ok (.i2l, 1) := by decide +kernel
theorem dX10_force_10 : decode cX10_force 10 = .ok (.invokestatic 76, 3) := by decide +kernel
theorem dX10_force_13 : decode cX10_force 13 = .ok (.ifCond .ne 6, 3) := by decide +kernel
theorem dX10_force_16 : decode cX10_force 16 = .ok (.bipush (-2), 2) := by decide +kernel
theorem dX10_force_18 : decode cX10_force 18 = .ok (.ireturn, 1) := by decide +kernel
theorem dX10_force_19 : decode cX10_force 19 = .ok (.aload_n 0, 1) := by decide +kernel
theorem dX10_force_20 : decode cX10_force 20 = .ok (.getfield 329, 3) := by decide +kernel
theorem dX10_force_23 : decode cX10_force 23 = .ok (.istore_n 2, 1) := by decide +kernel
theorem dX10_force_24 : decode cX10_force 24 = .ok (.aload_n 0, 1) := by decide +kernel
theorem dX10_force_25 : decode cX10_force 25 = .ok (.iload_n 1, 1) := by decide +kernel
theorem dX10_force_26 : decode cX10_force 26 = .ok (.putfield 329, 3) := by decide +kernel
theorem dX10_force_29 : decode cX10_force 29 = .ok (.iload_n 2, 1) := by decide +kernel
theorem dX10_force_30 : decode cX10_force 30 = .ok (.ireturn, 1) := by decide +kernel
theorem dX10_says_0 : decode cX10_says 0 = .ok (.aload_n 0, 1) := by decide +kernel
theorem dX10_says_1 : decode cX10_says 1 = .ok (.iload_n 1, 1) := by decide +kernel
theorem dX10_says_2 : decode cX10_says 2 = .ok (.iconst 2, 1) := by decide +kernel
theorem dX10_says_3 : decode cX10_says 3 = .ok (.if_icmp .ne 7, 3) := by decide +kernel
theorem dX10_says_6 : decode cX10_says 6 = .ok (.iconst 0, 1) := by decide +kernel
theorem dX10_says_7 : decode cX10_says 7 = .ok (.goto 4, 3) := by decide +kernel
theorem dX10_says_10 : decode cX10_says 10 = .ok (.iload_n 3, 1) := by decide +kernel
theorem dX10_says_11 : decode cX10_says 11 = .ok (.putfield 183, 3) := by decide +kernel
theorem dX10_says_14 : decode cX10_says 14 = .ok (.aload_n 0, 1) := by decide +kernel
theorem dX10_says_15 : decode cX10_says 15 = .ok (.iload_n 1, 1) := by decide +kernel
theorem dX10_says_16 : decode cX10_says 16 = .ok (.iconst 1, 1) := by decide +kernel
theorem dX10_says_17 : decode cX10_says 17 = .ok (.if_icmp .ne 7, 3) := by decide +kernel
theorem dX10_says_20 : decode cX10_says 20 = .ok (.iconst 0, 1) := by decide +kernel
theorem dX10_says_21 : decode cX10_says 21 = .ok (.goto 4, 3) := by decide +kernel
theorem dX10_says_24 : decode cX10_says 24 = .ok (.iload_n 2, 1) := by decide +kernel
theorem dX10_says_25 : decode cX10_says 25 = .ok (.putfield 186, 3) := by decide +kernel
theorem dX10_says_28 : decode cX10_says 28 = .ok (.aload_n 0, 1) := by decide +kernel
theorem dX10_says_29 : decode cX10_says 29 = .ok (.iload_n 1, 1) := by decide +kernel
theorem dX10_says_30 : decode cX10_says 30 = .ok (.iconst 2, 1) := by decide +kernel
theorem dX10_says_31 : decode cX10_says 31 = .ok (.if_icmp .ne 7, 3) := by decide +kernel
theorem dX10_says_34 : decode cX10_says 34 = .ok (.iconst 0, 1) := by decide +kernel
theorem dX10_says_35 : decode cX10_says 35 = .ok (.goto 5, 3) := by decide +kernel
theorem dX10_says_38 : decode cX10_says 38 = .ok (.iload 4, 2) := by decide +kernel
theorem dX10_says_40 : decode cX10_says 40 = .ok (.putfield 189, 3) := by decide +kernel
theorem dX10_says_43 : decode cX10_says 43 = .ok (.aload_n 0, 1) := by decide +kernel
theorem dX10_says_44 : decode cX10_says 44 = .ok (.iload_n 1, 1) := by decide +kernel
theorem dX10_says_45 : decode cX10_says 45 = .ok (.iconst 1, 1) := by decide +kernel
theorem dX10_says_46 : decode cX10_says 46 = .ok (.if_icmp .ne 7, 3) := by decide +kernel
theorem dX10_says_49 : decode cX10_says 49 = .ok (.iconst 0, 1) := by decide +kernel
theorem dX10_says_50 : decode cX10_says 50 = .ok (.goto 9, 3) := by decide +kernel
theorem dX10_says_53 : decode cX10_says 53 = .ok (.aload_n 0, 1) := by decide +kernel
theorem dX10_says_54 : decode cX10_says 54 = .ok (.getfield 29, 3) := by decide +kernel
theorem dX10_says_57 : decode cX10_says 57 = .ok (.iload_n 2, 1) := by decide +kernel
theorem dX10_says_58 : decode cX10_says 58 = .ok (.iaload, 1) := by decide +kernel
theorem dX10_says_59 : decode cX10_says 59 = .ok (.putfield 192, 3) := by decide +kernel
theorem dX10_says_62 : decode cX10_says 62 = .ok (.aload_n 0, 1) := by decide +kernel
theorem dX10_says_63 : decode cX10_says 63 = .ok (.iload 5, 2) := by decide +kernel
theorem dX10_says_65 : decode cX10_says 65 = .ok (.putfield 195, 3) := by decide +kernel
theorem dX10_says_68 : decode cX10_says 68 = .ok (.aload_n 0, 1) := by decide +kernel
theorem dX10_says_69 : decode cX10_says 69 = .ok (.iload_n 1, 1) := by decide +kernel
theorem dX10_says_70 : decode cX10_says 70 = .ok (.iconst 1, 1) := by decide +kernel
theorem dX10_says_71 : decode cX10_says 71 = .ok (.if_icmp .ne 7, 3) := by decide +kernel
theorem dX10_says_74 : decode cX10_says 74 = .ok (.iconst 0, 1) := by decide +kernel
theorem dX10_says_75 : decode cX10_says 75 = .ok (.goto 9, 3) := by decide +kernel
theorem dX10_says_78 : decode cX10_says 78 = .ok (.aload_n 0, 1) := by decide +kernel
theorem dX10_says_79 : decode cX10_says 79 = .ok (.getfield 26, 3) := by decide +kernel
theorem dX10_says_82 : decode cX10_says 82 = .ok (.iload_n 2, 1) := by decide +kernel
theorem dX10_says_83 : decode cX10_says 83 = .ok (.iaload, 1) := by decide +kernel
theorem dX10_says_84 : decode cX10_says 84 = .ok (.putfield 198, 3) := by decide +kernel
theorem dX10_says_87 : decode cX10_says 87 = .ok (.aload_n 0, 1) := by decide +kernel
theorem dX10_says_88 : decode cX10_says 88 = .ok (.aload_n 0, 1) := by decide +kernel
theorem dX10_says_89 : decode cX10_says 89 = .ok (.getfield 329, 3) := by decide +kernel
theorem dX10_says_92 : decode cX10_says 92 = .ok (.iload_n 1, 1) := by decide +kernel
theorem dX10_says_93 : decode cX10_says 93 = .ok (.invokevirtual 326, 3) := by decide +kernel
theorem dX10_says_96 : decode cX10_says 96 = .ok (.iconst 0, 1) := by decide +kernel
theorem dX10_says_97 : decode cX10_says 97 = .ok (.bipush 99, 2) := by decide +kernel
theorem dX10_says_99 : decode cX10_says 99 = .ok (.invokestatic 332, 3) := by decide +kernel
theorem dX10_says_102 : decode cX10_says 102 = .ok (.ireturn, 1) := by decide +kernel
theorem dX10_spendsOf_0 : decode cX10_spendsOf 0 = .ok (.aload_n 0, 1) := by decide +kernel
theorem dX10_spendsOf_1 : decode cX10_spendsOf 1 = .ok (.getfield 23, 3) := by decide +kernel
theorem dX10_spendsOf_4 : decode cX10_spendsOf 4 = .ok (.iload_n 1, 1) := by decide +kernel
theorem dX10_spendsOf_5 : decode cX10_spendsOf 5 = .ok (.iaload, 1) := by decide +kernel
theorem dX10_spendsOf_6 : decode cX10_spendsOf 6 = .ok (.istore_n 3, 1) := by decide +kernel
theorem dX10_spendsOf_7 : decode cX10_spendsOf 7 = .ok (.iload_n 3, 1) := by decide +kernel
theorem dX10_spendsOf_8 : decode cX10_spendsOf 8 = .ok (.iconst 1, 1) := by decide +kernel
theorem dX10_spendsOf_9 : decode cX10_spendsOf 9 = .ok (.if_icmp .eq 8, 3) := by decide +kernel
theorem dX10_spendsOf_12 : decode cX10_spendsOf 12 = .ok (.iload_n 3, 1) := by decide +kernel
theorem dX10_spendsOf_13 : decode cX10_spendsOf 13 = .ok (.iconst 3, 1) := by decide +kernel
theorem dX10_spendsOf_14 : decode cX10_spendsOf 14 = .ok (.if_icmp .ne 44, 3) := by decide +kernel
theorem dX10_spendsOf_17 : decode cX10_spendsOf 17 = .ok (.iload_n 2, 1) := by decide +kernel
theorem dX10_spendsOf_18 : decode cX10_spendsOf 18 = .ok (.aload_n 0, 1) := by decide +kernel
theorem dX10_spendsOf_19 : decode cX10_spendsOf 19 = .ok (.getfield 26, 3) := by decide +kernel
theorem dX10_spendsOf_22 : decode cX10_spendsOf 22 = .ok (.iload_n 1, 1) := by decide +kernel
theorem dX10_spendsOf_23 : decode cX10_spendsOf 23 = .ok (.iaload, 1) := by decide +kernel
theorem dX10_spendsOf_24 : decode cX10_spendsOf 24 = .ok (.iconst 1, 1) := by decide +kernel
theorem dX10_spendsOf_25 : decode cX10_spendsOf 25 = .ok (.iadd, 1) := by decide +kernel
theorem dX10_spendsOf_26 : decode cX10_spendsOf 26 = .ok (.idiv, 1) := by decide +kernel
theorem dX10_spendsOf_27 : decode cX10_spendsOf 27 = .ok (.istore 4, 2) := by decide +kernel
theorem dX10_spendsOf_29 : decode cX10_spendsOf 29 = .ok (.iload 4, 2) := by decide +kernel
theorem dX10_spendsOf_31 : decode cX10_spendsOf 31 = .ok (.iconst 1, 1) := by decide +kernel
theorem dX10_spendsOf_32 : decode cX10_spendsOf 32 = .ok (.if_icmp .ge 7, 3) := by decide +kernel
theorem dX10_spendsOf_35 : decode cX10_spendsOf 35 = .ok (.iconst 1, 1) := by decide +kernel
theorem dX10_spendsOf_36 : decode cX10_spendsOf 36 = .ok (.goto 5, 3) := by decide +kernel
theorem dX10_spendsOf_39 : decode cX10_spendsOf 39 = .ok (.iload 4, 2) := by decide +kernel
theorem dX10_spendsOf_41 : decode cX10_spendsOf 41 = .ok (.istore 5, 2) := by decide +kernel
theorem dX10_spendsOf_43 : decode cX10_spendsOf 43 = .ok (.iload_n 3, 1) := by decide +kernel
theorem dX10_spendsOf_44 : decode cX10_spendsOf 44 = .ok (.iconst 3, 1) := by decide +kernel
theorem dX10_spendsOf_45 : decode cX10_spendsOf 45 = .ok (.if_icmp .ne 10, 3) := by decide +kernel
theorem dX10_spendsOf_48 : decode cX10_spendsOf 48 = .ok (.iconst 2, 1) := by decide +kernel
theorem dX10_spendsOf_49 : decode cX10_spendsOf 49 = .ok (.iload 5, 2) := by decide +kernel
theorem dX10_spendsOf_51 : decode cX10_spendsOf 51 = .ok (.imul, 1) := by decide +kernel
theorem dX10_spendsOf_52 : decode cX10_spendsOf 52 = .ok (.goto 5, 3) := by decide +kernel
theorem dX10_spendsOf_55 : decode cX10_spendsOf 55 = .ok (.iload 5, 2) := by decide +kernel
theorem dX10_spendsOf_57 : decode cX10_spendsOf 57 = .ok (.ireturn, 1) := by decide +kernel
theorem dX10_spendsOf_58 : decode cX10_spendsOf 58 = .ok (.iload_n 3, 1) := by decide +kernel
theorem dX10_spendsOf_59 : decode cX10_spendsOf 59 = .ok (.iconst 2, 1) := by decide +kernel
theorem dX10_spendsOf_60 : decode cX10_spendsOf 60 = .ok (.if_icmp .eq 8, 3) := by decide +kernel
theorem dX10_spendsOf_63 : decode cX10_spendsOf 63 = .ok (.iload_n 3, 1) := by decide +kernel
theorem dX10_spendsOf_64 : decode cX10_spendsOf 64 = .ok (.iconst 4, 1) := by decide +kernel
theorem dX10_spendsOf_65 : decode cX10_spendsOf 65 = .ok (.if_icmp .ne 9, 3) := by decide +kernel
theorem dX10_spendsOf_68 : decode cX10_spendsOf 68 = .ok (.iload_n 2, 1) := by decide +kernel
theorem dX10_spendsOf_69 : decode cX10_spendsOf 69 = .ok (.iconst 1, 1) := by decide +kernel
theorem dX10_spendsOf_70 : decode cX10_spendsOf 70 = .ok (.iadd, 1) := by decide +kernel
theorem dX10_spendsOf_71 : decode cX10_spendsOf 71 = .ok (.goto 4, 3) := by decide +kernel
theorem dX10_spendsOf_74 : decode cX10_spendsOf 74 = .ok (.iload_n 2, 1) := by decide +kernel
theorem dX10_spendsOf_75 : decode cX10_spendsOf 75 = .ok (.ireturn, 1) := by decide +kernel
theorem dX10_lives_0 : decode cX10_lives 0 = .ok (.iconst 0, 1) := by decide +kernel
theorem dX10_lives_1 : decode cX10_lives 1 = .ok (.istore_n 1, 1) := by decide +kernel
theorem dX10_lives_2 : decode cX10_lives 2 = .ok (.iconst 0, 1) := by decide +kernel
theorem dX10_lives_3 : decode cX10_lives 3 = .ok (.istore_n 2, 1) := by decide +kernel
theorem dX10_lives_4 : decode cX10_lives 4 = .ok (.iload_n 2, 1) := by decide +kernel
theorem dX10_lives_5 : decode cX10_lives 5 = .ok (.sipush 400, 3) := by decide +kernel
theorem dX10_lives_8 : decode cX10_lives 8 = .ok (.if_icmp .ge 76, 3) := by decide +kernel
theorem dX10_lives_11 : decode cX10_lives 11 = .ok (.iconst 0, 1) := by decide +kernel
theorem dX10_lives_12 : decode cX10_lives 12 = .ok (.istore_n 3, 1) := by decide +kernel
theorem dX10_lives_13 : decode cX10_lives 13 = .ok (.iconst 0, 1) := by decide +kernel
theorem dX10_lives_14 : decode cX10_lives 14 = .ok (.istore 4, 2) := by decide +kernel
theorem dX10_lives_16 : decode cX10_lives 16 = .ok (.iload 4, 2) := by decide +kernel
theorem dX10_lives_18 : decode cX10_lives 18 = .ok (.aload_n 0, 1) := by decide +kernel
theorem dX10_lives_19 : decode cX10_lives 19 = .ok (.getfield 73, 3) := by decide +kernel
theorem dX10_lives_22 : decode cX10_lives 22 = .ok (.if_icmp .ge 30, 3) := by decide +kernel
theorem dX10_lives_25 : decode cX10_lives 25 = .ok (.iload_n 3, 1) := by decide +kernel
theorem dX10_lives_26 : decode cX10_lives 26 = .ok (.aload_n 0, 1) := by decide +kernel
theorem dX10_lives_27 : decode cX10_lives 27 = .ok (.iload 4, 2) := by decide +kernel
theorem dX10_lives_29 : decode cX10_lives 29 = .ok (.iload_n 2, 1) := by decide +kernel
theorem dX10_lives_30 : decode cX10_lives 30 = .ok (.invokevirtual 336, 3) := by decide +kernel
theorem dX10_lives_33 : decode cX10_lives 33 = .ok (.ifCond .eq 7, 3) := by decide +kernel
theorem dX10_lives_36 : decode cX10_lives 36 = .ok (.iconst 1, 1) := by decide +kernel
theorem dX10_lives_37 : decode cX10_lives 37 = .ok (.goto 4, 3) := by decide +kernel
theorem dX10_lives_40 : decode cX10_lives 40 = .ok (.iconst 0, 1) := by decide +kernel
theorem dX10_lives_41 : decode cX10_lives 41 = .ok (.iload 4, 2) := by decide +kernel
theorem dX10_lives_43 : decode cX10_lives 43 = .ok (.ishl, 1) := by decide +kernel
theorem dX10_lives_44 : decode cX10_lives 44 = .ok (.ior, 1) := by decide +kernel
theorem dX10_lives_45 : decode cX10_lives 45 = .ok (.istore_n 3, 1) := by decide +kernel
theorem dX10_lives_46 : decode cX10_lives 46 = .ok (.iinc 4 1, 3) := by decide +kernel
theorem dX10_lives_49 : decode cX10_lives 49 = .ok (.goto (-33), 3) := by decide +kernel
theorem dX10_lives_52 : decode cX10_lives 52 = .ok (.aload_n 0, 1) := by decide +kernel
theorem dX10_lives_53 : decode cX10_lives 53 = .ok (.getfield 35, 3) := by decide +kernel
theorem dX10_lives_56 : decode cX10_lives 56 = .ok (.iload_n 2, 1) := by decide +kernel
theorem dX10_lives_57 : decode cX10_lives 57 = .ok (.iload_n 3, 1) := by decide +kernel
theorem dX10_lives_58 : decode cX10_lives 58 = .ok (.iastore, 1) := by decide +kernel
theorem dX10_lives_59 : decode cX10_lives 59 = .ok (.aload_n 0, 1) := by decide +kernel
theorem dX10_lives_60 : decode cX10_lives 60 = .ok (.getfield 38, 3) := by decide +kernel
theorem dX10_lives_63 : decode cX10_lives 63 = .ok (.iload_n 2, 1) := by decide +kernel
theorem dX10_lives_64 : decode cX10_lives 64 = .ok (.iload_n 1, 1) := by decide +kernel
theorem dX10_lives_65 : decode cX10_lives 65 = .ok (.iastore, 1) := by decide +kernel
theorem dX10_lives_66 : decode cX10_lives 66 = .ok (.iload_n 3, 1) := by decide +kernel
theorem dX10_lives_67 : decode cX10_lives 67 = .ok (.ifCond .ne 9, 3) := by decide +kernel
theorem dX10_lives_70 : decode cX10_lives 70 = .ok (.iload_n 1, 1) := by decide +kernel
theorem dX10_lives_71 : decode cX10_lives 71 = .ok (.iconst 1, 1) := by decide +kernel
theorem dX10_lives_72 : decode cX10_lives 72 = .ok (.iadd, 1) := by decide +kernel
theorem dX10_lives_73 : decode cX10_lives 73 = .ok (.goto 4, 3) := by decide +kernel
theorem dX10_lives_76 : decode cX10_lives 76 = .ok (.iconst 0, 1) := by decide +kernel
theorem dX10_lives_77 : decode cX10_lives 77 = .ok (.istore_n 1, 1) := by decide +kernel
theorem dX10_lives_78 : decode cX10_lives 78 = .ok (.iinc 2 1, 3) := by decide +kernel
theorem dX10_lives_81 : decode cX10_lives 81 = .ok (.goto (-77), 3) := by decide +kernel
theorem dX10_lives_84 : decode cX10_lives 84 = .ok (.return_, 1) := by decide +kernel
theorem dX10_costOf_0 : decode cX10_costOf 0 = .ok (.aload_n 0, 1) := by decide +kernel
theorem dX10_costOf_1 : decode cX10_costOf 1 = .ok (.getfield 35, 3) := by decide +kernel
theorem dX10_costOf_4 : decode cX10_costOf 4 = .ok (.iload_n 1, 1) := by decide +kernel
theorem dX10_costOf_5 : decode cX10_costOf 5 = .ok (.iaload, 1) := by decide +kernel
theorem dX10_costOf_6 : decode cX10_costOf 6 = .ok (.istore_n 2, 1) := by decide +kernel
theorem dX10_costOf_7 : decode cX10_costOf 7 = .ok (.iload_n 2, 1) := by decide +kernel
theorem dX10_costOf_8 : decode cX10_costOf 8 = .ok (.invokestatic 339, 3) := by decide +kernel
theorem dX10_costOf_11 : decode cX10_costOf 11 = .ok (.istore_n 3, 1) := by decide +kernel
theorem dX10_costOf_12 : decode cX10_costOf 12 = .ok (.iload_n 3, 1) := by decide +kernel
theorem dX10_costOf_13 : decode cX10_costOf 13 = .ok (.iconst 1, 1) := by decide +kernel
theorem dX10_costOf_14 : decode cX10_costOf 14 = .ok (.if_icmp .le 20, 3) := by decide +kernel
theorem dX10_costOf_17 : decode cX10_costOf 17 = .ok (.aload_n 0, 1) := by decide +kernel
theorem dX10_costOf_18 : decode cX10_costOf 18 = .ok (.iconst 1, 1) := by decide +kernel
theorem dX10_costOf_19 : decode cX10_costOf 19 = .ok (.iconst 0, 1) := by decide +kernel
theorem dX10_costOf_20 : decode cX10_costOf 20 = .ok (.iload_n 1, 1) := by decide +kernel
theorem dX10_costOf_21 : decode cX10_costOf 21 = .ok (.iload_n 3, 1) := by decide +kernel
theorem dX10_costOf_22 : decode cX10_costOf 22 = .ok (.aload_n 0, 1) := by decide +kernel
theorem dX10_costOf_23 : decode cX10_costOf 23 = .ok (.getfield 38, 3) := by decide +kernel
theorem dX10_costOf_26 : decode cX10_costOf 26 = .ok (.iload_n 1, 1) := by decide +kernel
theorem dX10_costOf_27 : decode cX10_costOf 27 = .ok (.iaload, 1) := by decide +kernel
theorem dX10_costOf_28 : decode cX10_costOf 28 = .ok (.invokevirtual 342, 3) := by decide +kernel
theorem dX10_costOf_31 : decode cX10_costOf 31 = .ok (.goto 4, 3) := by decide +kernel
theorem dX10_costOf_34 : decode cX10_costOf 34 = .ok (.iconst 0, 1) := by decide +kernel
theorem dX10_costOf_35 : decode cX10_costOf 35 = .ok (.istore 4, 2) := by decide +kernel
theorem dX10_costOf_37 : decode cX10_costOf 37 = .ok (.iconst 0, 1) := by decide +kernel
theorem dX10_costOf_38 : decode cX10_costOf 38 = .ok (.istore 5, 2) := by decide +kernel
theorem dX10_costOf_40 : decode cX10_costOf 40 = .ok (.iload 5, 2) := by decide +kernel
theorem dX10_costOf_42 : decode cX10_costOf 42 = .ok (.aload_n 0, 1) := by decide +kernel
theorem dX10_costOf_43 : decode cX10_costOf 43 = .ok (.getfield 73, 3) := by decide +kernel
theorem dX10_costOf_46 : decode cX10_costOf 46 = .ok (.if_icmp .ge 49, 3) := by decide +kernel
theorem dX10_costOf_49 : decode cX10_costOf 49 = .ok (.iload 4, 2) := by decide +kernel
theorem dX10_costOf_51 : decode cX10_costOf 51 = .ok (.iload_n 2, 1) := by decide +kernel
theorem dX10_costOf_52 : decode cX10_costOf 52 = .ok (.iload 5, 2) := by decide +kernel
theorem dX10_costOf_54 : decode cX10_costOf 54 = .ok (.ishr, 1) := by decide +kernel
theorem dX10_costOf_55 : decode cX10_costOf 55 = .ok (.iconst 1, 1) := by decide +kernel
theorem dX10_costOf_56 : decode cX10_costOf 56 = .ok (.iand, 1) := by decide +kernel
theorem dX10_costOf_57 : decode cX10_costOf 57 = .ok (.iconst 1, 1) := by decide +kernel
theorem dX10_costOf_58 : decode cX10_costOf 58 = .ok (.if_icmp .ne 27, 3) := by decide +kernel
theorem dX10_costOf_61 : decode cX10_costOf 61 = .ok (.aload_n 0, 1) := by decide +kernel
theorem dX10_costOf_62 : decode cX10_costOf 62 = .ok (.iload 5, 2) := by decide +kernel
theorem dX10_costOf_64 : decode cX10_costOf 64 = .ok (.aload_n 0, 1) := by decide +kernel
theorem dX10_costOf_65 : decode cX10_costOf 65 = .ok (.iconst 0, 1) := by decide +kernel
theorem dX10_costOf_66 : decode cX10_costOf 66 = .ok (.iload 5, 2) := by decide +kernel
theorem dX10_costOf_68 : decode cX10_costOf 68 = .ok (.iload_n 1, 1) := by decide +kernel
theorem dX10_costOf_69 : decode cX10_costOf 69 = .ok (.iload_n 3, 1) := by decide +kernel
theorem dX10_costOf_70 : decode cX10_costOf 70 = .ok (.aload_n 0, 1) := by decide +kernel
theorem dX10_costOf_71 : decode cX10_costOf 71 = .ok (.getfield 38, 3) := by decide +kernel
theorem dX10_costOf_74 : decode cX10_costOf 74 = .ok (.iload_n 1, 1) := by decide +kernel
theorem dX10_costOf_75 : decode cX10_costOf 75 = .ok (.iaload, 1) := by decide +kernel
theorem dX10_costOf_76 : decode cX10_costOf 76 = .ok (.invokevirtual 342, 3) := by decide +kernel
theorem dX10_costOf_79 : decode cX10_costOf 79 = .ok (.invokevirtual 346, 3) := by decide +kernel
theorem dX10_costOf_82 : decode cX10_costOf 82 = .ok (.goto 4, 3) := by decide +kernel
theorem dX10_costOf_85 : decode cX10_costOf 85 = .ok (.iconst 0, 1) := by decide +kernel
theorem dX10_costOf_86 : decode cX10_costOf 86 = .ok (.iadd, 1) := by decide +kernel
theorem dX10_costOf_87 : decode cX10_costOf 87 = .ok (.istore 4, 2) := by decide +kernel
theorem dX10_costOf_89 : decode cX10_costOf 89 = .ok (.iinc 5 1, 3) := by decide +kernel
theorem dX10_costOf_92 : decode cX10_costOf 92 = .ok (.goto (-52), 3) := by decide +kernel
theorem dX10_costOf_95 : decode cX10_costOf 95 = .ok (.iload 4, 2) := by decide +kernel
theorem dX10_costOf_97 : decode cX10_costOf 97 = .ok (.ireturn, 1) := by decide +kernel
theorem dX10_spends_0 : decode cX10_spends 0 = .ok (.aload_n 0, 1) := by decide +kernel
theorem dX10_spends_1 : decode cX10_spends 1 = .ok (.invokevirtual 349, 3) := by decide +kernel
theorem dX10_spends_4 : decode cX10_spends 4 = .ok (.iconst 0, 1) := by decide +kernel
theorem dX10_spends_5 : decode cX10_spends 5 = .ok (.istore_n 1, 1) := by decide +kernel
theorem dX10_spends_6 : decode cX10_spends 6 = .ok (.iconst 0, 1) := by decide +kernel
theorem dX10_spends_7 : decode cX10_spends 7 = .ok (.istore_n 2, 1) := by decide +kernel
theorem dX10_spends_8 : decode cX10_spends 8 = .ok (.iload_n 2, 1) := by decide +kernel
theorem dX10_spends_9 : decode cX10_spends 9 = .ok (.sipush 400, 3) := by decide +kernel
theorem dX10_spends_12 : decode cX10_spends 12 = .ok (.if_icmp .ge 29, 3) := by decide +kernel
theorem dX10_spends_15 : decode cX10_spends 15 = .ok (.aload_n 0, 1) := by decide +kernel
theorem dX10_spends_16 : decode cX10_spends 16 = .ok (.getfield 41, 3) := by decide +kernel
theorem dX10_spends_19 : decode cX10_spends 19 = .ok (.iload_n 2, 1) := by decide +kernel
theorem dX10_spends_20 : decode cX10_spends 20 = .ok (.aload_n 0, 1) := by decide +kernel
theorem dX10_spends_21 : decode cX10_spends 21 = .ok (.iload_n 2, 1) := by decide +kernel
theorem dX10_spends_22 : decode cX10_spends 22 = .ok (.invokevirtual 352, 3) := by decide +kernel
theorem dX10_spends_25 : decode cX10_spends 25 = .ok (.iastore, 1) := by decide +kernel
theorem dX10_spends_26 : decode cX10_spends 26 = .ok (.iload_n 1, 1) := by decide +kernel
theorem dX10_spends_27 : decode cX10_spends 27 = .ok (.aload_n 0, 1) := by decide +kernel
theorem dX10_spends_28 : decode cX10_spends 28 = .ok (.getfield 41, 3) := by decide +kernel
theorem dX10_spends_31 : decode cX10_spends 31 = .ok (.iload_n 2, 1) := by decide +kernel
theorem dX10_spends_32 : decode cX10_spends 32 = .ok (.iaload, 1) := by decide +kernel
theorem dX10_spends_33 : decode cX10_spends 33 = .ok (.iadd, 1) := by decide +kernel
theorem dX10_spends_34 : decode cX10_spends 34 = .ok (.istore_n 1, 1) := by decide +kernel
theorem dX10_spends_35 : decode cX10_spends 35 = .ok (.iinc 2 1, 3) := by decide +kernel
theorem dX10_spends_38 : decode cX10_spends 38 = .ok (.goto (-30), 3) := by decide +kernel
theorem dX10_spends_41 : decode cX10_spends 41 = .ok (.iload_n 1, 1) := by decide +kernel
theorem dX10_spends_42 : decode cX10_spends 42 = .ok (.ireturn, 1) := by decide +kernel
theorem dX10_day_0 : decode cX10_day 0 = .ok (.iload_n 1, 1) := by decide +kernel
theorem dX10_day_1 : decode cX10_day 1 = .ok (.invokestatic 355, 3) := by decide +kernel
theorem dX10_day_4 : decode cX10_day 4 = .ok (.ifCond .eq 15, 3) := by decide +kernel
theorem dX10_day_7 : decode cX10_day 7 = .ok (.iload_n 2, 1) := by decide +kernel
theorem dX10_day_8 : decode cX10_day 8 = .ok (.i2l, 1) := by decide +kernel
theorem dX10_day_9 : decode cX10_day 9 = .ok (.lconst 0, 1) := by decide +kernel
theorem dX10_day_10 : decode cX10_day 10 = .ok (.ldc2_w 358, 3) := by decide +kernel
theorem dX10_day_13 : decode cX10_day 13 = .ok (.invokestatic 76, 3) := by decide +kernel
theorem dX10_day_16 : decode cX10_day 16 = .ok (.ifCond .ne 6, 3) := by decide +kernel
theorem dX10_day_19 : decode cX10_day 19 = .ok (.bipush (-2), 2) := by decide +kernel
theorem dX10_day_21 : decode cX10_day 21 = .ok (.ireturn, 1) := by decide +kernel
theorem dX10_day_22 : decode cX10_day 22 = .ok (.iload_n 2, 1) := by decide +kernel
theorem dX10_day_23 : decode cX10_day 23 = .ok (.iconst 2, 1) := by decide +kernel
theorem dX10_day_24 : decode cX10_day 24 = .ok (.if_icmp .ne 17, 3) := by decide +kernel
theorem dX10_day_27 : decode cX10_day 27 = .ok (.aload_n 0, 1) := by decide +kernel
theorem dX10_day_28 : decode cX10_day 28 = .ok (.iload_n 1, 1) := by decide +kernel
theorem dX10_day_29 : decode cX10_day 29 = .ok (.invokevirtual 113, 3) := by decide +kernel
theorem dX10_day_32 : decode cX10_day 32 = .ok (.ifCond .eq 7, 3) := by decide +kernel
theorem dX10_day_35 : decode cX10_day 35 = .ok (.iconst 1, 1) := by decide +kernel
theorem dX10_day_36 : decode cX10_day 36 = .ok (.goto 4, 3) := by decide +kernel
theorem dX10_day_39 : decode cX10_day 39 = .ok (.iconst 0, 1) := by decide +kernel
theorem dX10_day_40 : decode cX10_day 40 = .ok (.ireturn, 1) := by decide +kernel
theorem dX10_day_41 : decode cX10_day 41 = .ok (.aload_n 0, 1) := by decide +kernel
theorem dX10_day_42 : decode cX10_day 42 = .ok (.invokevirtual 349, 3) := by decide +kernel
theorem dX10_day_45 : decode cX10_day 45 = .ok (.iload_n 2, 1) := by decide +kernel
theorem dX10_day_46 : decode cX10_day 46 = .ok (.ifCond .ne 12, 3) := by decide +kernel
theorem dX10_day_49 : decode cX10_day 49 = .ok (.aload_n 0, 1) := by decide +kernel
theorem dX10_day_50 : decode cX10_day 50 = .ok (.getfield 35, 3) := by decide +kernel
theorem dX10_day_53 : decode cX10_day 53 = .ok (.iload_n 1, 1) := by decide +kernel
theorem dX10_day_54 : decode cX10_day 54 = .ok (.iaload, 1) := by decide +kernel
theorem dX10_day_55 : decode cX10_day 55 = .ok (.goto 8, 3) := by decide +kernel
theorem dX10_day_58 : decode cX10_day 58 = .ok (.aload_n 0, 1) := by decide +kernel
theorem dX10_day_59 : decode cX10_day 59 = .ok (.iload_n 1, 1) := by decide +kernel
theorem dX10_day_60 : decode cX10_day 60 = .ok (.invokevirtual 352, 3) := by decide +kernel
theorem dX10_day_63 : decode cX10_day 63 = .ok (.ireturn, 1) := by decide +kernel
theorem dX10_when_0 : decode cX10_when 0 = .ok (.aload_n 0, 1) := by decide +kernel
theorem dX10_when_1 : decode cX10_when 1 = .ok (.iload_n 1, 1) := by decide +kernel
theorem dX10_when_2 : decode cX10_when 2 = .ok (.invokevirtual 84, 3) := by decide +kernel
theorem dX10_when_5 : decode cX10_when 5 = .ok (.ifCond .eq 10, 3) := by decide +kernel
theorem dX10_when_8 : decode cX10_when 8 = .ok (.iload_n 2, 1) := by decide +kernel
theorem dX10_when_9 : decode cX10_when 9 = .ok (.invokestatic 355, 3) := by decide +kernel
theorem dX10_when_12 : decode cX10_when 12 = .ok (.ifCond .ne 6, 3) := by decide +kernel
theorem dX10_when_15 : decode cX10_when 15 = .ok (.bipush (-2), 2) := by decide +kernel
theorem dX10_when_17 : decode cX10_when 17 = .ok (.ireturn, 1) := by decide +kernel
theorem dX10_when_18 : decode cX10_when 18 = .ok (.iload_n 2, 1) := by decide +kernel
theorem dX10_when_19 : decode cX10_when 19 = .ok (.istore_n 3, 1) := by decide +kernel
theorem dX10_when_20 : decode cX10_when 20 = .ok (.iload_n 3, 1) := by decide +kernel
theorem dX10_when_21 : decode cX10_when 21 = .ok (.sipush 400, 3) := by decide +kernel
theorem dX10_when_24 : decode cX10_when 24 = .ok (.if_icmp .ge 20, 3) := by decide +kernel
theorem dX10_when_27 : decode cX10_when 27 = .ok (.aload_n 0, 1) := by decide +kernel
theorem dX10_when_28 : decode cX10_when 28 = .ok (.iload_n 1, 1) := by decide +kernel
theorem dX10_when_29 : decode cX10_when 29 = .ok (.iload_n 3, 1) := by decide +kernel
theorem dX10_when_30 : decode cX10_when 30 = .ok (.invokevirtual 336, 3) := by decide +kernel
theorem dX10_when_33 : decode cX10_when 33 = .ok (.ifCond .eq 5, 3) := by decide +kernel
theorem dX10_when_36 : decode cX10_when 36 = .ok (.iload_n 3, 1) := by decide +kernel
theorem dX10_when_37 : decode cX10_when 37 = .ok (.ireturn, 1) := by decide +kernel
theorem dX10_when_38 : decode cX10_when 38 = .ok (.iinc 3 1, 3) := by decide +kernel
theorem dX10_when_41 : decode cX10_when 41 = .ok (.goto (-21), 3) := by decide +kernel
theorem dX10_when_44 : decode cX10_when 44 = .ok (.iconst (-1), 1) := by decide +kernel
theorem dX10_when_45 : decode cX10_when 45 = .ok (.ireturn, 1) := by decide +kernel
theorem dX10_often_0 : decode cX10_often 0 = .ok (.aload_n 0, 1) := by decide +kernel
theorem dX10_often_1 : decode cX10_often 1 = .ok (.iload_n 1, 1) := by decide +kernel
theorem dX10_often_2 : decode cX10_often 2 = .ok (.invokevirtual 84, 3) := by decide +kernel
theorem dX10_often_5 : decode cX10_often 5 = .ok (.ifCond .eq 15, 3) := by decide +kernel
theorem dX10_often_8 : decode cX10_often 8 = .ok (.iload_n 2, 1) := by decide +kernel
theorem dX10_often_9 : decode cX10_often 9 = .ok (.i2l, 1) := by decide +kernel
theorem dX10_often_10 : decode cX10_often 10 = .ok (.lconst 0, 1) := by decide +kernel
theorem dX10_often_11 : decode cX10_often 11 = .ok (.ldc2_w 360, 3) := by decide +kernel
theorem dX10_often_14 : decode cX10_often 14 = .ok (.invokestatic 76, 3) := by decide +kernel
theorem dX10_often_17 : decode cX10_often 17 = .ok (.ifCond .ne 6, 3) := by decide +kernel
theorem dX10_often_20 : decode cX10_often 20 = .ok (.bipush (-2), 2) := by decide +kernel
theorem dX10_often_22 : decode cX10_often 22 = .ok (.ireturn, 1) := by decide +kernel
theorem dX10_often_23 : decode cX10_often 23 = .ok (.iconst 0, 1) := by decide +kernel
theorem dX10_often_24 : decode cX10_often 24 = .ok (.istore_n 3, 1) := by decide +kernel
theorem dX10_often_25 : decode cX10_often 25 = .ok (.iconst 0, 1) := by decide +kernel
theorem dX10_often_26 : decode cX10_often 26 = .ok (.istore 4, 2) := by decide +kernel
theorem dX10_often_28 : decode cX10_often 28 = .ok (.iload 4, 2) := by decide +kernel
theorem dX10_often_30 : decode cX10_often 30 = .ok (.iload_n 2, 1) := by decide +kernel
theorem dX10_often_31 : decode cX10_often 31 = .ok (.if_icmp .ge 27, 3) := by decide +kernel
theorem dX10_often_34 : decode cX10_often 34 = .ok (.iload_n 3, 1) := by decide +kernel
theorem dX10_often_35 : decode cX10_often 35 = .ok (.aload_n 0, 1) := by decide +kernel
theorem dX10_often_36 : decode cX10_often 36 = .ok (.iload_n 1, 1) := by decide +kernel
theorem dX10_often_37 : decode cX10_often 37 = .ok (.iload 4, 2) := by decide +kernel
theorem dX10_often_39 : decode cX10_often 39 = .ok (.invokevirtual 336, 3) := by decide +kernel
theorem dX10_often_42 : decode cX10_often 42 = .ok (.ifCond .eq 7, 3) := by decide +kernel
theorem dX10_often_45 : decode cX10_often 45 = .ok (.iconst 1, 1) := by decide +kernel
theorem dX10_often_46 : decode cX10_often 46 = .ok (.goto 4, 3) := by decide +kernel
theorem dX10_often_49 : decode cX10_often 49 = .ok (.iconst 0, 1) := by decide +kernel
theorem dX10_often_50 : decode cX10_often 50 = .ok (.iadd, 1) := by decide +kernel
theorem dX10_often_51 : decode cX10_often 51 = .ok (.istore_n 3, 1) := by decide +kernel
theorem dX10_often_52 : decode cX10_often 52 = .ok (.iinc 4 1, 3) := by decide +kernel
theorem dX10_often_55 : decode cX10_often 55 = .ok (.goto (-27), 3) := by decide +kernel
theorem dX10_often_58 : decode cX10_often 58 = .ok (.iload_n 3, 1) := by decide +kernel
theorem dX10_often_59 : decode cX10_often 59 = .ok (.ireturn, 1) := by decide +kernel
theorem dX10_daysOf_0 : decode cX10_daysOf 0 = .ok (.iconst 0, 1) := by decide +kernel
theorem dX10_daysOf_1 : decode cX10_daysOf 1 = .ok (.istore_n 2, 1) := by decide +kernel
theorem dX10_daysOf_2 : decode cX10_daysOf 2 = .ok (.iconst 0, 1) := by decide +kernel
theorem dX10_daysOf_3 : decode cX10_daysOf 3 = .ok (.istore_n 3, 1) := by decide +kernel
theorem dX10_daysOf_4 : decode cX10_daysOf 4 = .ok (.iload_n 3, 1) := by decide +kernel
theorem dX10_daysOf_5 : decode cX10_daysOf 5 = .ok (.sipush 400, 3) := by decide +kernel
theorem dX10_daysOf_8 : decode cX10_daysOf 8 = .ok (.if_icmp .ge 30, 3) := by decide +kernel
theorem dX10_daysOf_11 : decode cX10_daysOf 11 = .ok (.iload_n 2, 1) := by decide +kernel
theorem dX10_daysOf_12 : decode cX10_daysOf 12 = .ok (.aload_n 0, 1) := by decide +kernel
theorem dX10_daysOf_13 : decode cX10_daysOf 13 = .ok (.getfield 35, 3) := by decide +kernel
theorem dX10_daysOf_16 : decode cX10_daysOf 16 = .ok (.iload_n 3, 1) := by decide +kernel
theorem dX10_daysOf_17 : decode cX10_daysOf 17 = .ok (.iaload, 1) := by decide +kernel
theorem dX10_daysOf_18 : decode cX10_daysOf 18 = .ok (.invokestatic 339, 3) := by decide +kernel
theorem dX10_daysOf_21 : decode cX10_daysOf 21 = .ok (.iload_n 1, 1) := by decide +kernel
theorem dX10_daysOf_22 : decode cX10_daysOf 22 = .ok (.if_icmp .lt 7, 3) := by decide +kernel
theorem dX10_daysOf_25 : decode cX10_daysOf 25 = .ok (.iconst 1, 1) := by decide +kernel
theorem dX10_daysOf_26 : decode cX10_daysOf 26 = .ok (.goto 4, 3) := by decide +kernel
theorem dX10_daysOf_29 : decode cX10_daysOf 29 = .ok (.iconst 0, 1) := by decide +kernel
theorem dX10_daysOf_30 : decode cX10_daysOf 30 = .ok (.iadd, 1) := by decide +kernel
theorem dX10_daysOf_31 : decode cX10_daysOf 31 = .ok (.istore_n 2, 1) := by decide +kernel
theorem dX10_daysOf_32 : decode cX10_daysOf 32 = .ok (.iinc 3 1, 3) := by decide +kernel
theorem dX10_daysOf_35 : decode cX10_daysOf 35 = .ok (.goto (-31), 3) := by decide +kernel
theorem dX10_daysOf_38 : decode cX10_daysOf 38 = .ok (.iload_n 2, 1) := by decide +kernel
theorem dX10_daysOf_39 : decode cX10_daysOf 39 = .ok (.ireturn, 1) := by decide +kernel
theorem dX10_longestRest_0 : decode cX10_longestRest 0 = .ok (.iconst 0, 1) := by decide +kernel
theorem dX10_longestRest_1 : decode cX10_longestRest 1 = .ok (.istore_n 1, 1) := by decide +kernel
theorem dX10_longestRest_2 : decode cX10_longestRest 2 = .ok (.aload_n 0, 1) := by decide +kernel
theorem dX10_longestRest_3 : decode cX10_longestRest 3 = .ok (.iconst (-1), 1) := by decide +kernel
theorem dX10_longestRest_4 : decode cX10_longestRest 4 = .ok (.putfield 362, 3) := by decide +kernel
theorem dX10_longestRest_7 : decode cX10_longestRest 7 = .ok (.iconst 0, 1) := by decide +kernel
theorem dX10_longestRest_8 : decode cX10_longestRest 8 = .ok (.istore_n 2, 1) := by decide +kernel
theorem dX10_longestRest_9 : decode cX10_longestRest 9 = .ok (.iload_n 2, 1) := by decide +kernel
theorem dX10_longestRest_10 : decode cX10_longestRest 10 = .ok (.sipush 400, 3) := by decide +kernel
theorem dX10_longestRest_13 : decode cX10_longestRest 13 = .ok (.if_icmp .ge 47, 3) := by decide +kernel
theorem dX10_longestRest_16 : decode cX10_longestRest 16 = .ok (.aload_n 0, 1) := by decide +kernel
theorem dX10_longestRest_17 : decode cX10_longestRest 17 = .ok (.getfield 35, 3) := by decide +kernel
theorem dX10_longestRest_20 : decode cX10_longestRest 20 = .ok (.iload_n 2, 1) := by decide +kernel
theorem dX10_longestRest_21 : decode cX10_longestRest 21 = .ok (.iaload, 1) := by decide +kernel
theorem dX10_longestRest_22 : decode cX10_longestRest 22 = .ok (.ifCond .ne 14, 3) := by decide +kernel
theorem dX10_longestRest_25 : decode cX10_longestRest 25 = .ok (.aload_n 0, 1) := by decide +kernel
theorem dX10_longestRest_26 : decode cX10_longestRest 26 = .ok (.getfield 38, 3) := by decide +kernel
theorem dX10_longestRest_29 : decode cX10_longestRest 29 = .ok (.iload_n 2, 1) := by decide +kernel
theorem dX10_longestRest_30 : decode cX10_longestRest 30 = .ok (.iaload, 1) := by decide +kernel
theorem dX10_longestRest_31 : decode cX10_longestRest 31 = .ok (.iconst 1, 1) := by decide +kernel
theorem dX10_longestRest_32 : decode cX10_longestRest 32 = .ok (.iadd, 1) := by decide +kernel
theorem dX10_longestRest_33 : decode cX10_longestRest 33 = .ok (.goto 4, 3) := by decide +kernel
theorem dX10_longestRest_36 : decode cX10_longestRest 36 = .ok (.iconst 0, 1) := by decide +kernel
theorem dX10_longestRest_37 : decode cX10_longestRest 37 = .ok (.istore_n 3, 1) := by decide +kernel
theorem dX10_longestRest_38 : decode cX10_longestRest 38 = .ok (.iload_n 3, 1) := by decide +kernel
theorem dX10_longestRest_39 : decode cX10_longestRest 39 = .ok (.iload_n 1, 1) := by decide +kernel
theorem dX10_longestRest_40 : decode cX10_longestRest 40 = .ok (.if_icmp .le 14, 3) := by decide +kernel
theorem dX10_longestRest_43 : decode cX10_longestRest 43 = .ok (.iload_n 3, 1) := by decide +kernel
theorem dX10_longestRest_44 : decode cX10_longestRest 44 = .ok (.istore_n 1, 1) := by decide +kernel
theorem dX10_longestRest_45 : decode cX10_longestRest 45 = .ok (.aload_n 0, 1) := by decide +kernel
theorem dX10_longestRest_46 : decode cX10_longestRest 46 = .ok (.iload_n 2, 1) := by decide +kernel
theorem dX10_longestRest_47 : decode cX10_longestRest 47 = .ok (.iload_n 3, 1) := by decide +kernel
theorem dX10_longestRest_48 : decode cX10_longestRest 48 = .ok (.isub, 1) := by decide +kernel
theorem dX10_longestRest_49 : decode cX10_longestRest 49 = .ok (.iconst 1, 1) := by decide +kernel
theorem dX10_longestRest_50 : decode cX10_longestRest 50 = .ok (.iadd, 1) := by decide +kernel
theorem dX10_longestRest_51 : decode cX10_longestRest 51 = .ok (.putfield 362, 3) := by decide +kernel
theorem dX10_longestRest_54 : decode cX10_longestRest 54 = .ok (.iinc 2 1, 3) := by decide +kernel
theorem dX10_longestRest_57 : decode cX10_longestRest 57 = .ok (.goto (-48), 3) := by decide +kernel
theorem dX10_longestRest_60 : decode cX10_longestRest 60 = .ok (.iload_n 1, 1) := by decide +kernel
theorem dX10_longestRest_61 : decode cX10_longestRest 61 = .ok (.ireturn, 1) := by decide +kernel
theorem dX10_inWeek_0 : decode cX10_inWeek 0 = .ok (.iconst 0, 1) := by decide +kernel
theorem dX10_inWeek_1 : decode cX10_inWeek 1 = .ok (.istore_n 2, 1) := by decide +kernel
theorem dX10_inWeek_2 : decode cX10_inWeek 2 = .ok (.bipush 7, 2) := by decide +kernel
theorem dX10_inWeek_4 : decode cX10_inWeek 4 = .ok (.iload_n 1, 1) := by decide +kernel
theorem dX10_inWeek_5 : decode cX10_inWeek 5 = .ok (.imul, 1) := by decide +kernel
theorem dX10_inWeek_6 : decode cX10_inWeek 6 = .ok (.istore_n 3, 1) := by decide +kernel
theorem dX10_inWeek_7 : decode cX10_inWeek 7 = .ok (.iload_n 3, 1) := by decide +kernel
theorem dX10_inWeek_8 : decode cX10_inWeek 8 = .ok (.bipush 7, 2) := by decide +kernel
theorem dX10_inWeek_10 : decode cX10_inWeek 10 = .ok (.iload_n 1, 1) := by decide +kernel
theorem dX10_inWeek_11 : decode cX10_inWeek 11 = .ok (.imul, 1) := by decide +kernel
theorem dX10_inWeek_12 : decode cX10_inWeek 12 = .ok (.bipush 7, 2) := by decide +kernel
theorem dX10_inWeek_14 : decode cX10_inWeek 14 = .ok (.iadd, 1) := by decide +kernel
theorem dX10_inWeek_15 : decode cX10_inWeek 15 = .ok (.if_icmp .ge 21, 3) := by decide +kernel
theorem dX10_inWeek_18 : decode cX10_inWeek 18 = .ok (.iload_n 2, 1) := by decide +kernel
theorem dX10_inWeek_19 : decode cX10_inWeek 19 = .ok (.aload_n 0, 1) := by decide +kernel
theorem dX10_inWeek_20 : decode cX10_inWeek 20 = .ok (.getfield 35, 3) := by decide +kernel
theorem dX10_inWeek_23 : decode cX10_inWeek 23 = .ok (.iload_n 3, 1) := by decide +kernel
theorem dX10_inWeek_24 : decode cX10_inWeek 24 = .ok (.iaload, 1) := by decide +kernel
theorem dX10_inWeek_25 : decode cX10_inWeek 25 = .ok (.invokestatic 339, 3) := by decide +kernel
theorem dX10_inWeek_28 : decode cX10_inWeek 28 = .ok (.iadd, 1) := by decide +kernel
theorem dX10_inWeek_29 : decode cX10_inWeek 29 = .ok (.istore_n 2, 1) := by decide +kernel
theorem dX10_inWeek_30 : decode cX10_inWeek 30 = .ok (.iinc 3 1, 3) := by decide +kernel
theorem dX10_inWeek_33 : decode cX10_inWeek 33 = .ok (.goto (-26), 3) := by decide +kernel
theorem dX10_inWeek_36 : decode cX10_inWeek 36 = .ok (.iload_n 2, 1) := by decide +kernel
theorem dX10_inWeek_37 : decode cX10_inWeek 37 = .ok (.ireturn, 1) := by decide +kernel
theorem dX10_year_0 : decode cX10_year 0 = .ok (.iload_n 1, 1) := by decide +kernel
theorem dX10_year_1 : decode cX10_year 1 = .ok (.i2l, 1) := by decide +kernel
theorem dX10_year_2 : decode cX10_year 2 = .ok (.lconst 0, 1) := by decide +kernel
theorem dX10_year_3 : decode cX10_year 3 = .ok (.ldc2_w 365, 3) := by decide +kernel
theorem dX10_year_6 : decode cX10_year 6 = .ok (.invokestatic 76, 3) := by decide +kernel
theorem dX10_year_9 : decode cX10_year 9 = .ok (.ifCond .ne 6, 3) := by decide +kernel
theorem dX10_year_12 : decode cX10_year 12 = .ok (.bipush (-2), 2) := by decide +kernel
theorem dX10_year_14 : decode cX10_year 14 = .ok (.ireturn, 1) := by decide +kernel
theorem dX10_year_15 : decode cX10_year 15 = .ok (.aload_n 0, 1) := by decide +kernel
theorem dX10_year_16 : decode cX10_year 16 = .ok (.invokevirtual 367, 3) := by decide +kernel
theorem dX10_year_19 : decode cX10_year 19 = .ok (.istore_n 2, 1) := by decide +kernel
theorem dX10_year_20 : decode cX10_year 20 = .ok (.iload_n 1, 1) := by decide +kernel
theorem dX10_year_21 : decode cX10_year 21 = .ok (.iconst 3, 1) := by decide +kernel
theorem dX10_year_22 : decode cX10_year 22 = .ok (.if_icmp .ge 17, 3) := by decide +kernel
theorem dX10_year_25 : decode cX10_year 25 = .ok (.iload_n 1, 1) := by decide +kernel
theorem dX10_year_26 : decode cX10_year 26 = .ok (.ifCond .ne 7, 3) := by decide +kernel
theorem dX10_year_29 : decode cX10_year 29 = .ok (.iload_n 2, 1) := by decide +kernel
theorem dX10_year_30 : decode cX10_year 30 = .ok (.goto 8, 3) := by decide +kernel
theorem dX10_year_33 : decode cX10_year 33 = .ok (.aload_n 0, 1) := by decide +kernel
theorem dX10_year_34 : decode cX10_year 34 = .ok (.iload_n 1, 1) := by decide +kernel
theorem dX10_year_35 : decode cX10_year 35 = .ok (.invokevirtual 370, 3) := by decide +kernel
theorem dX10_year_38 : decode cX10_year 38 = .ok (.ireturn, 1) := by decide +kernel
theorem dX10_year_39 : decode cX10_year 39 = .ok (.iload_n 1, 1) := by decide +kernel
theorem dX10_year_40 : decode cX10_year 40 = .ok (.iconst 5, 1) := by decide +kernel
theorem dX10_year_41 : decode cX10_year 41 = .ok (.if_icmp .ge 22, 3) := by decide +kernel
theorem dX10_year_44 : decode cX10_year 44 = .ok (.aload_n 0, 1) := by decide +kernel
theorem dX10_year_45 : decode cX10_year 45 = .ok (.invokevirtual 373, 3) := by decide +kernel
theorem dX10_year_48 : decode cX10_year 48 = .ok (.istore_n 3, 1) := by decide +kernel
theorem dX10_year_49 : decode cX10_year 49 = .ok (.iload_n 1, 1) := by decide +kernel
theorem dX10_year_50 : decode cX10_year 50 = .ok (.iconst 3, 1) := by decide +kernel
theorem dX10_year_51 : decode cX10_year 51 = .ok (.if_icmp .ne 7, 3) := by decide +kernel
theorem dX10_year_54 : decode cX10_year 54 = .ok (.iload_n 3, 1) := by decide +kernel
theorem dX10_year_55 : decode cX10_year 55 = .ok (.goto 7, 3) := by decide +kernel
theorem dX10_year_58 : decode cX10_year 58 = .ok (.aload_n 0, 1) := by decide +kernel
theorem dX10_year_59 : decode cX10_year 59 = .ok (.getfield 362, 3) := by decide +kernel
theorem dX10_year_62 : decode cX10_year 62 = .ok (.ireturn, 1) := by decide +kernel
theorem dX10_year_63 : decode cX10_year 63 = .ok (.iconst 0, 1) := by decide +kernel
theorem dX10_year_64 : decode cX10_year 64 = .ok (.istore_n 3, 1) := by decide +kernel
theorem dX10_year_65 : decode cX10_year 65 = .ok (.iload_n 1, 1) := by decide +kernel
theorem dX10_year_66 : decode cX10_year 66 = .ok (.bipush 7, 2) := by decide +kernel
theorem dX10_year_68 : decode cX10_year 68 = .ok (.if_icmp .ge 55, 3) := by decide +kernel
theorem dX10_year_71 : decode cX10_year 71 = .ok (.iconst 1, 1) := by decide +kernel
theorem dX10_year_72 : decode cX10_year 72 = .ok (.istore 4, 2) := by decide +kernel
theorem dX10_year_74 : decode cX10_year 74 = .ok (.iload 4, 2) := by decide +kernel
theorem dX10_year_76 : decode cX10_year 76 = .ok (.bipush 57, 2) := by decide +kernel
theorem dX10_year_78 : decode cX10_year 78 = .ok (.if_icmp .ge 30, 3) := by decide +kernel
theorem dX10_year_81 : decode cX10_year 81 = .ok (.aload_n 0, 1) := by decide +kernel
theorem dX10_year_82 : decode cX10_year 82 = .ok (.iload 4, 2) := by decide +kernel
theorem dX10_year_84 : decode cX10_year 84 = .ok (.invokevirtual 376, 3) := by decide +kernel
theorem dX10_year_87 : decode cX10_year 87 = .ok (.aload_n 0, 1) := by decide +kernel
theorem dX10_year_88 : decode cX10_year 88 = .ok (.iload_n 3, 1) := by decide +kernel
theorem dX10_year_89 : decode cX10_year 89 = .ok (.invokevirtual 376, 3) := by decide +kernel
theorem dX10_year_92 : decode cX10_year 92 = .ok (.if_icmp .le 8, 3) := by decide +kernel
theorem dX10_year_95 : decode cX10_year 95 = .ok (.iload 4, 2) := by decide +kernel
theorem dX10_year_97 : decode cX10_year 97 = .ok (.goto 4, 3) := by decide +kernel
theorem dX10_year_100 : decode cX10_year 100 = .ok (.iload_n 3, 1) := by decide +kernel
theorem dX10_year_101 : decode cX10_year 101 = .ok (.istore_n 3, 1) := by decide +kernel
theorem dX10_year_102 : decode cX10_year 102 = .ok (.iinc 4 1, 3) := by decide +kernel
theorem dX10_year_105 : decode cX10_year 105 = .ok (.goto (-31), 3) := by decide +kernel
theorem dX10_year_108 : decode cX10_year 108 = .ok (.iload_n 1, 1) := by decide +kernel
theorem dX10_year_109 : decode cX10_year 109 = .ok (.iconst 5, 1) := by decide +kernel
theorem dX10_year_110 : decode cX10_year 110 = .ok (.if_icmp .ne 7, 3) := by decide +kernel
theorem dX10_year_113 : decode cX10_year 113 = .ok (.iload_n 3, 1) := by decide +kernel
theorem dX10_year_114 : decode cX10_year 114 = .ok (.goto 8, 3) := by decide +kernel
theorem dX10_year_117 : decode cX10_year 117 = .ok (.aload_n 0, 1) := by decide +kernel
theorem dX10_year_118 : decode cX10_year 118 = .ok (.iload_n 3, 1) := by decide +kernel
theorem dX10_year_119 : decode cX10_year 119 = .ok (.invokevirtual 376, 3) := by decide +kernel
theorem dX10_year_122 : decode cX10_year 122 = .ok (.ireturn, 1) := by decide +kernel
theorem dX10_year_123 : decode cX10_year 123 = .ok (.iconst 1, 1) := by decide +kernel
theorem dX10_year_124 : decode cX10_year 124 = .ok (.istore 4, 2) := by decide +kernel
theorem dX10_year_126 : decode cX10_year 126 = .ok (.iload 4, 2) := by decide +kernel
theorem dX10_year_128 : decode cX10_year 128 = .ok (.sipush 400, 3) := by decide +kernel
theorem dX10_year_131 : decode cX10_year 131 = .ok (.if_icmp .ge 32, 3) := by decide +kernel
theorem dX10_year_134 : decode cX10_year 134 = .ok (.aload_n 0, 1) := by decide +kernel
theorem dX10_year_135 : decode cX10_year 135 = .ok (.getfield 41, 3) := by decide +kernel
theorem dX10_year_138 : decode cX10_year 138 = .ok (.iload 4, 2) := by decide +kernel
theorem dX10_year_140 : decode cX10_year 140 = .ok (.iaload, 1) := by decide +kernel
theorem dX10_year_141 : decode cX10_year 141 = .ok (.aload_n 0, 1) := by decide +kernel
theorem dX10_year_142 : decode cX10_year 142 = .ok (.getfield 41, 3) := by decide +kernel
theorem dX10_year_145 : decode cX10_year 145 = .ok (.iload_n 3, 1) := by decide +kernel
theorem dX10_year_146 : decode cX10_year 146 = .ok (.iaload, 1) := by decide +kernel
theorem dX10_year_147 : decode cX10_year 147 = .ok (.if_icmp .le 8, 3) := by decide +kernel
theorem dX10_year_150 : decode cX10_year 150 = .ok (.iload 4, 2) := by decide +kernel
theorem dX10_year_152 : decode cX10_year 152 = .ok (.goto 4, 3) := by decide +kernel
theorem dX10_year_155 : decode cX10_year 155 = .ok (.iload_n 3, 1) := by decide +kernel
theorem dX10_year_156 : decode cX10_year 156 = .ok (.istore_n 3, 1) := by decide +kernel
theorem dX10_year_157 : decode cX10_year 157 = .ok (.iinc 4 1, 3) := by decide +kernel
theorem dX10_year_160 : decode cX10_year 160 = .ok (.goto (-34), 3) := by decide +kernel
theorem dX10_year_163 : decode cX10_year 163 = .ok (.iload_n 1, 1) := by decide +kernel
theorem dX10_year_164 : decode cX10_year 164 = .ok (.bipush 7, 2) := by decide +kernel
theorem dX10_year_166 : decode cX10_year 166 = .ok (.if_icmp .ne 7, 3) := by decide +kernel
theorem dX10_year_169 : decode cX10_year 169 = .ok (.iload_n 3, 1) := by decide +kernel
theorem dX10_year_170 : decode cX10_year 170 = .ok (.goto 9, 3) := by decide +kernel
theorem dX10_year_173 : decode cX10_year 173 = .ok (.aload_n 0, 1) := by decide +kernel
theorem dX10_year_174 : decode cX10_year 174 = .ok (.getfield 41, 3) := by decide +kernel
theorem dX10_year_177 : decode cX10_year 177 = .ok (.iload_n 3, 1) := by decide +kernel
theorem dX10_year_178 : decode cX10_year 178 = .ok (.iaload, 1) := by decide +kernel
theorem dX10_year_179 : decode cX10_year 179 = .ok (.ireturn, 1) := by decide +kernel
theorem dX10_meets_0 : decode cX10_meets 0 = .ok (.aload_n 0, 1) := by decide +kernel
theorem dX10_meets_1 : decode cX10_meets 1 = .ok (.lconst 0, 1) := by decide +kernel
theorem dX10_meets_2 : decode cX10_meets 2 = .ok (.putfield 379, 3) := by decide +kernel
theorem dX10_meets_5 : decode cX10_meets 5 = .ok (.aload_n 0, 1) := by decide +kernel
theorem dX10_meets_6 : decode cX10_meets 6 = .ok (.lconst 1, 1) := by decide +kernel
theorem dX10_meets_7 : decode cX10_meets 7 = .ok (.putfield 382, 3) := by decide +kernel
theorem dX10_meets_10 : decode cX10_meets 10 = .ok (.lconst 0, 1) := by decide +kernel
theorem dX10_meets_11 : decode cX10_meets 11 = .ok (.lstore_n 2, 1) := by decide +kernel
theorem dX10_meets_12 : decode cX10_meets 12 = .ok (.iconst 0, 1) := by decide +kernel
theorem dX10_meets_13 : decode cX10_meets 13 = .ok (.istore 4, 2) := by decide +kernel
theorem dX10_meets_15 : decode cX10_meets 15 = .ok (.iload 4, 2) := by decide +kernel
theorem dX10_meets_17 : decode cX10_meets 17 = .ok (.aload_n 0, 1) := by decide +kernel
theorem dX10_meets_18 : decode cX10_meets 18 = .ok (.getfield 73, 3) := by decide +kernel
theorem dX10_meets_21 : decode cX10_meets 21 = .ok (.if_icmp .ge 179, 3) := by decide +kernel
theorem dX10_meets_24 : decode cX10_meets 24 = .ok (.iload_n 1, 1) := by decide +kernel
theorem dX10_meets_25 : decode cX10_meets 25 = .ok (.iload 4, 2) := by decide +kernel
theorem dX10_meets_27 : decode cX10_meets 27 = .ok (.ishr, 1) := by decide +kernel
theorem dX10_meets_28 : decode cX10_meets 28 = .ok (.iconst 1, 1) := by decide +kernel
theorem dX10_meets_29 : decode cX10_meets 29 = .ok (.iand, 1) := by decide +kernel
theorem dX10_meets_30 : decode cX10_meets 30 = .ok (.iconst 1, 1) := by decide +kernel
theorem dX10_meets_31 : decode cX10_meets 31 = .ok (.if_icmp .ne 163, 3) := by decide +kernel
theorem dX10_meets_34 : decode cX10_meets 34 = .ok (.iconst 0, 1) := by decide +kernel
theorem dX10_meets_35 : decode cX10_meets 35 = .ok (.istore 5, 2) := by decide +kernel
theorem dX10_meets_37 : decode cX10_meets 37 = .ok (.iload 5, 2) := by decide +kernel
theorem dX10_meets_39 : decode cX10_meets 39 = .ok (.aload_n 0, 1) := by decide +kernel
theorem dX10_meets_40 : decode cX10_meets 40 = .ok (.getfield 29, 3) := by decide +kernel
theorem dX10_meets_43 : decode cX10_meets 43 = .ok (.iload 4, 2) := by decide +kernel
theorem dX10_meets_45 : decode cX10_meets 45 = .ok (.iaload, 1) := by decide +kernel
theorem dX10_meets_46 : decode cX10_meets 46 = .ok (.if_icmp .ge 45, 3) := by decide +kernel
theorem dX10_meets_49 : decode cX10_meets 49 = .ok (.aload_n 0, 1) := by decide +kernel
theorem dX10_meets_50 : decode cX10_meets 50 = .ok (.getfield 379, 3) := by decide +kernel
theorem dX10_meets_53 : decode cX10_meets 53 = .ok (.iload 5, 2) := by decide +kernel
theorem dX10_meets_55 : decode cX10_meets 55 = .ok (.i2l, 1) := by decide +kernel
theorem dX10_meets_56 : decode cX10_meets 56 = .ok (.aload_n 0, 1) := by decide +kernel
theorem dX10_meets_57 : decode cX10_meets 57 = .ok (.getfield 382, 3) := by decide +kernel
theorem dX10_meets_60 : decode cX10_meets 60 = .ok (.lmul, 1) := by decide +kernel
theorem dX10_meets_61 : decode cX10_meets 61 = .ok (.ladd, 1) := by decide +kernel
theorem dX10_meets_62 : decode cX10_meets 62 = .ok (.aload_n 0, 1) := by decide +kernel
theorem dX10_meets_63 : decode cX10_meets 63 = .ok (.getfield 32, 3) := by decide +kernel
theorem dX10_meets_66 : decode cX10_meets 66 = .ok (.iload 4, 2) := by decide +kernel
theorem dX10_meets_68 : decode cX10_meets 68 = .ok (.iaload, 1) := by decide +kernel
theorem dX10_meets_69 : decode cX10_meets 69 = .ok (.i2l, 1) := by decide +kernel
theorem dX10_meets_70 : decode cX10_meets 70 = .ok (.lsub, 1) := by decide +kernel
theorem dX10_meets_71 : decode cX10_meets 71 = .ok (.aload_n 0, 1) := by decide +kernel
theorem dX10_meets_72 : decode cX10_meets 72 = .ok (.getfield 29, 3) := by decide +kernel
theorem dX10_meets_75 : decode cX10_meets 75 = .ok (.iload 4, 2) := by decide +kernel
theorem dX10_meets_77 : decode cX10_meets 77 = .ok (.iaload, 1) := by decide +kernel
theorem dX10_meets_78 : decode cX10_meets 78 = .ok (.i2l, 1) := by decide +kernel
theorem dX10_meets_79 : decode cX10_meets 79 = .ok (.lrem, 1) := by decide +kernel
theorem dX10_meets_80 : decode cX10_meets 80 = .ok (.lconst 0, 1) := by decide +kernel
theorem dX10_meets_81 : decode cX10_meets 81 = .ok (.lcmp, 1) := by decide +kernel
theorem dX10_meets_82 : decode cX10_meets 82 = .ok (.ifCond .eq 9, 3) := by decide +kernel
theorem dX10_meets_85 : decode cX10_meets 85 = .ok (.iinc 5 1, 3) := by decide +kernel
theorem dX10_meets_88 : decode cX10_meets 88 = .ok (.goto (-51), 3) := by decide +kernel
theorem dX10_meets_91 : decode cX10_meets 91 = .ok (.iload 5, 2) := by decide +kernel
theorem dX10_meets_93 : decode cX10_meets 93 = .ok (.aload_n 0, 1) := by decide +kernel
theorem dX10_meets_94 : decode cX10_meets 94 = .ok (.getfield 29, 3) := by decide +kernel
theorem dX10_meets_97 : decode cX10_meets 97 = .ok (.iload 4, 2) := by decide +kernel
theorem dX10_meets_99 : decode cX10_meets 99 = .ok (.iaload, 1) := by decide +kernel
theorem dX10_meets_100 : decode cX10_meets 100 = .ok (.if_icmp .ne 5, 3) := by decide +kernel
theorem dX10_meets_103 : decode cX10_meets 103 = .ok (.iconst 0, 1) := by decide +kernel
theorem dX10_meets_104 : decode cX10_meets 104 = .ok (.ireturn, 1) := by decide +kernel
theorem dX10_meets_105 : decode cX10_meets 105 = .ok (.aload_n 0, 1) := by decide +kernel
theorem dX10_meets_106 : decode cX10_meets 106 = .ok (.dup, 1) := by decide +kernel
theorem dX10_meets_107 : decode cX10_meets 107 = .ok (.getfield 379, 3) := by decide +kernel
theorem dX10_meets_110 : decode cX10_meets 110 = .ok (.iload 5, 2) := by decide +kernel
theorem dX10_meets_112 : decode cX10_meets 112 = .ok (.i2l, 1) := by decide +kernel
theorem dX10_meets_113 : decode cX10_meets 113 = .ok (.aload_n 0, 1) := by decide +kernel
theorem dX10_meets_114 : decode cX10_meets 114 = .ok (.getfield 382, 3) := by decide +kernel
theorem dX10_meets_117 : decode cX10_meets 117 = .ok (.lmul, 1) := by decide +kernel
theorem dX10_meets_118 : decode cX10_meets 118 = .ok (.ladd, 1) := by decide +kernel
theorem dX10_meets_119 : decode cX10_meets 119 = .ok (.putfield 379, 3) := by decide +kernel
theorem dX10_meets_122 : decode cX10_meets 122 = .ok (.aload_n 0, 1) := by decide +kernel
theorem dX10_meets_123 : decode cX10_meets 123 = .ok (.aload_n 0, 1) := by decide +kernel
theorem dX10_meets_124 : decode cX10_meets 124 = .ok (.getfield 382, 3) := by decide +kernel
theorem dX10_meets_127 : decode cX10_meets 127 = .ok (.aload_n 0, 1) := by decide +kernel
theorem dX10_meets_128 : decode cX10_meets 128 = .ok (.getfield 382, 3) := by decide +kernel
theorem dX10_meets_131 : decode cX10_meets 131 = .ok (.aload_n 0, 1) := by decide +kernel
theorem dX10_meets_132 : decode cX10_meets 132 = .ok (.getfield 29, 3) := by decide +kernel
theorem dX10_meets_135 : decode cX10_meets 135 = .ok (.iload 4, 2) := by decide +kernel
theorem dX10_meets_137 : decode cX10_meets 137 = .ok (.iaload, 1) := by decide +kernel
theorem dX10_meets_138 : decode cX10_meets 138 = .ok (.i2l, 1) := by decide +kernel
theorem dX10_meets_139 : decode cX10_meets 139 = .ok (.invokestatic 385, 3) := by decide +kernel
theorem dX10_meets_142 : decode cX10_meets 142 = .ok (.ldiv, 1) := by decide +kernel
theorem dX10_meets_143 : decode cX10_meets 143 = .ok (.aload_n 0, 1) := by decide +kernel
theorem dX10_meets_144 : decode cX10_meets 144 = .ok (.getfield 29, 3) := by decide +kernel
theorem dX10_meets_147 : decode cX10_meets 147 = .ok (.iload 4, 2) := by decide +kernel
theorem dX10_meets_149 : decode cX10_meets 149 = .ok (.iaload, 1) := by decide +kernel
theorem dX10_meets_150 : decode cX10_meets 150 = .ok (.i2l, 1) := by decide +kernel
theorem dX10_meets_151 : decode cX10_meets 151 = .ok (.lmul, 1) := by decide +kernel
theorem dX10_meets_152 : decode cX10_meets 152 = .ok (.putfield 382, 3) := by decide +kernel
theorem dX10_meets_155 : decode cX10_meets 155 = .ok (.aload_n 0, 1) := by decide +kernel
theorem dX10_meets_156 : decode cX10_meets 156 = .ok (.dup, 1) := by decide +kernel
theorem dX10_meets_157 : decode cX10_meets 157 = .ok (.getfield 379, 3) := by decide +kernel
theorem dX10_meets_160 : decode cX10_meets 160 = .ok (.aload_n 0, 1) := by decide +kernel
theorem dX10_meets_161 : decode cX10_meets 161 = .ok (.getfield 382, 3) := by decide +kernel
theorem dX10_meets_164 : decode cX10_meets 164 = .ok (.lrem, 1) := by decide +kernel
theorem dX10_meets_165 : decode cX10_meets 165 = .ok (.putfield 379, 3) := by decide +kernel
theorem dX10_meets_168 : decode cX10_meets 168 = .ok (.aload_n 0, 1) := by decide +kernel
theorem dX10_meets_169 : decode cX10_meets 169 = .ok (.getfield 32, 3) := by decide +kernel
theorem dX10_meets_172 : decode cX10_meets 172 = .ok (.iload 4, 2) := by decide +kernel
theorem dX10_meets_174 : decode cX10_meets 174 = .ok (.iaload, 1) := by decide +kernel
theorem dX10_meets_175 : decode cX10_meets 175 = .ok (.i2l, 1) := by decide +kernel
theorem dX10_meets_176 : decode cX10_meets 176 = .ok (.lload_n 2, 1) := by decide +kernel
theorem dX10_meets_177 : decode cX10_meets 177 = .ok (.lcmp, 1) := by decide +kernel
theorem dX10_meets_178 : decode cX10_meets 178 = .ok (.ifCond .le 14, 3) := by decide +kernel
theorem dX10_meets_181 : decode cX10_meets 181 = .ok (.aload_n 0, 1) := by decide +kernel
theorem dX10_meets_182 : decode cX10_meets 182 = .ok (.getfield 32, 3) := by decide +kernel
theorem dX10_meets_185 : decode cX10_meets 185 = .ok (.iload 4, 2) := by decide +kernel
theorem dX10_meets_187 : decode cX10_meets 187 = .ok (.iaload, 1) := by decide +kernel
theorem dX10_meets_188 : decode cX10_meets 188 = .ok (.i2l, 1) := by decide +kernel
theorem dX10_meets_189 : decode cX10_meets 189 = .ok (.goto 4, 3) := by decide +kernel
theorem dX10_meets_192 : decode cX10_meets 192 = .ok (.lload_n 2, 1) := by decide +kernel
theorem dX10_meets_193 : decode cX10_meets 193 = .ok (.lstore_n 2, 1) := by decide +kernel
theorem dX10_meets_194 : decode cX10_meets 194 = .ok (.iinc 4 1, 3) := by decide +kernel
theorem dX10_meets_197 : decode cX10_meets 197 = .ok (.goto (-182), 3) := by decide +kernel
theorem dX10_meets_200 : decode cX10_meets 200 = .ok (.aload_n 0, 1) := by decide +kernel
theorem dX10_meets_201 : decode cX10_meets 201 = .ok (.getfield 379, 3) := by decide +kernel
theorem dX10_meets_204 : decode cX10_meets 204 = .ok (.lload_n 2, 1) := by decide +kernel
theorem dX10_meets_205 : decode cX10_meets 205 = .ok (.lcmp, 1) := by decide +kernel
theorem dX10_meets_206 : decode cX10_meets 206 = .ok (.ifCond .ge 19, 3) := by decide +kernel
theorem dX10_meets_209 : decode cX10_meets 209 = .ok (.aload_n 0, 1) := by decide +kernel
theorem dX10_meets_210 : decode cX10_meets 210 = .ok (.dup, 1) := by decide +kernel
theorem dX10_meets_211 : decode cX10_meets 211 = .ok (.getfield 379, 3) := by decide +kernel
theorem dX10_meets_214 : decode cX10_meets 214 = .ok (.aload_n 0, 1) := by decide +kernel
theorem dX10_meets_215 : decode cX10_meets 215 = .ok (.getfield 382, 3) := by decide +kernel
theorem dX10_meets_218 : decode cX10_meets 218 = .ok (.ladd, 1) := by decide +kernel
theorem dX10_meets_219 : decode cX10_meets 219 = .ok (.putfield 379, 3) := by decide +kernel
theorem dX10_meets_222 : decode cX10_meets 222 = .ok (.goto (-22), 3) := by decide +kernel
theorem dX10_meets_225 : decode cX10_meets 225 = .ok (.iconst 1, 1) := by decide +kernel
theorem dX10_meets_226 : decode cX10_meets 226 = .ok (.ireturn, 1) := by decide +kernel
theorem dX10_common_0 : decode cX10_common 0 = .ok (.lload_n 0, 1) := by decide +kernel
theorem dX10_common_1 : decode cX10_common 1 = .ok (.lstore 4, 2) := by decide +kernel
theorem dX10_common_3 : decode cX10_common 3 = .ok (.lload_n 2, 1) := by decide +kernel
theorem dX10_common_4 : decode cX10_common 4 = .ok (.lstore 6, 2) := by decide +kernel
theorem dX10_common_6 : decode cX10_common 6 = .ok (.lload 6, 2) := by decide +kernel
theorem dX10_common_8 : decode cX10_common 8 = .ok (.lconst 0, 1) := by decide +kernel
theorem dX10_common_9 : decode cX10_common 9 = .ok (.lcmp, 1) := by decide +kernel
theorem dX10_common_10 : decode cX10_common 10 = .ok (.ifCond .eq 21, 3) := by decide +kernel
theorem dX10_common_13 : decode cX10_common 13 = .ok (.lload 4, 2) := by decide +kernel
theorem dX10_common_15 : decode cX10_common 15 = .ok (.lload 6, 2) := by decide +kernel
theorem dX10_common_17 : decode cX10_common 17 = .ok (.lrem, 1) := by decide +kernel
theorem dX10_common_18 : decode cX10_common 18 = .ok (.lstore 8, 2) := by decide +kernel
theorem dX10_common_20 : decode cX10_common 20 = .ok (.lload 6, 2) := by decide +kernel
theorem dX10_common_22 : decode cX10_common 22 = .ok (.lstore 4, 2) := by decide +kernel
theorem dX10_common_24 : decode cX10_common 24 = .ok (.lload 8, 2) := by decide +kernel
theorem dX10_common_26 : decode cX10_common 26 = .ok (.lstore 6, 2) := by decide +kernel
theorem dX10_common_28 : decode cX10_common 28 = .ok (.goto (-22), 3) := by decide +kernel
theorem dX10_common_31 : decode cX10_common 31 = .ok (.lload 4, 2) := by decide +kernel
theorem dX10_common_33 : decode cX10_common 33 = .ok (.lreturn, 1) := by decide +kernel
theorem dX10_meet_0 : decode cX10_meet 0 = .ok (.iload_n 1, 1) := by decide +kernel
theorem dX10_meet_1 : decode cX10_meet 1 = .ok (.i2l, 1) := by decide +kernel
theorem dX10_meet_2 : decode cX10_meet 2 = .ok (.lconst 0, 1) := by decide +kernel
theorem dX10_meet_3 : decode cX10_meet 3 = .ok (.aload_n 0, 1) := by decide +kernel
theorem dX10_meet_4 : decode cX10_meet 4 = .ok (.invokevirtual 389, 3) := by decide +kernel
theorem dX10_meet_7 : decode cX10_meet 7 = .ok (.i2l, 1) := by decide +kernel
theorem dX10_meet_8 : decode cX10_meet 8 = .ok (.invokestatic 76, 3) := by decide +kernel
theorem dX10_meet_11 : decode cX10_meet 11 = .ok (.ifCond .eq 18, 3) := by decide +kernel
theorem dX10_meet_14 : decode cX10_meet 14 = .ok (.aload_n 0, 1) := by decide +kernel
theorem dX10_meet_15 : decode cX10_meet 15 = .ok (.iload_n 1, 1) := by decide +kernel
theorem dX10_meet_16 : decode cX10_meet 16 = .ok (.invokevirtual 392, 3) := by decide +kernel
theorem dX10_meet_19 : decode cX10_meet 19 = .ok (.ifCond .eq 10, 3) := by decide +kernel
theorem dX10_meet_22 : decode cX10_meet 22 = .ok (.aload_n 0, 1) := by decide +kernel
theorem dX10_meet_23 : decode cX10_meet 23 = .ok (.getfield 379, 3) := by decide +kernel
theorem dX10_meet_26 : decode cX10_meet 26 = .ok (.goto 6, 3) := by decide +kernel
theorem dX10_meet_29 : decode cX10_meet 29 = .ok (.ldc2_w 395, 3) := by decide +kernel
theorem dX10_meet_32 : decode cX10_meet 32 = .ok (.lreturn, 1) := by decide +kernel
theorem dX10_every_0 : decode cX10_every 0 = .ok (.iload_n 1, 1) := by decide +kernel
theorem dX10_every_1 : decode cX10_every 1 = .ok (.i2l, 1) := by decide +kernel
theorem dX10_every_2 : decode cX10_every 2 = .ok (.lconst 0, 1) := by decide +kernel
theorem dX10_every_3 : decode cX10_every 3 = .ok (.aload_n 0, 1) := by decide +kernel
theorem dX10_every_4 : decode cX10_every 4 = .ok (.invokevirtual 389, 3) := by decide +kernel
theorem dX10_every_7 : decode cX10_every 7 = .ok (.i2l, 1) := by decide +kernel
theorem dX10_every_8 : decode cX10_every 8 = .ok (.invokestatic 76, 3) := by decide +kernel
theorem dX10_every_11 : decode cX10_every 11 = .ok (.ifCond .eq 18, 3) := by decide +kernel
theorem dX10_every_14 : decode cX10_every 14 = .ok (.aload_n 0, 1) := by decide +kernel
theorem dX10_every_15 : decode cX10_every 15 = .ok (.iload_n 1, 1) := by decide +kernel
theorem dX10_every_16 : decode cX10_every 16 = .ok (.invokevirtual 392, 3) := by decide +kernel
theorem dX10_every_19 : decode cX10_every 19 = .ok (.ifCond .eq 10, 3) := by decide +kernel
theorem dX10_every_22 : decode cX10_every 22 = .ok (.aload_n 0, 1) := by decide +kernel
theorem dX10_every_23 : decode cX10_every 23 = .ok (.getfield 382, 3) := by decide +kernel
theorem dX10_every_26 : decode cX10_every 26 = .ok (.goto 6, 3) := by decide +kernel
theorem dX10_every_29 : decode cX10_every 29 = .ok (.ldc2_w 395, 3) := by decide +kernel
theorem dX10_every_32 : decode cX10_every 32 = .ok (.lreturn, 1) := by decide +kernel
theorem dX10_why_0 : decode cX10_why 0 = .ok (.iload_n 1, 1) := by decide +kernel
theorem dX10_why_1 : decode cX10_why 1 = .ok (.i2l, 1) := by decide +kernel
theorem dX10_why_2 : decode cX10_why 2 = .ok (.lconst 0, 1) := by decide +kernel
theorem dX10_why_3 : decode cX10_why 3 = .ok (.aload_n 0, 1) := by decide +kernel
theorem dX10_why_4 : decode cX10_why 4 = .ok (.invokevirtual 389, 3) := by decide +kernel
theorem dX10_why_7 : decode cX10_why 7 = .ok (.i2l, 1) := by decide +kernel
theorem dX10_why_8 : decode cX10_why 8 = .ok (.invokestatic 76, 3) := by decide +kernel
theorem dX10_why_11 : decode cX10_why 11 = .ok (.ifCond .ne 6, 3) := by decide +kernel
theorem dX10_why_14 : decode cX10_why 14 = .ok (.bipush (-2), 2) := by decide +kernel
theorem dX10_why_16 : decode cX10_why 16 = .ok (.ireturn, 1) := by decide +kernel
theorem dX10_why_17 : decode cX10_why 17 = .ok (.iconst 0, 1) := by decide +kernel
theorem dX10_why_18 : decode cX10_why 18 = .ok (.istore_n 2, 1) := by decide +kernel
theorem dX10_why_19 : decode cX10_why 19 = .ok (.iload_n 2, 1) := by decide +kernel
theorem dX10_why_20 : decode cX10_why 20 = .ok (.aload_n 0, 1) := by decide +kernel
theorem dX10_why_21 : decode cX10_why 21 = .ok (.getfield 73, 3) := by decide +kernel
theorem dX10_why_24 : decode cX10_why 24 = .ok (.if_icmp .ge 61, 3) := by decide +kernel
theorem dX10_why_27 : decode cX10_why 27 = .ok (.iload_n 2, 1) := by decide +kernel
theorem dX10_why_28 : decode cX10_why 28 = .ok (.iconst 1, 1) := by decide +kernel
theorem dX10_why_29 : decode cX10_why 29 = .ok (.iadd, 1) := by decide +kernel
theorem dX10_why_30 : decode cX10_why 30 = .ok (.istore_n 3, 1) := by decide +kernel
theorem dX10_why_31 : decode cX10_why 31 = .ok (.iload_n 3, 1) := by decide +kernel
theorem dX10_why_32 : decode cX10_why 32 = .ok (.aload_n 0, 1) := by decide +kernel
theorem dX10_why_33 : decode cX10_why 33 = .ok (.getfield 73, 3) := by decide +kernel
theorem dX10_why_36 : decode cX10_why 36 = .ok (.if_icmp .ge 43, 3) := by decide +kernel
theorem dX10_why_39 : decode cX10_why 39 = .ok (.iconst 1, 1) := by decide +kernel
theorem dX10_why_40 : decode cX10_why 40 = .ok (.iload_n 2, 1) := by decide +kernel
theorem dX10_why_41 : decode cX10_why 41 = .ok (.ishl, 1) := by decide +kernel
theorem dX10_why_42 : decode cX10_why 42 = .ok (.iconst 1, 1) := by decide +kernel
theorem dX10_why_43 : decode cX10_why 43 = .ok (.iload_n 3, 1) := by decide +kernel
theorem dX10_why_44 : decode cX10_why 44 = .ok (.ishl, 1) := by decide +kernel
theorem dX10_why_45 : decode cX10_why 45 = .ok (.ior, 1) := by decide +kernel
theorem dX10_why_46 : decode cX10_why 46 = .ok (.istore 4, 2) := by decide +kernel
theorem dX10_why_48 : decode cX10_why 48 = .ok (.iload_n 1, 1) := by decide +kernel
theorem dX10_why_49 : decode cX10_why 49 = .ok (.iload 4, 2) := by decide +kernel
theorem dX10_why_51 : decode cX10_why 51 = .ok (.iand, 1) := by decide +kernel
theorem dX10_why_52 : decode cX10_why 52 = .ok (.iload 4, 2) := by decide +kernel
theorem dX10_why_54 : decode cX10_why 54 = .ok (.if_icmp .ne 19, 3) := by decide +kernel
theorem dX10_why_57 : decode cX10_why 57 = .ok (.aload_n 0, 1) := by decide +kernel
theorem dX10_why_58 : decode cX10_why 58 = .ok (.iload 4, 2) := by decide +kernel
theorem dX10_why_60 : decode cX10_why 60 = .ok (.invokevirtual 392, 3) := by decide +kernel
theorem dX10_why_63 : decode cX10_why 63 = .ok (.ifCond .ne 10, 3) := by decide +kernel
theorem dX10_why_66 : decode cX10_why 66 = .ok (.bipush 10, 2) := by decide +kernel
theorem dX10_why_68 : decode cX10_why 68 = .ok (.iload_n 2, 1) := by decide +kernel
theorem dX10_why_69 : decode cX10_why 69 = .ok (.imul, 1) := by decide +kernel
theorem dX10_why_70 : decode cX10_why 70 = .ok (.iload_n 3, 1) := by decide +kernel
theorem dX10_why_71 : decode cX10_why 71 = .ok (.iadd, 1) := by decide +kernel
theorem dX10_why_72 : decode cX10_why 72 = .ok (.ireturn, 1) := by decide +kernel
theorem dX10_why_73 : decode cX10_why 73 = .ok (.iinc 3 1, 3) := by decide +kernel
theorem dX10_why_76 : decode cX10_why 76 = .ok (.goto (-45), 3) := by decide +kernel
theorem dX10_why_79 : decode cX10_why 79 = .ok (.iinc 2 1, 3) := by decide +kernel
theorem dX10_why_82 : decode cX10_why 82 = .ok (.goto (-63), 3) := by decide +kernel
theorem dX10_why_85 : decode cX10_why 85 = .ok (.iconst (-1), 1) := by decide +kernel
theorem dX10_why_86 : decode cX10_why 86 = .ok (.ireturn, 1) := by decide +kernel
theorem dX10_full_0 : decode cX10_full 0 = .ok (.iload_n 1, 1) := by decide +kernel
theorem dX10_full_1 : decode cX10_full 1 = .ok (.i2l, 1) := by decide +kernel
theorem dX10_full_2 : decode cX10_full 2 = .ok (.lconst 0, 1) := by decide +kernel
theorem dX10_full_3 : decode cX10_full 3 = .ok (.lconst 1, 1) := by decide +kernel
theorem dX10_full_4 : decode cX10_full 4 = .ok (.invokestatic 76, 3) := by decide +kernel
theorem dX10_full_7 : decode cX10_full 7 = .ok (.ifCond .ne 7, 3) := by decide +kernel
theorem dX10_full_10 : decode cX10_full 10 = .ok (.ldc2_w 395, 3) := by decide +kernel
theorem dX10_full_13 : decode cX10_full 13 = .ok (.lreturn, 1) := by decide +kernel
theorem dX10_full_14 : decode cX10_full 14 = .ok (.lconst 0, 1) := by decide +kernel
theorem dX10_full_15 : decode cX10_full 15 = .ok (.lstore_n 2, 1) := by decide +kernel
theorem dX10_full_16 : decode cX10_full 16 = .ok (.lconst 1, 1) := by decide +kernel
theorem dX10_full_17 : decode cX10_full 17 = .ok (.lstore 4, 2) := by decide +kernel
theorem dX10_full_19 : decode cX10_full 19 = .ok (.iconst 0, 1) := by decide +kernel
theorem dX10_full_20 : decode cX10_full 20 = .ok (.istore 6, 2) := by decide +kernel
theorem dX10_full_22 : decode cX10_full 22 = .ok (.iload 6, 2) := by decide +kernel
theorem dX10_full_24 : decode cX10_full 24 = .ok (.aload_n 0, 1) := by decide +kernel
theorem dX10_full_25 : decode cX10_full 25 = .ok (.getfield 73, 3) := by decide +kernel
theorem dX10_full_28 : decode cX10_full 28 = .ok (.if_icmp .ge 56, 3) := by decide +kernel
theorem dX10_full_31 : decode cX10_full 31 = .ok (.lload_n 2, 1) := by decide +kernel
theorem dX10_full_32 : decode cX10_full 32 = .ok (.aload_n 0, 1) := by decide +kernel
theorem dX10_full_33 : decode cX10_full 33 = .ok (.getfield 29, 3) := by decide +kernel
theorem dX10_full_36 : decode cX10_full 36 = .ok (.iload 6, 2) := by decide +kernel
theorem dX10_full_38 : decode cX10_full 38 = .ok (.iaload, 1) := by decide +kernel
theorem dX10_full_39 : decode cX10_full 39 = .ok (.i2l, 1) := by decide +kernel
theorem dX10_full_40 : decode cX10_full 40 = .ok (.lmul, 1) := by decide +kernel
theorem dX10_full_41 : decode cX10_full 41 = .ok (.lload 4, 2) := by decide +kernel
theorem dX10_full_43 : decode cX10_full 43 = .ok (.ladd, 1) := by decide +kernel
theorem dX10_full_44 : decode cX10_full 44 = .ok (.lstore_n 2, 1) := by decide +kernel
theorem dX10_full_45 : decode cX10_full 45 = .ok (.lload 4, 2) := by decide +kernel
theorem dX10_full_47 : decode cX10_full 47 = .ok (.aload_n 0, 1) := by decide +kernel
theorem dX10_full_48 : decode cX10_full 48 = .ok (.getfield 29, 3) := by decide +kernel
theorem dX10_full_51 : decode cX10_full 51 = .ok (.iload 6, 2) := by decide +kernel
theorem dX10_full_53 : decode cX10_full 53 = .ok (.iaload, 1) := by decide +kernel
theorem dX10_full_54 : decode cX10_full 54 = .ok (.i2l, 1) := by decide +kernel
theorem dX10_full_55 : decode cX10_full 55 = .ok (.lmul, 1) := by decide +kernel
theorem dX10_full_56 : decode cX10_full 56 = .ok (.lstore 4, 2) := by decide +kernel
theorem dX10_full_58 : decode cX10_full 58 = .ok (.lload_n 2, 1) := by decide +kernel
theorem dX10_full_59 : decode cX10_full 59 = .ok (.lload 4, 2) := by decide +kernel
theorem dX10_full_61 : decode cX10_full 61 = .ok (.invokestatic 385, 3) := by decide +kernel
theorem dX10_full_64 : decode cX10_full 64 = .ok (.lstore 7, 2) := by decide +kernel
theorem dX10_full_66 : decode cX10_full 66 = .ok (.lload_n 2, 1) := by decide +kernel
theorem dX10_full_67 : decode cX10_full 67 = .ok (.lload 7, 2) := by decide +kernel
theorem dX10_full_69 : decode cX10_full 69 = .ok (.ldiv, 1) := by decide +kernel
theorem dX10_full_70 : decode cX10_full 70 = .ok (.lstore_n 2, 1) := by decide +kernel
theorem dX10_full_71 : decode cX10_full 71 = .ok (.lload 4, 2) := by decide +kernel
theorem dX10_full_73 : decode cX10_full 73 = .ok (.lload 7, 2) := by decide +kernel
theorem dX10_full_75 : decode cX10_full 75 = .ok (.ldiv, 1) := by decide +kernel
theorem dX10_full_76 : decode cX10_full 76 = .ok (.lstore 4, 2) := by decide +kernel
theorem dX10_full_78 : decode cX10_full 78 = .ok (.iinc 6 1, 3) := by decide +kernel
theorem dX10_full_81 : decode cX10_full 81 = .ok (.goto (-59), 3) := by decide +kernel
theorem dX10_full_84 : decode cX10_full 84 = .ok (.iload_n 1, 1) := by decide +kernel
theorem dX10_full_85 : decode cX10_full 85 = .ok (.ifCond .ne 7, 3) := by decide +kernel
theorem dX10_full_88 : decode cX10_full 88 = .ok (.lload_n 2, 1) := by decide +kernel
theorem dX10_full_89 : decode cX10_full 89 = .ok (.goto 5, 3) := by decide +kernel
theorem dX10_full_92 : decode cX10_full 92 = .ok (.lload 4, 2) := by decide +kernel
theorem dX10_full_94 : decode cX10_full 94 = .ok (.lreturn, 1) := by decide +kernel
theorem dX10_meetsNone_0 : decode cX10_meetsNone 0 = .ok (.iconst 0, 1) := by decide +kernel
theorem dX10_meetsNone_1 : decode cX10_meetsNone 1 = .ok (.istore_n 2, 1) := by decide +kernel
theorem dX10_meetsNone_2 : decode cX10_meetsNone 2 = .ok (.iload_n 2, 1) := by decide +kernel
theorem dX10_meetsNone_3 : decode cX10_meetsNone 3 = .ok (.sipush 400, 3) := by decide +kernel
theorem dX10_meetsNone_6 : decode cX10_meetsNone 6 = .ok (.if_icmp .ge 50, 3) := by decide +kernel
theorem dX10_meetsNone_9 : decode cX10_meetsNone 9 = .ok (.aload_n 0, 1) := by decide +kernel
theorem dX10_meetsNone_10 : decode cX10_meetsNone 10 = .ok (.iload_n 1, 1) := by decide +kernel
theorem dX10_meetsNone_11 : decode cX10_meetsNone 11 = .ok (.iload_n 2, 1) := by decide +kernel
theorem dX10_meetsNone_12 : decode cX10_meetsNone 12 = .ok (.invokevirtual 336, 3) := by decide +kernel
theorem dX10_meetsNone_15 : decode cX10_meetsNone 15 = .ok (.ifCond .eq 35, 3) := by decide +kernel
theorem dX10_meetsNone_18 : decode cX10_meetsNone 18 = .ok (.iconst 0, 1) := by decide +kernel
theorem dX10_meetsNone_19 : decode cX10_meetsNone 19 = .ok (.istore_n 3, 1) := by decide +kernel
theorem dX10_meetsNone_20 : decode cX10_meetsNone 20 = .ok (.iload_n 3, 1) := by decide +kernel
theorem dX10_meetsNone_21 : decode cX10_meetsNone 21 = .ok (.aload_n 0, 1) := by decide +kernel
theorem dX10_meetsNone_22 : decode cX10_meetsNone 22 = .ok (.getfield 73, 3) := by decide +kernel
theorem dX10_meetsNone_25 : decode cX10_meetsNone 25 = .ok (.if_icmp .ge 25, 3) := by decide +kernel
theorem dX10_meetsNone_28 : decode cX10_meetsNone 28 = .ok (.iload_n 3, 1) := by decide +kernel
theorem dX10_meetsNone_29 : decode cX10_meetsNone 29 = .ok (.iload_n 1, 1) := by decide +kernel
theorem dX10_meetsNone_30 : decode cX10_meetsNone 30 = .ok (.if_icmp .eq 14, 3) := by decide +kernel
theorem dX10_meetsNone_33 : decode cX10_meetsNone 33 = .ok (.aload_n 0, 1) := by decide +kernel
theorem dX10_meetsNone_34 : decode cX10_meetsNone 34 = .ok (.iload_n 3, 1) := by decide +kernel
theorem dX10_meetsNone_35 : decode cX10_meetsNone 35 = .ok (.iload_n 2, 1) := by decide +kernel
theorem dX10_meetsNone_36 : decode cX10_meetsNone 36 = .ok (.invokevirtual 336, 3) := by decide +kernel
theorem dX10_meetsNone_39 : decode cX10_meetsNone 39 = .ok (.ifCond .eq 5, 3) := by decide +kernel
theorem dX10_meetsNone_42 : decode cX10_meetsNone 42 = .ok (.iconst 0, 1) := by decide +kernel
theorem dX10_meetsNone_43 : decode cX10_meetsNone 43 = .ok (.ireturn, 1) := by decide +kernel
theorem dX10_meetsNone_44 : decode cX10_meetsNone 44 = .ok (.iinc 3 1, 3) := by decide +kernel
theorem dX10_meetsNone_47 : decode cX10_meetsNone 47 = .ok (.goto (-27), 3) := by decide +kernel
theorem dX10_meetsNone_50 : decode cX10_meetsNone 50 = .ok (.iinc 2 1, 3) := by decide +kernel
theorem dX10_meetsNone_53 : decode cX10_meetsNone 53 = .ok (.goto (-51), 3) := by decide +kernel
theorem dX10_meetsNone_56 : decode cX10_meetsNone 56 = .ok (.iconst 1, 1) := by decide +kernel
theorem dX10_meetsNone_57 : decode cX10_meetsNone 57 = .ok (.ireturn, 1) := by decide +kernel
theorem dX10_shift_0 : decode cX10_shift 0 = .ok (.aload_n 0, 1) := by decide +kernel
theorem dX10_shift_1 : decode cX10_shift 1 = .ok (.iload_n 1, 1) := by decide +kernel
theorem dX10_shift_2 : decode cX10_shift 2 = .ok (.invokevirtual 84, 3) := by decide +kernel
theorem dX10_shift_5 : decode cX10_shift 5 = .ok (.ifCond .ne 6, 3) := by decide +kernel
theorem dX10_shift_8 : decode cX10_shift 8 = .ok (.bipush (-2), 2) := by decide +kernel
theorem dX10_shift_10 : decode cX10_shift 10 = .ok (.ireturn, 1) := by decide +kernel
theorem dX10_shift_11 : decode cX10_shift 11 = .ok (.aload_n 0, 1) := by decide +kernel
theorem dX10_shift_12 : decode cX10_shift 12 = .ok (.getfield 32, 3) := by decide +kernel
theorem dX10_shift_15 : decode cX10_shift 15 = .ok (.iload_n 1, 1) := by decide +kernel
theorem dX10_shift_16 : decode cX10_shift 16 = .ok (.iaload, 1) := by decide +kernel
theorem dX10_shift_17 : decode cX10_shift 17 = .ok (.istore_n 2, 1) := by decide +kernel
theorem dX10_shift_18 : decode cX10_shift 18 = .ok (.iconst (-1), 1) := by decide +kernel
theorem dX10_shift_19 : decode cX10_shift 19 = .ok (.istore_n 3, 1) := by decide +kernel
theorem dX10_shift_20 : decode cX10_shift 20 = .ok (.iconst 0, 1) := by decide +kernel
theorem dX10_shift_21 : decode cX10_shift 21 = .ok (.istore 4, 2) := by decide +kernel
theorem dX10_shift_23 : decode cX10_shift 23 = .ok (.iload 4, 2) := by decide +kernel
theorem dX10_shift_25 : decode cX10_shift 25 = .ok (.bipush 60, 2) := by decide +kernel
theorem dX10_shift_27 : decode cX10_shift 27 = .ok (.if_icmp .ge 42, 3) := by decide +kernel
theorem dX10_shift_30 : decode cX10_shift 30 = .ok (.iload_n 3, 1) := by decide +kernel
theorem dX10_shift_31 : decode cX10_shift 31 = .ok (.iconst (-1), 1) := by decide +kernel
theorem dX10_shift_32 : decode cX10_shift 32 = .ok (.if_icmp .ne 37, 3) := by decide +kernel
theorem dX10_shift_35 : decode cX10_shift 35 = .ok (.aload_n 0, 1) := by decide +kernel
theorem dX10_shift_36 : decode cX10_shift 36 = .ok (.getfield 32, 3) := by decide +kernel
theorem dX10_shift_39 : decode cX10_shift 39 = .ok (.iload_n 1, 1) := by decide +kernel
theorem dX10_shift_40 : decode cX10_shift 40 = .ok (.iload_n 2, 1) := by decide +kernel
theorem dX10_shift_41 : decode cX10_shift 41 = .ok (.iload 4, 2) := by decide +kernel
theorem dX10_shift_43 : decode cX10_shift 43 = .ok (.iadd, 1) := by decide +kernel
theorem dX10_shift_44 : decode cX10_shift 44 = .ok (.bipush 60, 2) := by decide +kernel
theorem dX10_shift_46 : decode cX10_shift 46 = .ok (.irem, 1) := by decide +kernel
theorem dX10_shift_47 : decode cX10_shift 47 = .ok (.iastore, 1) := by decide +kernel
theorem dX10_shift_48 : decode cX10_shift 48 = .ok (.aload_n 0, 1) := by decide +kernel
theorem dX10_shift_49 : decode cX10_shift 49 = .ok (.iload_n 1, 1) := by decide +kernel
theorem dX10_shift_50 : decode cX10_shift 50 = .ok (.invokevirtual 397, 3) := by decide +kernel
theorem dX10_shift_53 : decode cX10_shift 53 = .ok (.ifCond .eq 8, 3) := by decide +kernel
theorem dX10_shift_56 : decode cX10_shift 56 = .ok (.iload 4, 2) := by decide +kernel
theorem dX10_shift_58 : decode cX10_shift 58 = .ok (.goto 4, 3) := by decide +kernel
theorem dX10_shift_61 : decode cX10_shift 61 = .ok (.iconst (-1), 1) := by decide +kernel
theorem dX10_shift_62 : decode cX10_shift 62 = .ok (.istore_n 3, 1) := by decide +kernel
theorem dX10_shift_63 : decode cX10_shift 63 = .ok (.iinc 4 1, 3) := by decide +kernel
theorem dX10_shift_66 : decode cX10_shift 66 = .ok (.goto (-43), 3) := by decide +kernel
theorem dX10_shift_69 : decode cX10_shift 69 = .ok (.aload_n 0, 1) := by decide +kernel
theorem dX10_shift_70 : decode cX10_shift 70 = .ok (.getfield 32, 3) := by decide +kernel
theorem dX10_shift_73 : decode cX10_shift 73 = .ok (.iload_n 1, 1) := by decide +kernel
theorem dX10_shift_74 : decode cX10_shift 74 = .ok (.iload_n 2, 1) := by decide +kernel
theorem dX10_shift_75 : decode cX10_shift 75 = .ok (.iastore, 1) := by decide +kernel
theorem dX10_shift_76 : decode cX10_shift 76 = .ok (.iload_n 3, 1) := by decide +kernel
theorem dX10_shift_77 : decode cX10_shift 77 = .ok (.ireturn, 1) := by decide +kernel
theorem dX10_join_0 : decode cX10_join 0 = .ok (.aload_n 0, 1) := by decide +kernel
theorem dX10_join_1 : decode cX10_join 1 = .ok (.iload_n 1, 1) := by decide +kernel
theorem dX10_join_2 : decode cX10_join 2 = .ok (.invokevirtual 84, 3) := by decide +kernel
theorem dX10_join_5 : decode cX10_join 5 = .ok (.ifCond .eq 16, 3) := by decide +kernel
theorem dX10_join_8 : decode cX10_join 8 = .ok (.aload_n 0, 1) := by decide +kernel
theorem dX10_join_9 : decode cX10_join 9 = .ok (.iload_n 2, 1) := by decide +kernel
theorem dX10_join_10 : decode cX10_join 10 = .ok (.invokevirtual 84, 3) := by decide +kernel
theorem dX10_join_13 : decode cX10_join 13 = .ok (.ifCond .eq 8, 3) := by decide +kernel
theorem dX10_join_16 : decode cX10_join 16 = .ok (.iload_n 1, 1) := by decide +kernel
theorem dX10_join_17 : decode cX10_join 17 = .ok (.iload_n 2, 1) := by decide +kernel
theorem dX10_join_18 : decode cX10_join 18 = .ok (.if_icmp .ne 6, 3) := by decide +kernel
theorem dX10_join_21 : decode cX10_join 21 = .ok (.bipush (-2), 2) := by decide +kernel
theorem dX10_join_23 : decode cX10_join 23 = .ok (.ireturn, 1) := by decide +kernel
theorem dX10_join_24 : decode cX10_join 24 = .ok (.aload_n 0, 1) := by decide +kernel
theorem dX10_join_25 : decode cX10_join 25 = .ok (.getfield 32, 3) := by decide +kernel
theorem dX10_join_28 : decode cX10_join 28 = .ok (.iload_n 1, 1) := by decide +kernel
theorem dX10_join_29 : decode cX10_join 29 = .ok (.iaload, 1) := by decide +kernel
theorem dX10_join_30 : decode cX10_join 30 = .ok (.istore_n 3, 1) := by decide +kernel
theorem dX10_join_31 : decode cX10_join 31 = .ok (.iconst (-1), 1) := by decide +kernel
theorem dX10_join_32 : decode cX10_join 32 = .ok (.istore 4, 2) := by decide +kernel
theorem dX10_join_34 : decode cX10_join 34 = .ok (.iconst 0, 1) := by decide +kernel
theorem dX10_join_35 : decode cX10_join 35 = .ok (.istore 5, 2) := by decide +kernel
theorem dX10_join_37 : decode cX10_join 37 = .ok (.iload 5, 2) := by decide +kernel
theorem dX10_join_39 : decode cX10_join 39 = .ok (.bipush 60, 2) := by decide +kernel
theorem dX10_join_41 : decode cX10_join 41 = .ok (.if_icmp .ge 50, 3) := by decide +kernel
theorem dX10_join_44 : decode cX10_join 44 = .ok (.iload 4, 2) := by decide +kernel
theorem dX10_join_46 : decode cX10_join 46 = .ok (.iconst (-1), 1) := by decide +kernel
theorem dX10_join_47 : decode cX10_join 47 = .ok (.if_icmp .ne 44, 3) := by decide +kernel
theorem dX10_join_50 : decode cX10_join 50 = .ok (.aload_n 0, 1) := by decide +kernel
theorem dX10_join_51 : decode cX10_join 51 = .ok (.getfield 32, 3) := by decide +kernel
theorem dX10_join_54 : decode cX10_join 54 = .ok (.iload_n 1, 1) := by decide +kernel
theorem dX10_join_55 : decode cX10_join 55 = .ok (.iload_n 3, 1) := by decide +kernel
theorem dX10_join_56 : decode cX10_join 56 = .ok (.iload 5, 2) := by decide +kernel
theorem dX10_join_58 : decode cX10_join 58 = .ok (.iadd, 1) := by decide +kernel
theorem dX10_join_59 : decode cX10_join 59 = .ok (.bipush 60, 2) := by decide +kernel
theorem dX10_join_61 : decode cX10_join 61 = .ok (.irem, 1) := by decide +kernel
theorem dX10_join_62 : decode cX10_join 62 = .ok (.iastore, 1) := by decide +kernel
theorem dX10_join_63 : decode cX10_join 63 = .ok (.aload_n 0, 1) := by decide +kernel
theorem dX10_join_64 : decode cX10_join 64 = .ok (.iconst 1, 1) := by decide +kernel
theorem dX10_join_65 : decode cX10_join 65 = .ok (.iload_n 1, 1) := by decide +kernel
theorem dX10_join_66 : decode cX10_join 66 = .ok (.ishl, 1) := by decide +kernel
theorem dX10_join_67 : decode cX10_join 67 = .ok (.iconst 1, 1) := by decide +kernel
theorem dX10_join_68 : decode cX10_join 68 = .ok (.iload_n 2, 1) := by decide +kernel
theorem dX10_join_69 : decode cX10_join 69 = .ok (.ishl, 1) := by decide +kernel
theorem dX10_join_70 : decode cX10_join 70 = .ok (.ior, 1) := by decide +kernel
theorem dX10_join_71 : decode cX10_join 71 = .ok (.invokevirtual 392, 3) := by decide +kernel
theorem dX10_join_74 : decode cX10_join 74 = .ok (.ifCond .eq 8, 3) := by decide +kernel
theorem dX10_join_77 : decode cX10_join 77 = .ok (.iload 5, 2) := by decide +kernel
theorem dX10_join_79 : decode cX10_join 79 = .ok (.goto 4, 3) := by decide +kernel
theorem dX10_join_82 : decode cX10_join 82 = .ok (.iconst (-1), 1) := by decide +kernel
theorem dX10_join_83 : decode cX10_join 83 = .ok (.istore 4, 2) := by decide +kernel
theorem dX10_join_85 : decode cX10_join 85 = .ok (.iinc 5 1, 3) := by decide +kernel
theorem dX10_join_88 : decode cX10_join 88 = .ok (.goto (-51), 3) := by decide +kernel
theorem dX10_join_91 : decode cX10_join 91 = .ok (.aload_n 0, 1) := by decide +kernel
theorem dX10_join_92 : decode cX10_join 92 = .ok (.getfield 32, 3) := by decide +kernel
theorem dX10_join_95 : decode cX10_join 95 = .ok (.iload_n 1, 1) := by decide +kernel
theorem dX10_join_96 : decode cX10_join 96 = .ok (.iload_n 3, 1) := by decide +kernel
theorem dX10_join_97 : decode cX10_join 97 = .ok (.iastore, 1) := by decide +kernel
theorem dX10_join_98 : decode cX10_join 98 = .ok (.iload 4, 2) := by decide +kernel
theorem dX10_join_100 : decode cX10_join 100 = .ok (.ireturn, 1) := by decide +kernel
theorem dX10_goodShift_0 : decode cX10_goodShift 0 = .ok (.aload_n 0, 1) := by decide +kernel
theorem dX10_goodShift_1 : decode cX10_goodShift 1 = .ok (.iload_n 1, 1) := by decide +kernel
theorem dX10_goodShift_2 : decode cX10_goodShift 2 = .ok (.invokevirtual 84, 3) := by decide +kernel
theorem dX10_goodShift_5 : decode cX10_goodShift 5 = .ok (.ifCond .eq 13, 3) := by decide +kernel
theorem dX10_goodShift_8 : decode cX10_goodShift 8 = .ok (.iload_n 2, 1) := by decide +kernel
theorem dX10_goodShift_9 : decode cX10_goodShift 9 = .ok (.i2l, 1) := by decide +kernel
theorem dX10_goodShift_10 : decode cX10_goodShift 10 = .ok (.lconst 0, 1) := by decide +kernel
theorem dX10_goodShift_11 : decode cX10_goodShift 11 = .ok (.lconst 1, 1) := by decide +kernel
theorem dX10_goodShift_12 : decode cX10_goodShift 12 = .ok (.invokestatic 76, 3) := by decide +kernel
theorem dX10_goodShift_15 : decode cX10_goodShift 15 = .ok (.ifCond .ne 6, 3) := by decide +kernel
theorem dX10_goodShift_18 : decode cX10_goodShift 18 = .ok (.bipush (-2), 2) := by decide +kernel
theorem dX10_goodShift_20 : decode cX10_goodShift 20 = .ok (.ireturn, 1) := by decide +kernel
theorem dX10_goodShift_21 : decode cX10_goodShift 21 = .ok (.aload_n 0, 1) := by decide +kernel
theorem dX10_goodShift_22 : decode cX10_goodShift 22 = .ok (.getfield 32, 3) := by decide +kernel
theorem dX10_goodShift_25 : decode cX10_goodShift 25 = .ok (.iload_n 1, 1) := by decide +kernel
theorem dX10_goodShift_26 : decode cX10_goodShift 26 = .ok (.iaload, 1) := by decide +kernel
theorem dX10_goodShift_27 : decode cX10_goodShift 27 = .ok (.istore_n 3, 1) := by decide +kernel
theorem dX10_goodShift_28 : decode cX10_goodShift 28 = .ok (.iconst (-1), 1) := by decide +kernel
theorem dX10_goodShift_29 : decode cX10_goodShift 29 = .ok (.istore 4, 2) := by decide +kernel
theorem dX10_goodShift_31 : decode cX10_goodShift 31 = .ok (.iconst 0, 1) := by decide +kernel
theorem dX10_goodShift_32 : decode cX10_goodShift 32 = .ok (.istore 5, 2) := by decide +kernel
theorem dX10_goodShift_34 : decode cX10_goodShift 34 = .ok (.iconst 0, 1) := by decide +kernel
theorem dX10_goodShift_35 : decode cX10_goodShift 35 = .ok (.istore 6, 2) := by decide +kernel
theorem dX10_goodShift_37 : decode cX10_goodShift 37 = .ok (.iload 6, 2) := by decide +kernel
theorem dX10_goodShift_39 : decode cX10_goodShift 39 = .ok (.bipush 60, 2) := by decide +kernel
theorem dX10_goodShift_41 : decode cX10_goodShift 41 = .ok (.if_icmp .ge 60, 3) := by decide +kernel
theorem dX10_goodShift_44 : decode cX10_goodShift 44 = .ok (.aload_n 0, 1) := by decide +kernel
theorem dX10_goodShift_45 : decode cX10_goodShift 45 = .ok (.getfield 32, 3) := by decide +kernel
theorem dX10_goodShift_48 : decode cX10_goodShift 48 = .ok (.iload_n 1, 1) := by decide +kernel
theorem dX10_goodShift_49 : decode cX10_goodShift 49 = .ok (.iload_n 3, 1) := by decide +kernel
theorem dX10_goodShift_50 : decode cX10_goodShift 50 = .ok (.iload 6, 2) := by decide +kernel
theorem dX10_goodShift_52 : decode cX10_goodShift 52 = .ok (.iadd, 1) := by decide +kernel
theorem dX10_goodShift_53 : decode cX10_goodShift 53 = .ok (.bipush 60, 2) := by decide +kernel
theorem dX10_goodShift_55 : decode cX10_goodShift 55 = .ok (.irem, 1) := by decide +kernel
theorem dX10_goodShift_56 : decode cX10_goodShift 56 = .ok (.iastore, 1) := by decide +kernel
theorem dX10_goodShift_57 : decode cX10_goodShift 57 = .ok (.aload_n 0, 1) := by decide +kernel
theorem dX10_goodShift_58 : decode cX10_goodShift 58 = .ok (.invokevirtual 367, 3) := by decide +kernel
theorem dX10_goodShift_61 : decode cX10_goodShift 61 = .ok (.aload_n 0, 1) := by decide +kernel
theorem dX10_goodShift_62 : decode cX10_goodShift 62 = .ok (.iconst 2, 1) := by decide +kernel
theorem dX10_goodShift_63 : decode cX10_goodShift 63 = .ok (.iload_n 1, 1) := by decide +kernel
theorem dX10_goodShift_64 : decode cX10_goodShift 64 = .ok (.iconst 0, 1) := by decide +kernel
theorem dX10_goodShift_65 : decode cX10_goodShift 65 = .ok (.iconst 0, 1) := by decide +kernel
theorem dX10_goodShift_66 : decode cX10_goodShift 66 = .ok (.iload 6, 2) := by decide +kernel
theorem dX10_goodShift_68 : decode cX10_goodShift 68 = .ok (.invokevirtual 342, 3) := by decide +kernel
theorem dX10_goodShift_71 : decode cX10_goodShift 71 = .ok (.iadd, 1) := by decide +kernel
theorem dX10_goodShift_72 : decode cX10_goodShift 72 = .ok (.istore 7, 2) := by decide +kernel
theorem dX10_goodShift_74 : decode cX10_goodShift 74 = .ok (.iload 4, 2) := by decide +kernel
theorem dX10_goodShift_76 : decode cX10_goodShift 76 = .ok (.iconst (-1), 1) := by decide +kernel
theorem dX10_goodShift_77 : decode cX10_goodShift 77 = .ok (.if_icmp .eq 10, 3) := by decide +kernel
theorem dX10_goodShift_80 : decode cX10_goodShift 80 = .ok (.iload 7, 2) := by decide +kernel
theorem dX10_goodShift_82 : decode cX10_goodShift 82 = .ok (.iload 5, 2) := by decide +kernel
theorem dX10_goodShift_84 : decode cX10_goodShift 84 = .ok (.if_icmp .ge 11, 3) := by decide +kernel
theorem dX10_goodShift_87 : decode cX10_goodShift 87 = .ok (.iload 6, 2) := by decide +kernel
theorem dX10_goodShift_89 : decode cX10_goodShift 89 = .ok (.istore 4, 2) := by decide +kernel
theorem dX10_goodShift_91 : decode cX10_goodShift 91 = .ok (.iload 7, 2) := by decide +kernel
theorem dX10_goodShift_93 : decode cX10_goodShift 93 = .ok (.istore 5, 2) := by decide +kernel
theorem dX10_goodShift_95 : decode cX10_goodShift 95 = .ok (.iinc 6 1, 3) := by decide +kernel
theorem dX10_goodShift_98 : decode cX10_goodShift 98 = .ok (.goto (-61), 3) := by decide +kernel
theorem dX10_goodShift_101 : decode cX10_goodShift 101 = .ok (.aload_n 0, 1) := by decide +kernel
theorem dX10_goodShift_102 : decode cX10_goodShift 102 = .ok (.getfield 32, 3) := by decide +kernel
theorem dX10_goodShift_105 : decode cX10_goodShift 105 = .ok (.iload_n 1, 1) := by decide +kernel
theorem dX10_goodShift_106 : decode cX10_goodShift 106 = .ok (.iload_n 3, 1) := by decide +kernel
theorem dX10_goodShift_107 : decode cX10_goodShift 107 = .ok (.iastore, 1) := by decide +kernel
theorem dX10_goodShift_108 : decode cX10_goodShift 108 = .ok (.iload_n 2, 1) := by decide +kernel
theorem dX10_goodShift_109 : decode cX10_goodShift 109 = .ok (.ifCond .ne 8, 3) := by decide +kernel
theorem dX10_goodShift_112 : decode cX10_goodShift 112 = .ok (.iload 4, 2) := by decide +kernel
theorem dX10_goodShift_114 : decode cX10_goodShift 114 = .ok (.goto 5, 3) := by decide +kernel
theorem dX10_goodShift_117 : decode cX10_goodShift 117 = .ok (.iload 5, 2) := by decide +kernel
theorem dX10_goodShift_119 : decode cX10_goodShift 119 = .ok (.ireturn, 1) := by decide +kernel
theorem dX10_diaryBad_0 : decode cX10_diaryBad 0 = .ok (.aload_n 0, 1) := by decide +kernel
theorem dX10_diaryBad_1 : decode cX10_diaryBad 1 = .ok (.getfield 60, 3) := by decide +kernel
theorem dX10_diaryBad_4 : decode cX10_diaryBad 4 = .ok (.iload_n 1, 1) := by decide +kernel
theorem dX10_diaryBad_5 : decode cX10_diaryBad 5 = .ok (.iaload, 1) := by decide +kernel
theorem dX10_diaryBad_6 : decode cX10_diaryBad 6 = .ok (.istore_n 2, 1) := by decide +kernel
theorem dX10_diaryBad_7 : decode cX10_diaryBad 7 = .ok (.iload_n 2, 1) := by decide +kernel
theorem dX10_diaryBad_8 : decode cX10_diaryBad 8 = .ok (.i2l, 1) := by decide +kernel
theorem dX10_diaryBad_9 : decode cX10_diaryBad 9 = .ok (.lconst 1, 1) := by decide +kernel
theorem dX10_diaryBad_10 : decode cX10_diaryBad 10 = .ok (.ldc2_w 400, 3) := by decide +kernel
theorem dX10_diaryBad_13 : decode cX10_diaryBad 13 = .ok (.invokestatic 76, 3) := by decide +kernel
theorem dX10_diaryBad_16 : decode cX10_diaryBad 16 = .ok (.ifCond .ne 6, 3) := by decide +kernel
theorem dX10_diaryBad_19 : decode cX10_diaryBad 19 = .ok (.bipush (-2), 2) := by decide +kernel
theorem dX10_diaryBad_21 : decode cX10_diaryBad 21 = .ok (.ireturn, 1) := by decide +kernel
theorem dX10_diaryBad_22 : decode cX10_diaryBad 22 = .ok (.iconst 0, 1) := by decide +kernel
theorem dX10_diaryBad_23 : decode cX10_diaryBad 23 = .ok (.istore_n 3, 1) := by decide +kernel
theorem dX10_diaryBad_24 : decode cX10_diaryBad 24 = .ok (.iload_n 3, 1) := by decide +kernel
theorem dX10_diaryBad_25 : decode cX10_diaryBad 25 = .ok (.iload_n 2, 1) := by decide +kernel
theorem dX10_diaryBad_26 : decode cX10_diaryBad 26 = .ok (.if_icmp .ge 55, 3) := by decide +kernel
theorem dX10_diaryBad_29 : decode cX10_diaryBad 29 = .ok (.aload_n 0, 1) := by decide +kernel
theorem dX10_diaryBad_30 : decode cX10_diaryBad 30 = .ok (.getfield 63, 3) := by decide +kernel
theorem dX10_diaryBad_33 : decode cX10_diaryBad 33 = .ok (.bipush 40, 2) := by decide +kernel
theorem dX10_diaryBad_35 : decode cX10_diaryBad 35 = .ok (.iload_n 1, 1) := by decide +kernel
theorem dX10_diaryBad_36 : decode cX10_diaryBad 36 = .ok (.imul, 1) := by decide +kernel
theorem dX10_diaryBad_37 : decode cX10_diaryBad 37 = .ok (.iload_n 3, 1) := by decide +kernel
theorem dX10_diaryBad_38 : decode cX10_diaryBad 38 = .ok (.iadd, 1) := by decide +kernel
theorem dX10_diaryBad_39 : decode cX10_diaryBad 39 = .ok (.iaload, 1) := by decide +kernel
theorem dX10_diaryBad_40 : decode cX10_diaryBad 40 = .ok (.istore 4, 2) := by decide +kernel
theorem dX10_diaryBad_42 : decode cX10_diaryBad 42 = .ok (.iload 4, 2) := by decide +kernel
theorem dX10_diaryBad_44 : decode cX10_diaryBad 44 = .ok (.invokestatic 355, 3) := by decide +kernel
theorem dX10_diaryBad_47 : decode cX10_diaryBad 47 = .ok (.ifCond .eq 25, 3) := by decide +kernel
theorem dX10_diaryBad_50 : decode cX10_diaryBad 50 = .ok (.iload_n 3, 1) := by decide +kernel
theorem dX10_diaryBad_51 : decode cX10_diaryBad 51 = .ok (.ifCond .le 24, 3) := by decide +kernel
theorem dX10_diaryBad_54 : decode cX10_diaryBad 54 = .ok (.iload 4, 2) := by decide +kernel
theorem dX10_diaryBad_56 : decode cX10_diaryBad 56 = .ok (.aload_n 0, 1) := by decide +kernel
theorem dX10_diaryBad_57 : decode cX10_diaryBad 57 = .ok (.getfield 63, 3) := by decide +kernel
theorem dX10_diaryBad_60 : decode cX10_diaryBad 60 = .ok (.bipush 40, 2) := by decide +kernel
theorem dX10_diaryBad_62 : decode cX10_diaryBad 62 = .ok (.iload_n 1, 1) := by decide +kernel
theorem dX10_diaryBad_63 : decode cX10_diaryBad 63 = .ok (.imul, 1) := by decide +kernel
theorem dX10_diaryBad_64 : decode cX10_diaryBad 64 = .ok (.iload_n 3, 1) := by decide +kernel
theorem dX10_diaryBad_65 : decode cX10_diaryBad 65 = .ok (.iadd, 1) := by decide +kernel
theorem dX10_diaryBad_66 : decode cX10_diaryBad 66 = .ok (.iconst 1, 1) := by decide +kernel
theorem dX10_diaryBad_67 : decode cX10_diaryBad 67 = .ok (.isub, 1) := by decide +kernel
theorem dX10_diaryBad_68 : decode cX10_diaryBad 68 = .ok (.iaload, 1) := by decide +kernel
theorem dX10_diaryBad_69 : decode cX10_diaryBad 69 = .ok (.if_icmp .gt 6, 3) := by decide +kernel
theorem dX10_diaryBad_72 : decode cX10_diaryBad 72 = .ok (.bipush (-2), 2) := by decide +kernel
theorem dX10_diaryBad_74 : decode cX10_diaryBad 74 = .ok (.ireturn, 1) := by decide +kernel
theorem dX10_diaryBad_75 : decode cX10_diaryBad 75 = .ok (.iinc 3 1, 3) := by decide +kernel
theorem dX10_diaryBad_78 : decode cX10_diaryBad 78 = .ok (.goto (-54), 3) := by decide +kernel
theorem dX10_diaryBad_81 : decode cX10_diaryBad 81 = .ok (.iconst 0, 1) := by decide +kernel
theorem dX10_diaryBad_82 : decode cX10_diaryBad 82 = .ok (.ireturn, 1) := by decide +kernel
theorem dX10_isTold_0 : decode cX10_isTold 0 = .ok (.iconst 0, 1) := by decide +kernel
theorem dX10_isTold_1 : decode cX10_isTold 1 = .ok (.istore_n 3, 1) := by decide +kernel
theorem dX10_isTold_2 : decode cX10_isTold 2 = .ok (.iload_n 3, 1) := by decide +kernel
theorem dX10_isTold_3 : decode cX10_isTold 3 = .ok (.aload_n 0, 1) := by decide +kernel
theorem dX10_isTold_4 : decode cX10_isTold 4 = .ok (.getfield 60, 3) := by decide +kernel
theorem dX10_isTold_7 : decode cX10_isTold 7 = .ok (.iload_n 1, 1) := by decide +kernel
theorem dX10_isTold_8 : decode cX10_isTold 8 = .ok (.iaload, 1) := by decide +kernel
theorem dX10_isTold_9 : decode cX10_isTold 9 = .ok (.if_icmp .ge 26, 3) := by decide +kernel
theorem dX10_isTold_12 : decode cX10_isTold 12 = .ok (.aload_n 0, 1) := by decide +kernel
theorem dX10_isTold_13 : decode cX10_isTold 13 = .ok (.getfield 63, 3) := by decide +kernel
theorem dX10_isTold_16 : decode cX10_isTold 16 = .ok (.bipush 40, 2) := by decide +kernel
theorem dX10_isTold_18 : decode cX10_isTold 18 = .ok (.iload_n 1, 1) := by decide +kernel
theorem dX10_isTold_19 : decode cX10_isTold 19 = .ok (.imul, 1) := by decide +kernel
theorem dX10_isTold_20 : decode cX10_isTold 20 = .ok (.iload_n 3, 1) := by decide +kernel
theorem dX10_isTold_21 : decode cX10_isTold 21 = .ok (.iadd, 1) := by decide +kernel
theorem dX10_isTold_22 : decode cX10_isTold 22 = .ok (.iaload, 1) := by decide +kernel
theorem dX10_isTold_23 : decode cX10_isTold 23 = .ok (.iload_n 2, 1) := by decide +kernel
theorem dX10_isTold_24 : decode cX10_isTold 24 = .ok (.if_icmp .ne 5, 3) := by decide +kernel
theorem dX10_isTold_27 : decode cX10_isTold 27 = .ok (.iconst 1, 1) := by decide +kernel
theorem dX10_isTold_28 : decode cX10_isTold 28 = .ok (.ireturn, 1) := by decide +kernel
theorem dX10_isTold_29 : decode cX10_isTold 29 = .ok (.iinc 3 1, 3) := by decide +kernel
theorem dX10_isTold_32 : decode cX10_isTold 32 = .ok (.goto (-30), 3) := by decide +kernel
theorem dX10_isTold_35 : decode cX10_isTold 35 = .ok (.iconst 0, 1) := by decide +kernel
theorem dX10_isTold_36 : decode cX10_isTold 36 = .ok (.ireturn, 1) := by decide +kernel
theorem dX10_lastOf_0 : decode cX10_lastOf 0 = .ok (.aload_n 0, 1) := by decide +kernel
theorem dX10_lastOf_1 : decode cX10_lastOf 1 = .ok (.getfield 63, 3) := by decide +kernel
theorem dX10_lastOf_4 : decode cX10_lastOf 4 = .ok (.bipush 40, 2) := by decide +kernel
theorem dX10_lastOf_6 : decode cX10_lastOf 6 = .ok (.iload_n 1, 1) := by decide +kernel
theorem dX10_lastOf_7 : decode cX10_lastOf 7 = .ok (.imul, 1) := by decide +kernel
theorem dX10_lastOf_8 : decode cX10_lastOf 8 = .ok (.aload_n 0, 1) := by decide +kernel
theorem dX10_lastOf_9 : decode cX10_lastOf 9 = .ok (.getfield 60, 3) := by decide +kernel
theorem dX10_lastOf_12 : decode cX10_lastOf 12 = .ok (.iload_n 1, 1) := by decide +kernel
theorem dX10_lastOf_13 : decode cX10_lastOf 13 = .ok (.iaload, 1) := by decide +kernel
theorem dX10_lastOf_14 : decode cX10_lastOf 14 = .ok (.iadd, 1) := by decide +kernel
theorem dX10_lastOf_15 : decode cX10_lastOf 15 = .ok (.iconst 1, 1) := by decide +kernel
theorem dX10_lastOf_16 : decode cX10_lastOf 16 = .ok (.isub, 1) := by decide +kernel
theorem dX10_lastOf_17 : decode cX10_lastOf 17 = .ok (.iaload, 1) := by decide +kernel
theorem dX10_lastOf_18 : decode cX10_lastOf 18 = .ok (.ireturn, 1) := by decide +kernel
theorem dX10_comesSo_0 : decode cX10_comesSo 0 = .ok (.iconst 0, 1) := by decide +kernel
theorem dX10_comesSo_1 : decode cX10_comesSo 1 = .ok (.istore_n 3, 1) := by decide +kernel
theorem dX10_comesSo_2 : decode cX10_comesSo 2 = .ok (.iload_n 3, 1) := by decide +kernel
theorem dX10_comesSo_3 : decode cX10_comesSo 3 = .ok (.aload_n 0, 1) := by decide +kernel
theorem dX10_comesSo_4 : decode cX10_comesSo 4 = .ok (.iload_n 2, 1) := by decide +kernel
theorem dX10_comesSo_5 : decode cX10_comesSo 5 = .ok (.invokevirtual 402, 3) := by decide +kernel
theorem dX10_comesSo_8 : decode cX10_comesSo 8 = .ok (.if_icmp .gt 26, 3) := by decide +kernel
theorem dX10_comesSo_11 : decode cX10_comesSo 11 = .ok (.aload_n 0, 1) := by decide +kernel
theorem dX10_comesSo_12 : decode cX10_comesSo 12 = .ok (.iload_n 1, 1) := by decide +kernel
theorem dX10_comesSo_13 : decode cX10_comesSo 13 = .ok (.iload_n 3, 1) := by decide +kernel
theorem dX10_comesSo_14 : decode cX10_comesSo 14 = .ok (.invokevirtual 336, 3) := by decide +kernel
theorem dX10_comesSo_17 : decode cX10_comesSo 17 = .ok (.aload_n 0, 1) := by decide +kernel
theorem dX10_comesSo_18 : decode cX10_comesSo 18 = .ok (.iload_n 2, 1) := by decide +kernel
theorem dX10_comesSo_19 : decode cX10_comesSo 19 = .ok (.iload_n 3, 1) := by decide +kernel
theorem dX10_comesSo_20 : decode cX10_comesSo 20 = .ok (.invokevirtual 405, 3) := by decide +kernel
theorem dX10_comesSo_23 : decode cX10_comesSo 23 = .ok (.if_icmp .eq 5, 3) := by decide +kernel
theorem dX10_comesSo_26 : decode cX10_comesSo 26 = .ok (.iconst 0, 1) := by decide +kernel
theorem dX10_comesSo_27 : decode cX10_comesSo 27 = .ok (.ireturn, 1) := by decide +kernel
theorem dX10_comesSo_28 : decode cX10_comesSo 28 = .ok (.iinc 3 1, 3) := by decide +kernel
theorem dX10_comesSo_31 : decode cX10_comesSo 31 = .ok (.goto (-29), 3) := by decide +kernel
theorem dX10_comesSo_34 : decode cX10_comesSo 34 = .ok (.iconst 1, 1) := by decide +kernel
theorem dX10_comesSo_35 : decode cX10_comesSo 35 = .ok (.ireturn, 1) := by decide +kernel
theorem dX10_diary_0 : decode cX10_diary 0 = .ok (.iload_n 1, 1) := by decide +kernel
theorem dX10_diary_1 : decode cX10_diary 1 = .ok (.invokestatic 408, 3) := by decide +kernel
theorem dX10_diary_4 : decode cX10_diary 4 = .ok (.ifCond .eq 26, 3) := by decide +kernel
theorem dX10_diary_7 : decode cX10_diary 7 = .ok (.iload_n 2, 1) := by decide +kernel
theorem dX10_diary_8 : decode cX10_diary 8 = .ok (.i2l, 1) := by decide +kernel
theorem dX10_diary_9 : decode cX10_diary 9 = .ok (.lconst 0, 1) := by decide +kernel
theorem dX10_diary_10 : decode cX10_diary 10 = .ok (.lconst 1, 1) := by decide +kernel
theorem dX10_diary_11 : decode cX10_diary 11 = .ok (.invokestatic 76, 3) := by decide +kernel
theorem dX10_diary_14 : decode cX10_diary 14 = .ok (.ifCond .eq 16, 3) := by decide +kernel
theorem dX10_diary_17 : decode cX10_diary 17 = .ok (.iload_n 2, 1) := by decide +kernel
theorem dX10_diary_18 : decode cX10_diary 18 = .ok (.iconst 1, 1) := by decide +kernel
theorem dX10_diary_19 : decode cX10_diary 19 = .ok (.if_icmp .ne 14, 3) := by decide +kernel
theorem dX10_diary_22 : decode cX10_diary 22 = .ok (.aload_n 0, 1) := by decide +kernel
theorem dX10_diary_23 : decode cX10_diary 23 = .ok (.iload_n 3, 1) := by decide +kernel
theorem dX10_diary_24 : decode cX10_diary 24 = .ok (.invokevirtual 84, 3) := by decide +kernel
theorem dX10_diary_27 : decode cX10_diary 27 = .ok (.ifCond .ne 6, 3) := by decide +kernel
theorem dX10_diary_30 : decode cX10_diary 30 = .ok (.bipush (-2), 2) := by decide +kernel
theorem dX10_diary_32 : decode cX10_diary 32 = .ok (.ireturn, 1) := by decide +kernel
theorem dX10_diary_33 : decode cX10_diary 33 = .ok (.aload_n 0, 1) := by decide +kernel
theorem dX10_diary_34 : decode cX10_diary 34 = .ok (.getfield 54, 3) := by decide +kernel
theorem dX10_diary_37 : decode cX10_diary 37 = .ok (.iload_n 1, 1) := by decide +kernel
theorem dX10_diary_38 : decode cX10_diary 38 = .ok (.baload, 1) := by decide +kernel
theorem dX10_diary_39 : decode cX10_diary 39 = .ok (.ifCond .ne 6, 3) := by decide +kernel
theorem dX10_diary_42 : decode cX10_diary 42 = .ok (.bipush (-11), 2) := by decide +kernel
theorem dX10_diary_44 : decode cX10_diary 44 = .ok (.ireturn, 1) := by decide +kernel
theorem dX10_diary_45 : decode cX10_diary 45 = .ok (.aload_n 0, 1) := by decide +kernel
theorem dX10_diary_46 : decode cX10_diary 46 = .ok (.iload_n 1, 1) := by decide +kernel
theorem dX10_diary_47 : decode cX10_diary 47 = .ok (.invokevirtual 411, 3) := by decide +kernel
theorem dX10_diary_50 : decode cX10_diary 50 = .ok (.ifCond .eq 6, 3) := by decide +kernel
theorem dX10_diary_53 : decode cX10_diary 53 = .ok (.bipush (-2), 2) := by decide +kernel
theorem dX10_diary_55 : decode cX10_diary 55 = .ok (.ireturn, 1) := by decide +kernel
theorem dX10_diary_56 : decode cX10_diary 56 = .ok (.iconst 0, 1) := by decide +kernel
theorem dX10_diary_57 : decode cX10_diary 57 = .ok (.istore 4, 2) := by decide +kernel
theorem dX10_diary_59 : decode cX10_diary 59 = .ok (.iload_n 2, 1) := by decide +kernel
theorem dX10_diary_60 : decode cX10_diary 60 = .ok (.ifCond .ne 47, 3) := by decide +kernel
theorem dX10_diary_63 : decode cX10_diary 63 = .ok (.iconst 0, 1) := by decide +kernel
theorem dX10_diary_64 : decode cX10_diary 64 = .ok (.istore 5, 2) := by decide +kernel
theorem dX10_diary_66 : decode cX10_diary 66 = .ok (.iload 5, 2) := by decide +kernel
theorem dX10_diary_68 : decode cX10_diary 68 = .ok (.aload_n 0, 1) := by decide +kernel
theorem dX10_diary_69 : decode cX10_diary 69 = .ok (.getfield 73, 3) := by decide +kernel
theorem dX10_diary_72 : decode cX10_diary 72 = .ok (.if_icmp .ge 32, 3) := by decide +kernel
theorem dX10_diary_75 : decode cX10_diary 75 = .ok (.iload 4, 2) := by decide +kernel
theorem dX10_diary_77 : decode cX10_diary 77 = .ok (.aload_n 0, 1) := by decide +kernel
theorem dX10_diary_78 : decode cX10_diary 78 = .ok (.iload 5, 2) := by decide +kernel
theorem dX10_diary_80 : decode cX10_diary 80 = .ok (.iload_n 1, 1) := by decide +kernel
theorem dX10_diary_81 : decode cX10_diary 81 = .ok (.invokevirtual 414, 3) := by decide +kernel
theorem dX10_diary_84 : decode cX10_diary 84 = .ok (.ifCond .eq 7, 3) := by decide +kernel
theorem dX10_diary_87 : decode cX10_diary 87 = .ok (.iconst 1, 1) := by decide +kernel
theorem dX10_diary_88 : decode cX10_diary 88 = .ok (.goto 4, 3) := by decide +kernel
theorem dX10_diary_91 : decode cX10_diary 91 = .ok (.iconst 0, 1) := by decide +kernel
theorem dX10_diary_92 : decode cX10_diary 92 = .ok (.iload 5, 2) := by decide +kernel
theorem dX10_diary_94 : decode cX10_diary 94 = .ok (.ishl, 1) := by decide +kernel
theorem dX10_diary_95 : decode cX10_diary 95 = .ok (.ior, 1) := by decide +kernel
theorem dX10_diary_96 : decode cX10_diary 96 = .ok (.istore 4, 2) := by decide +kernel
theorem dX10_diary_98 : decode cX10_diary 98 = .ok (.iinc 5 1, 3) := by decide +kernel
theorem dX10_diary_101 : decode cX10_diary 101 = .ok (.goto (-35), 3) := by decide +kernel
theorem dX10_diary_104 : decode cX10_diary 104 = .ok (.iload 4, 2) := by decide +kernel
theorem dX10_diary_106 : decode cX10_diary 106 = .ok (.ireturn, 1) := by decide +kernel
theorem dX10_diary_107 : decode cX10_diary 107 = .ok (.aload_n 0, 1) := by decide +kernel
theorem dX10_diary_108 : decode cX10_diary 108 = .ok (.getfield 23, 3) := by decide +kernel
theorem dX10_diary_111 : decode cX10_diary 111 = .ok (.iload_n 3, 1) := by decide +kernel
theorem dX10_diary_112 : decode cX10_diary 112 = .ok (.iaload, 1) := by decide +kernel
theorem dX10_diary_113 : decode cX10_diary 113 = .ok (.istore 5, 2) := by decide +kernel
theorem dX10_diary_115 : decode cX10_diary 115 = .ok (.iconst 0, 1) := by decide +kernel
theorem dX10_diary_116 : decode cX10_diary 116 = .ok (.istore 6, 2) := by decide +kernel
theorem dX10_diary_118 : decode cX10_diary 118 = .ok (.iload 6, 2) := by decide +kernel
theorem dX10_diary_120 : decode cX10_diary 120 = .ok (.iconst 5, 1) := by decide +kernel
theorem dX10_diary_121 : decode cX10_diary 121 = .ok (.if_icmp .gt 39, 3) := by decide +kernel
theorem dX10_diary_124 : decode cX10_diary 124 = .ok (.aload_n 0, 1) := by decide +kernel
theorem dX10_diary_125 : decode cX10_diary 125 = .ok (.getfield 23, 3) := by decide +kernel
theorem dX10_diary_128 : decode cX10_diary 128 = .ok (.iload_n 3, 1) := by decide +kernel
theorem dX10_diary_129 : decode cX10_diary 129 = .ok (.iload 6, 2) := by decide +kernel
theorem dX10_diary_131 : decode cX10_diary 131 = .ok (.iastore, 1) := by decide +kernel
theorem dX10_diary_132 : decode cX10_diary 132 = .ok (.iload 4, 2) := by decide +kernel
theorem dX10_diary_134 : decode cX10_diary 134 = .ok (.aload_n 0, 1) := by decide +kernel
theorem dX10_diary_135 : decode cX10_diary 135 = .ok (.iload_n 3, 1) := by decide +kernel
theorem dX10_diary_136 : decode cX10_diary 136 = .ok (.iload_n 1, 1) := by decide +kernel
theorem dX10_diary_137 : decode cX10_diary 137 = .ok (.invokevirtual 414, 3) := by decide +kernel
theorem dX10_diary_140 : decode cX10_diary 140 = .ok (.ifCond .eq 7, 3) := by decide +kernel
theorem dX10_diary_143 : decode cX10_diary 143 = .ok (.iconst 1, 1) := by decide +kernel
theorem dX10_diary_144 : decode cX10_diary 144 = .ok (.goto 4, 3) := by decide +kernel
theorem dX10_diary_147 : decode cX10_diary 147 = .ok (.iconst 0, 1) := by decide +kernel
theorem dX10_diary_148 : decode cX10_diary 148 = .ok (.iload 6, 2) := by decide +kernel
theorem dX10_diary_150 : decode cX10_diary 150 = .ok (.ishl, 1) := by decide +kernel
theorem dX10_diary_151 : decode cX10_diary 151 = .ok (.ior, 1) := by decide +kernel
theorem dX10_diary_152 : decode cX10_diary 152 = .ok (.istore 4, 2) := by decide +kernel
theorem dX10_diary_154 : decode cX10_diary 154 = .ok (.iinc 6 1, 3) := by decide +kernel
theorem dX10_diary_157 : decode cX10_diary 157 = .ok (.goto (-39), 3) := by decide +kernel
theorem dX10_diary_160 : decode cX10_diary 160 = .ok (.aload_n 0, 1) := by decide +kernel
theorem dX10_diary_161 : decode cX10_diary 161 = .ok (.getfield 23, 3) := by decide +kernel
theorem dX10_diary_164 : decode cX10_diary 164 = .ok (.iload_n 3, 1) := by decide +kernel
theorem dX10_diary_165 : decode cX10_diary 165 = .ok (.iload 5, 2) := by decide +kernel
theorem dX10_diary_167 : decode cX10_diary 167 = .ok (.iastore, 1) := by decide +kernel
theorem dX10_diary_168 : decode cX10_diary 168 = .ok (.iload 4, 2) := by decide +kernel
theorem dX10_diary_170 : decode cX10_diary 170 = .ok (.ireturn, 1) := by decide +kernel
theorem dX10_periodsOf_0 : decode cX10_periodsOf 0 = .ok (.lconst 0, 1) := by decide +kernel
theorem dX10_periodsOf_1 : decode cX10_periodsOf 1 = .ok (.lstore_n 2, 1) := by decide +kernel
theorem dX10_periodsOf_2 : decode cX10_periodsOf 2 = .ok (.iconst 1, 1) := by decide +kernel
theorem dX10_periodsOf_3 : decode cX10_periodsOf 3 = .ok (.istore 4, 2) := by decide +kernel
theorem dX10_periodsOf_5 : decode cX10_periodsOf 5 = .ok (.iload 4, 2) := by decide +kernel
theorem dX10_periodsOf_7 : decode cX10_periodsOf 7 = .ok (.bipush 60, 2) := by decide +kernel
theorem dX10_periodsOf_9 : decode cX10_periodsOf 9 = .ok (.if_icmp .gt 94, 3) := by decide +kernel
theorem dX10_periodsOf_12 : decode cX10_periodsOf 12 = .ok (.iconst 1, 1) := by decide +kernel
theorem dX10_periodsOf_13 : decode cX10_periodsOf 13 = .ok (.istore 5, 2) := by decide +kernel
theorem dX10_periodsOf_15 : decode cX10_periodsOf 15 = .ok (.iconst 1, 1) := by decide +kernel
theorem dX10_periodsOf_16 : decode cX10_periodsOf 16 = .ok (.istore 6, 2) := by decide +kernel
theorem dX10_periodsOf_18 : decode cX10_periodsOf 18 = .ok (.iload 6, 2) := by decide +kernel
theorem dX10_periodsOf_20 : decode cX10_periodsOf 20 = .ok (.aload_n 0, 1) := by decide +kernel
theorem dX10_periodsOf_21 : decode cX10_periodsOf 21 = .ok (.getfield 60, 3) := by decide +kernel
theorem dX10_periodsOf_24 : decode cX10_periodsOf 24 = .ok (.iload_n 1, 1) := by decide +kernel
theorem dX10_periodsOf_25 : decode cX10_periodsOf 25 = .ok (.iaload, 1) := by decide +kernel
theorem dX10_periodsOf_26 : decode cX10_periodsOf 26 = .ok (.if_icmp .ge 53, 3) := by decide +kernel
theorem dX10_periodsOf_29 : decode cX10_periodsOf 29 = .ok (.iload 5, 2) := by decide +kernel
theorem dX10_periodsOf_31 : decode cX10_periodsOf 31 = .ok (.ifCond .eq 39, 3) := by decide +kernel
theorem dX10_periodsOf_34 : decode cX10_periodsOf 34 = .ok (.aload_n 0, 1) := by decide +kernel
theorem dX10_periodsOf_35 : decode cX10_periodsOf 35 = .ok (.getfield 63, 3) := by decide +kernel
theorem dX10_periodsOf_38 : decode cX10_periodsOf 38 = .ok (.bipush 40, 2) := by decide +kernel
theorem dX10_periodsOf_40 : decode cX10_periodsOf 40 = .ok (.iload_n 1, 1) := by decide +kernel
theorem dX10_periodsOf_41 : decode cX10_periodsOf 41 = .ok (.imul, 1) := by decide +kernel
theorem dX10_periodsOf_42 : decode cX10_periodsOf 42 = .ok (.iload 6, 2) := by decide +kernel
theorem dX10_periodsOf_44 : decode cX10_periodsOf 44 = .ok (.iadd, 1) := by decide +kernel
theorem dX10_periodsOf_45 : decode cX10_periodsOf 45 = .ok (.iaload, 1) := by decide +kernel
theorem dX10_periodsOf_46 : decode cX10_periodsOf 46 = .ok (.aload_n 0, 1) := by decide +kernel
theorem dX10_periodsOf_47 : decode cX10_periodsOf 47 = .ok (.getfield 63, 3) := by decide +kernel
theorem dX10_periodsOf_50 : decode cX10_periodsOf 50 = .ok (.bipush 40, 2) := by decide +kernel
theorem dX10_periodsOf_52 : decode cX10_periodsOf 52 = .ok (.iload_n 1, 1) := by decide +kernel
theorem dX10_periodsOf_53 : decode cX10_periodsOf 53 = .ok (.imul, 1) := by decide +kernel
theorem dX10_periodsOf_54 : decode cX10_periodsOf 54 = .ok (.iload 6, 2) := by decide +kernel
theorem dX10_periodsOf_56 : decode cX10_periodsOf 56 = .ok (.iadd, 1) := by decide +kernel
theorem dX10_periodsOf_57 : decode cX10_periodsOf 57 = .ok (.iconst 1, 1) := by decide +kernel
theorem dX10_periodsOf_58 : decode cX10_periodsOf 58 = .ok (.isub, 1) := by decide +kernel
theorem dX10_periodsOf_59 : decode cX10_periodsOf 59 = .ok (.iaload, 1) := by decide +kernel
theorem dX10_periodsOf_60 : decode cX10_periodsOf 60 = .ok (.isub, 1) := by decide +kernel
theorem dX10_periodsOf_61 : decode cX10_periodsOf 61 = .ok (.iload 4, 2) := by decide +kernel
theorem dX10_periodsOf_63 : decode cX10_periodsOf 63 = .ok (.if_icmp .ne 7, 3) := by decide +kernel
theorem dX10_periodsOf_66 : decode cX10_periodsOf 66 = .ok (.iconst 1, 1) := by decide +kernel
theorem dX10_periodsOf_67 : decode cX10_periodsOf 67 = .ok (.goto 4, 3) := by decide +kernel
theorem dX10_periodsOf_70 : decode cX10_periodsOf 70 = .ok (.iconst 0, 1) := by decide +kernel
theorem dX10_periodsOf_71 : decode cX10_periodsOf 71 = .ok (.istore 5, 2) := by decide +kernel
theorem dX10_periodsOf_73 : decode cX10_periodsOf 73 = .ok (.iinc 6 1, 3) := by decide +kernel
theorem dX10_periodsOf_76 : decode cX10_periodsOf 76 = .ok (.goto (-58), 3) := by decide +kernel
theorem dX10_periodsOf_79 : decode cX10_periodsOf 79 = .ok (.lload_n 2, 1) := by decide +kernel
theorem dX10_periodsOf_80 : decode cX10_periodsOf 80 = .ok (.iload 5, 2) := by decide +kernel
theorem dX10_periodsOf_82 : decode cX10_periodsOf 82 = .ok (.ifCond .eq 7, 3) := by decide +kernel
theorem dX10_periodsOf_85 : decode cX10_periodsOf 85 = .ok (.lconst 1, 1) := by decide +kernel
theorem dX10_periodsOf_86 : decode cX10_periodsOf 86 = .ok (.goto 4, 3) := by decide +kernel
theorem dX10_periodsOf_89 : decode cX10_periodsOf 89 = .ok (.lconst 0, 1) := by decide +kernel
theorem dX10_periodsOf_90 : decode cX10_periodsOf 90 = .ok (.iload 4, 2) := by decide +kernel
theorem dX10_periodsOf_92 : decode cX10_periodsOf 92 = .ok (.iconst 1, 1) := by decide +kernel
theorem dX10_periodsOf_93 : decode cX10_periodsOf 93 = .ok (.isub, 1) := by decide +kernel
theorem dX10_periodsOf_94 : decode cX10_periodsOf 94 = .ok (.lshl, 1) := by decide +kernel
theorem dX10_periodsOf_95 : decode cX10_periodsOf 95 = .ok (.lor, 1) := by decide +kernel
theorem dX10_periodsOf_96 : decode cX10_periodsOf 96 = .ok (.lstore_n 2, 1) := by decide +kernel
theorem dX10_periodsOf_97 : decode cX10_periodsOf 97 = .ok (.iinc 4 1, 3) := by decide +kernel
theorem dX10_periodsOf_100 : decode cX10_periodsOf 100 = .ok (.goto (-95), 3) := by decide +kernel
theorem dX10_periodsOf_103 : decode cX10_periodsOf 103 = .ok (.lload_n 2, 1) := by decide +kernel
theorem dX10_periodsOf_104 : decode cX10_periodsOf 104 = .ok (.lreturn, 1) := by decide +kernel
theorem dX10_marks_0 : decode cX10_marks 0 = .ok (.iconst 1, 1) := by decide +kernel
theorem dX10_marks_1 : decode cX10_marks 1 = .ok (.istore 4, 2) := by decide +kernel
theorem dX10_marks_3 : decode cX10_marks 3 = .ok (.iload_n 2, 1) := by decide +kernel
theorem dX10_marks_4 : decode cX10_marks 4 = .ok (.istore 5, 2) := by decide +kernel
theorem dX10_marks_6 : decode cX10_marks 6 = .ok (.iload 5, 2) := by decide +kernel
theorem dX10_marks_8 : decode cX10_marks 8 = .ok (.aload_n 0, 1) := by decide +kernel
theorem dX10_marks_9 : decode cX10_marks 9 = .ok (.iload_n 1, 1) := by decide +kernel
theorem dX10_marks_10 : decode cX10_marks 10 = .ok (.invokevirtual 402, 3) := by decide +kernel
theorem dX10_marks_13 : decode cX10_marks 13 = .ok (.if_icmp .gt 42, 3) := by decide +kernel
theorem dX10_marks_16 : decode cX10_marks 16 = .ok (.aload_n 0, 1) := by decide +kernel
theorem dX10_marks_17 : decode cX10_marks 17 = .ok (.getfield 44, 3) := by decide +kernel
theorem dX10_marks_20 : decode cX10_marks 20 = .ok (.iload 5, 2) := by decide +kernel
theorem dX10_marks_22 : decode cX10_marks 22 = .ok (.iconst 1, 1) := by decide +kernel
theorem dX10_marks_23 : decode cX10_marks 23 = .ok (.bastore, 1) := by decide +kernel
theorem dX10_marks_24 : decode cX10_marks 24 = .ok (.iload 4, 2) := by decide +kernel
theorem dX10_marks_26 : decode cX10_marks 26 = .ok (.ifCond .eq 17, 3) := by decide +kernel
theorem dX10_marks_29 : decode cX10_marks 29 = .ok (.aload_n 0, 1) := by decide +kernel
theorem dX10_marks_30 : decode cX10_marks 30 = .ok (.iload_n 1, 1) := by decide +kernel
theorem dX10_marks_31 : decode cX10_marks 31 = .ok (.iload 5, 2) := by decide +kernel
theorem dX10_marks_33 : decode cX10_marks 33 = .ok (.invokevirtual 405, 3) := by decide +kernel
theorem dX10_marks_36 : decode cX10_marks 36 = .ok (.ifCond .eq 7, 3) := by decide +kernel
theorem dX10_marks_39 : decode cX10_marks 39 = .ok (.iconst 1, 1) := by decide +kernel
theorem dX10_marks_40 : decode cX10_marks 40 = .ok (.goto 4, 3) := by decide +kernel
theorem dX10_marks_43 : decode cX10_marks 43 = .ok (.iconst 0, 1) := by decide +kernel
theorem dX10_marks_44 : decode cX10_marks 44 = .ok (.istore 4, 2) := by decide +kernel
theorem dX10_marks_46 : decode cX10_marks 46 = .ok (.iload 5, 2) := by decide +kernel
theorem dX10_marks_48 : decode cX10_marks 48 = .ok (.iload_n 3, 1) := by decide +kernel
theorem dX10_marks_49 : decode cX10_marks 49 = .ok (.iadd, 1) := by decide +kernel
theorem dX10_marks_50 : decode cX10_marks 50 = .ok (.istore 5, 2) := by decide +kernel
theorem dX10_marks_52 : decode cX10_marks 52 = .ok (.goto (-46), 3) := by decide +kernel
theorem dX10_marks_55 : decode cX10_marks 55 = .ok (.iload 4, 2) := by decide +kernel
theorem dX10_marks_57 : decode cX10_marks 57 = .ok (.ireturn, 1) := by decide +kernel
theorem dX10_firstLeft_0 : decode cX10_firstLeft 0 = .ok (.iconst 0, 1) := by decide +kernel
theorem dX10_firstLeft_1 : decode cX10_firstLeft 1 = .ok (.istore_n 2, 1) := by decide +kernel
theorem dX10_firstLeft_2 : decode cX10_firstLeft 2 = .ok (.iload_n 2, 1) := by decide +kernel
theorem dX10_firstLeft_3 : decode cX10_firstLeft 3 = .ok (.aload_n 0, 1) := by decide +kernel
theorem dX10_firstLeft_4 : decode cX10_firstLeft 4 = .ok (.getfield 60, 3) := by decide +kernel
theorem dX10_firstLeft_7 : decode cX10_firstLeft 7 = .ok (.iload_n 1, 1) := by decide +kernel
theorem dX10_firstLeft_8 : decode cX10_firstLeft 8 = .ok (.iaload, 1) := by decide +kernel
theorem dX10_firstLeft_9 : decode cX10_firstLeft 9 = .ok (.if_icmp .ge 40, 3) := by decide +kernel
theorem dX10_firstLeft_12 : decode cX10_firstLeft 12 = .ok (.aload_n 0, 1) := by decide +kernel
theorem dX10_firstLeft_13 : decode cX10_firstLeft 13 = .ok (.getfield 44, 3) := by decide +kernel
theorem dX10_firstLeft_16 : decode cX10_firstLeft 16 = .ok (.aload_n 0, 1) := by decide +kernel
theorem dX10_firstLeft_17 : decode cX10_firstLeft 17 = .ok (.getfield 63, 3) := by decide +kernel
theorem dX10_firstLeft_20 : decode cX10_firstLeft 20 = .ok (.bipush 40, 2) := by decide +kernel
theorem dX10_firstLeft_22 : decode cX10_firstLeft 22 = .ok (.iload_n 1, 1) := by decide +kernel
theorem dX10_firstLeft_23 : decode cX10_firstLeft 23 = .ok (.imul, 1) := by decide +kernel
theorem dX10_firstLeft_24 : decode cX10_firstLeft 24 = .ok (.iload_n 2, 1) := by decide +kernel
theorem dX10_firstLeft_25 : decode cX10_firstLeft 25 = .ok (.iadd, 1) := by decide +kernel
theorem dX10_firstLeft_26 : decode cX10_firstLeft 26 = .ok (.iaload, 1) := by decide +kernel
theorem dX10_firstLeft_27 : decode cX10_firstLeft 27 = .ok (.baload, 1) := by decide +kernel
theorem dX10_firstLeft_28 : decode cX10_firstLeft 28 = .ok (.ifCond .ne 15, 3) := by decide +kernel
theorem dX10_firstLeft_31 : decode cX10_firstLeft 31 = .ok (.aload_n 0, 1) := by decide +kernel
theorem dX10_firstLeft_32 : decode cX10_firstLeft 32 = .ok (.getfield 63, 3) := by decide +kernel
theorem dX10_firstLeft_35 : decode cX10_firstLeft 35 = .ok (.bipush 40, 2) := by decide +kernel
theorem dX10_firstLeft_37 : decode cX10_firstLeft 37 = .ok (.iload_n 1, 1) := by decide +kernel
theorem dX10_firstLeft_38 : decode cX10_firstLeft 38 = .ok (.imul, 1) := by decide +kernel
theorem dX10_firstLeft_39 : decode cX10_firstLeft 39 = .ok (.iload_n 2, 1) := by decide +kernel
theorem dX10_firstLeft_40 : decode cX10_firstLeft 40 = .ok (.iadd, 1) := by decide +kernel
theorem dX10_firstLeft_41 : decode cX10_firstLeft 41 = .ok (.iaload, 1) := by decide +kernel
theorem dX10_firstLeft_42 : decode cX10_firstLeft 42 = .ok (.ireturn, 1) := by decide +kernel
theorem dX10_firstLeft_43 : decode cX10_firstLeft 43 = .ok (.iinc 2 1, 3) := by decide +kernel
theorem dX10_firstLeft_46 : decode cX10_firstLeft 46 = .ok (.goto (-44), 3) := by decide +kernel
theorem dX10_firstLeft_49 : decode cX10_firstLeft 49 = .ok (.iconst (-1), 1) := by decide +kernel
theorem dX10_firstLeft_50 : decode cX10_firstLeft 50 = .ok (.ireturn, 1) := by decide +kernel
theorem dX10_marksFirst_0 : decode cX10_marksFirst 0 = .ok (.iconst 0, 1) := by decide +kernel
theorem dX10_marksFirst_1 : decode cX10_marksFirst 1 = .ok (.istore_n 3, 1) := by decide +kernel
theorem dX10_marksFirst_2 : decode cX10_marksFirst 2 = .ok (.iload_n 3, 1) := by decide +kernel
theorem dX10_marksFirst_3 : decode cX10_marksFirst 3 = .ok (.sipush 400, 3) := by decide +kernel
theorem dX10_marksFirst_6 : decode cX10_marksFirst 6 = .ok (.if_icmp .ge 16, 3) := by decide +kernel
theorem dX10_marksFirst_9 : decode cX10_marksFirst 9 = .ok (.aload_n 0, 1) := by decide +kernel
theorem dX10_marksFirst_10 : decode cX10_marksFirst 10 = .ok (.getfield 44, 3) := by decide +kernel
theorem dX10_marksFirst_13 : decode cX10_marksFirst 13 = .ok (.iload_n 3, 1) := by decide +kernel
theorem dX10_marksFirst_14 : decode cX10_marksFirst 14 = .ok (.iconst 0, 1) := by decide +kernel
theorem dX10_marksFirst_15 : decode cX10_marksFirst 15 = .ok (.bastore, 1) := by decide +kernel
theorem dX10_marksFirst_16 : decode cX10_marksFirst 16 = .ok (.iinc 3 1, 3) := by decide +kernel
theorem dX10_marksFirst_19 : decode cX10_marksFirst 19 = .ok (.goto (-17), 3) := by decide +kernel
theorem dX10_marksFirst_22 : decode cX10_marksFirst 22 = .ok (.aload_n 0, 1) := by decide +kernel
theorem dX10_marksFirst_23 : decode cX10_marksFirst 23 = .ok (.iload_n 1, 1) := by decide +kernel
theorem dX10_marksFirst_24 : decode cX10_marksFirst 24 = .ok (.aload_n 0, 1) := by decide +kernel
theorem dX10_marksFirst_25 : decode cX10_marksFirst 25 = .ok (.getfield 63, 3) := by decide +kernel
theorem dX10_marksFirst_28 : decode cX10_marksFirst 28 = .ok (.bipush 40, 2) := by decide +kernel
theorem dX10_marksFirst_30 : decode cX10_marksFirst 30 = .ok (.iload_n 1, 1) := by decide +kernel
theorem dX10_marksFirst_31 : decode cX10_marksFirst 31 = .ok (.imul, 1) := by decide +kernel
theorem dX10_marksFirst_32 : decode cX10_marksFirst 32 = .ok (.iaload, 1) := by decide +kernel
theorem dX10_marksFirst_33 : decode cX10_marksFirst 33 = .ok (.iload_n 2, 1) := by decide +kernel
theorem dX10_marksFirst_34 : decode cX10_marksFirst 34 = .ok (.invokevirtual 417, 3) := by decide +kernel
theorem dX10_marksFirst_37 : decode cX10_marksFirst 37 = .ok (.ireturn, 1) := by decide +kernel
theorem dX10_twoOf_0 : decode cX10_twoOf 0 = .ok (.lconst 0, 1) := by decide +kernel
theorem dX10_twoOf_1 : decode cX10_twoOf 1 = .ok (.lstore_n 2, 1) := by decide +kernel
theorem dX10_twoOf_2 : decode cX10_twoOf 2 = .ok (.iconst 1, 1) := by decide +kernel
theorem dX10_twoOf_3 : decode cX10_twoOf 3 = .ok (.istore 4, 2) := by decide +kernel
theorem dX10_twoOf_5 : decode cX10_twoOf 5 = .ok (.iload 4, 2) := by decide +kernel
theorem dX10_twoOf_7 : decode cX10_twoOf 7 = .ok (.bipush 60, 2) := by decide +kernel
theorem dX10_twoOf_9 : decode cX10_twoOf 9 = .ok (.if_icmp .gt 94, 3) := by decide +kernel
theorem dX10_twoOf_12 : decode cX10_twoOf 12 = .ok (.aload_n 0, 1) := by decide +kernel
theorem dX10_twoOf_13 : decode cX10_twoOf 13 = .ok (.iload_n 1, 1) := by decide +kernel
theorem dX10_twoOf_14 : decode cX10_twoOf 14 = .ok (.iload 4, 2) := by decide +kernel
theorem dX10_twoOf_16 : decode cX10_twoOf 16 = .ok (.invokevirtual 421, 3) := by decide +kernel
theorem dX10_twoOf_19 : decode cX10_twoOf 19 = .ok (.ifCond .eq 78, 3) := by decide +kernel
theorem dX10_twoOf_22 : decode cX10_twoOf 22 = .ok (.aload_n 0, 1) := by decide +kernel
theorem dX10_twoOf_23 : decode cX10_twoOf 23 = .ok (.iload_n 1, 1) := by decide +kernel
theorem dX10_twoOf_24 : decode cX10_twoOf 24 = .ok (.invokevirtual 424, 3) := by decide +kernel
theorem dX10_twoOf_27 : decode cX10_twoOf 27 = .ok (.istore 5, 2) := by decide +kernel
theorem dX10_twoOf_29 : decode cX10_twoOf 29 = .ok (.iload 5, 2) := by decide +kernel
theorem dX10_twoOf_31 : decode cX10_twoOf 31 = .ok (.iconst (-1), 1) := by decide +kernel
theorem dX10_twoOf_32 : decode cX10_twoOf 32 = .ok (.if_icmp .ne 12, 3) := by decide +kernel
theorem dX10_twoOf_35 : decode cX10_twoOf 35 = .ok (.lload_n 2, 1) := by decide +kernel
theorem dX10_twoOf_36 : decode cX10_twoOf 36 = .ok (.ldc2_w 92, 3) := by decide +kernel
theorem dX10_twoOf_39 : decode cX10_twoOf 39 = .ok (.ladd, 1) := by decide +kernel
theorem dX10_twoOf_40 : decode cX10_twoOf 40 = .ok (.lstore_n 2, 1) := by decide +kernel
theorem dX10_twoOf_41 : decode cX10_twoOf 41 = .ok (.goto 56, 3) := by decide +kernel
theorem dX10_twoOf_44 : decode cX10_twoOf 44 = .ok (.iconst 1, 1) := by decide +kernel
theorem dX10_twoOf_45 : decode cX10_twoOf 45 = .ok (.istore 6, 2) := by decide +kernel
theorem dX10_twoOf_47 : decode cX10_twoOf 47 = .ok (.iload 6, 2) := by decide +kernel
theorem dX10_twoOf_49 : decode cX10_twoOf 49 = .ok (.bipush 60, 2) := by decide +kernel
theorem dX10_twoOf_51 : decode cX10_twoOf 51 = .ok (.if_icmp .gt 46, 3) := by decide +kernel
theorem dX10_twoOf_54 : decode cX10_twoOf 54 = .ok (.aload_n 0, 1) := by decide +kernel
theorem dX10_twoOf_55 : decode cX10_twoOf 55 = .ok (.iload_n 1, 1) := by decide +kernel
theorem dX10_twoOf_56 : decode cX10_twoOf 56 = .ok (.iload 4, 2) := by decide +kernel
theorem dX10_twoOf_58 : decode cX10_twoOf 58 = .ok (.invokevirtual 421, 3) := by decide +kernel
theorem dX10_twoOf_61 : decode cX10_twoOf 61 = .ok (.pop, 1) := by decide +kernel
theorem dX10_twoOf_62 : decode cX10_twoOf 62 = .ok (.lload_n 2, 1) := by decide +kernel
theorem dX10_twoOf_63 : decode cX10_twoOf 63 = .ok (.aload_n 0, 1) := by decide +kernel
theorem dX10_twoOf_64 : decode cX10_twoOf 64 = .ok (.iload_n 1, 1) := by decide +kernel
theorem dX10_twoOf_65 : decode cX10_twoOf 65 = .ok (.iload 5, 2) := by decide +kernel
theorem dX10_twoOf_67 : decode cX10_twoOf 67 = .ok (.iload 6, 2) := by decide +kernel
theorem dX10_twoOf_69 : decode cX10_twoOf 69 = .ok (.invokevirtual 417, 3) := by decide +kernel
theorem dX10_twoOf_72 : decode cX10_twoOf 72 = .ok (.ifCond .eq 16, 3) := by decide +kernel
theorem dX10_twoOf_75 : decode cX10_twoOf 75 = .ok (.aload_n 0, 1) := by decide +kernel
theorem dX10_twoOf_76 : decode cX10_twoOf 76 = .ok (.iload_n 1, 1) := by decide +kernel
theorem dX10_twoOf_77 : decode cX10_twoOf 77 = .ok (.invokevirtual 424, 3) := by decide +kernel
theorem dX10_twoOf_80 : decode cX10_twoOf 80 = .ok (.iconst (-1), 1) := by decide +kernel
theorem dX10_twoOf_81 : decode cX10_twoOf 81 = .ok (.if_icmp .ne 7, 3) := by decide +kernel
theorem dX10_twoOf_84 : decode cX10_twoOf 84 = .ok (.lconst 1, 1) := by decide +kernel
theorem dX10_twoOf_85 : decode cX10_twoOf 85 = .ok (.goto 4, 3) := by decide +kernel
theorem dX10_twoOf_88 : decode cX10_twoOf 88 = .ok (.lconst 0, 1) := by decide +kernel
theorem dX10_twoOf_89 : decode cX10_twoOf 89 = .ok (.ladd, 1) := by decide +kernel
theorem dX10_twoOf_90 : decode cX10_twoOf 90 = .ok (.lstore_n 2, 1) := by decide +kernel
theorem dX10_twoOf_91 : decode cX10_twoOf 91 = .ok (.iinc 6 1, 3) := by decide +kernel
theorem dX10_twoOf_94 : decode cX10_twoOf 94 = .ok (.goto (-47), 3) := by decide +kernel
theorem dX10_twoOf_97 : decode cX10_twoOf 97 = .ok (.iinc 4 1, 3) := by decide +kernel
theorem dX10_twoOf_100 : decode cX10_twoOf 100 = .ok (.goto (-95), 3) := by decide +kernel
theorem dX10_twoOf_103 : decode cX10_twoOf 103 = .ok (.lload_n 2, 1) := by decide +kernel
theorem dX10_twoOf_104 : decode cX10_twoOf 104 = .ok (.lreturn, 1) := by decide +kernel
theorem dX10_rounds_0 : decode cX10_rounds 0 = .ok (.iload_n 1, 1) := by decide +kernel
theorem dX10_rounds_1 : decode cX10_rounds 1 = .ok (.invokestatic 408, 3) := by decide +kernel
theorem dX10_rounds_4 : decode cX10_rounds 4 = .ok (.ifCond .eq 30, 3) := by decide +kernel
theorem dX10_rounds_7 : decode cX10_rounds 7 = .ok (.iload_n 2, 1) := by decide +kernel
theorem dX10_rounds_8 : decode cX10_rounds 8 = .ok (.i2l, 1) := by decide +kernel
theorem dX10_rounds_9 : decode cX10_rounds 9 = .ok (.lconst 0, 1) := by decide +kernel
theorem dX10_rounds_10 : decode cX10_rounds 10 = .ok (.lconst 1, 1) := by decide +kernel
theorem dX10_rounds_11 : decode cX10_rounds 11 = .ok (.invokestatic 76, 3) := by decide +kernel
theorem dX10_rounds_14 : decode cX10_rounds 14 = .ok (.ifCond .eq 20, 3) := by decide +kernel
theorem dX10_rounds_17 : decode cX10_rounds 17 = .ok (.aload_n 0, 1) := by decide +kernel
theorem dX10_rounds_18 : decode cX10_rounds 18 = .ok (.getfield 54, 3) := by decide +kernel
theorem dX10_rounds_21 : decode cX10_rounds 21 = .ok (.iload_n 1, 1) := by decide +kernel
theorem dX10_rounds_22 : decode cX10_rounds 22 = .ok (.baload, 1) := by decide +kernel
theorem dX10_rounds_23 : decode cX10_rounds 23 = .ok (.ifCond .eq 11, 3) := by decide +kernel
theorem dX10_rounds_26 : decode cX10_rounds 26 = .ok (.aload_n 0, 1) := by decide +kernel
theorem dX10_rounds_27 : decode cX10_rounds 27 = .ok (.iload_n 1, 1) := by decide +kernel
theorem dX10_rounds_28 : decode cX10_rounds 28 = .ok (.invokevirtual 411, 3) := by decide +kernel
theorem dX10_rounds_31 : decode cX10_rounds 31 = .ok (.ifCond .eq 7, 3) := by decide +kernel
theorem dX10_rounds_34 : decode cX10_rounds 34 = .ok (.ldc2_w 395, 3) := by decide +kernel
theorem dX10_rounds_37 : decode cX10_rounds 37 = .ok (.lreturn, 1) := by decide +kernel
theorem dX10_rounds_38 : decode cX10_rounds 38 = .ok (.iload_n 2, 1) := by decide +kernel
theorem dX10_rounds_39 : decode cX10_rounds 39 = .ok (.ifCond .ne 11, 3) := by decide +kernel
theorem dX10_rounds_42 : decode cX10_rounds 42 = .ok (.aload_n 0, 1) := by decide +kernel
theorem dX10_rounds_43 : decode cX10_rounds 43 = .ok (.iload_n 1, 1) := by decide +kernel
theorem dX10_rounds_44 : decode cX10_rounds 44 = .ok (.invokevirtual 427, 3) := by decide +kernel
theorem dX10_rounds_47 : decode cX10_rounds 47 = .ok (.goto 8, 3) := by decide +kernel
theorem dX10_rounds_50 : decode cX10_rounds 50 = .ok (.aload_n 0, 1) := by decide +kernel
theorem dX10_rounds_51 : decode cX10_rounds 51 = .ok (.iload_n 1, 1) := by decide +kernel
theorem dX10_rounds_52 : decode cX10_rounds 52 = .ok (.invokevirtual 431, 3) := by decide +kernel
theorem dX10_rounds_55 : decode cX10_rounds 55 = .ok (.lreturn, 1) := by decide +kernel
theorem dX10_film_0 : decode cX10_film 0 = .ok (.iload_n 1, 1) := by decide +kernel
theorem dX10_film_1 : decode cX10_film 1 = .ok (.invokestatic 408, 3) := by decide +kernel
theorem dX10_film_4 : decode cX10_film 4 = .ok (.ifCond .eq 23, 3) := by decide +kernel
theorem dX10_film_7 : decode cX10_film 7 = .ok (.aload_n 0, 1) := by decide +kernel
theorem dX10_film_8 : decode cX10_film 8 = .ok (.iload_n 2, 1) := by decide +kernel
theorem dX10_film_9 : decode cX10_film 9 = .ok (.invokevirtual 84, 3) := by decide +kernel
theorem dX10_film_12 : decode cX10_film 12 = .ok (.ifCond .eq 15, 3) := by decide +kernel
theorem dX10_film_15 : decode cX10_film 15 = .ok (.iload_n 3, 1) := by decide +kernel
theorem dX10_film_16 : decode cX10_film 16 = .ok (.i2l, 1) := by decide +kernel
theorem dX10_film_17 : decode cX10_film 17 = .ok (.lconst 1, 1) := by decide +kernel
theorem dX10_film_18 : decode cX10_film 18 = .ok (.ldc2_w 400, 3) := by decide +kernel
theorem dX10_film_21 : decode cX10_film 21 = .ok (.invokestatic 76, 3) := by decide +kernel
theorem dX10_film_24 : decode cX10_film 24 = .ok (.ifCond .ne 6, 3) := by decide +kernel
theorem dX10_film_27 : decode cX10_film 27 = .ok (.bipush (-2), 2) := by decide +kernel
theorem dX10_film_29 : decode cX10_film 29 = .ok (.ireturn, 1) := by decide +kernel
theorem dX10_film_30 : decode cX10_film 30 = .ok (.aload_n 0, 1) := by decide +kernel
theorem dX10_film_31 : decode cX10_film 31 = .ok (.iload_n 2, 1) := by decide +kernel
theorem dX10_film_32 : decode cX10_film 32 = .ok (.sipush 400, 3) := by decide +kernel
theorem dX10_film_35 : decode cX10_film 35 = .ok (.invokevirtual 434, 3) := by decide +kernel
theorem dX10_film_38 : decode cX10_film 38 = .ok (.istore 4, 2) := by decide +kernel
theorem dX10_film_40 : decode cX10_film 40 = .ok (.iload 4, 2) := by decide +kernel
theorem dX10_film_42 : decode cX10_film 42 = .ok (.iload_n 3, 1) := by decide +kernel
theorem dX10_film_43 : decode cX10_film 43 = .ok (.if_icmp .ge 8, 3) := by decide +kernel
theorem dX10_film_46 : decode cX10_film 46 = .ok (.iload 4, 2) := by decide +kernel
theorem dX10_film_48 : decode cX10_film 48 = .ok (.goto 4, 3) := by decide +kernel
theorem dX10_film_51 : decode cX10_film 51 = .ok (.iload_n 3, 1) := by decide +kernel
theorem dX10_film_52 : decode cX10_film 52 = .ok (.istore 5, 2) := by decide +kernel
theorem dX10_film_54 : decode cX10_film 54 = .ok (.aload_n 0, 1) := by decide +kernel
theorem dX10_film_55 : decode cX10_film 55 = .ok (.iload_n 1, 1) := by decide +kernel
theorem dX10_film_56 : decode cX10_film 56 = .ok (.iconst 1, 1) := by decide +kernel
theorem dX10_film_57 : decode cX10_film 57 = .ok (.iload 5, 2) := by decide +kernel
theorem dX10_film_59 : decode cX10_film 59 = .ok (.invokevirtual 437, 3) := by decide +kernel
theorem dX10_film_62 : decode cX10_film 62 = .ok (.pop, 1) := by decide +kernel
theorem dX10_film_63 : decode cX10_film 63 = .ok (.iconst 0, 1) := by decide +kernel
theorem dX10_film_64 : decode cX10_film 64 = .ok (.istore 6, 2) := by decide +kernel
theorem dX10_film_66 : decode cX10_film 66 = .ok (.iconst 0, 1) := by decide +kernel
theorem dX10_film_67 : decode cX10_film 67 = .ok (.istore 7, 2) := by decide +kernel
theorem dX10_film_69 : decode cX10_film 69 = .ok (.iload 7, 2) := by decide +kernel
theorem dX10_film_71 : decode cX10_film 71 = .ok (.sipush 400, 3) := by decide +kernel
theorem dX10_film_74 : decode cX10_film 74 = .ok (.if_icmp .ge 43, 3) := by decide +kernel
theorem dX10_film_77 : decode cX10_film 77 = .ok (.iload 6, 2) := by decide +kernel
theorem dX10_film_79 : decode cX10_film 79 = .ok (.iload 5, 2) := by decide +kernel
theorem dX10_film_81 : decode cX10_film 81 = .ok (.if_icmp .ge 36, 3) := by decide +kernel
theorem dX10_film_84 : decode cX10_film 84 = .ok (.aload_n 0, 1) := by decide +kernel
theorem dX10_film_85 : decode cX10_film 85 = .ok (.iload_n 2, 1) := by decide +kernel
theorem dX10_film_86 : decode cX10_film 86 = .ok (.iload 7, 2) := by decide +kernel
theorem dX10_film_88 : decode cX10_film 88 = .ok (.invokevirtual 336, 3) := by decide +kernel
theorem dX10_film_91 : decode cX10_film 91 = .ok (.ifCond .eq 20, 3) := by decide +kernel
theorem dX10_film_94 : decode cX10_film 94 = .ok (.aload_n 0, 1) := by decide +kernel
theorem dX10_film_95 : decode cX10_film 95 = .ok (.getfield 63, 3) := by decide +kernel
theorem dX10_film_98 : decode cX10_film 98 = .ok (.bipush 40, 2) := by decide +kernel
theorem dX10_film_100 : decode cX10_film 100 = .ok (.iload_n 1, 1) := by decide +kernel
theorem dX10_film_101 : decode cX10_film 101 = .ok (.imul, 1) := by decide +kernel
theorem dX10_film_102 : decode cX10_film 102 = .ok (.iload 6, 2) := by decide +kernel
theorem dX10_film_104 : decode cX10_film 104 = .ok (.iadd, 1) := by decide +kernel
theorem dX10_film_105 : decode cX10_film 105 = .ok (.iload 7, 2) := by decide +kernel
theorem dX10_film_107 : decode cX10_film 107 = .ok (.iastore, 1) := by decide +kernel
theorem dX10_film_108 : decode cX10_film 108 = .ok (.iinc 6 1, 3) := by decide +kernel
theorem dX10_film_111 : decode cX10_film 111 = .ok (.iinc 7 1, 3) := by decide +kernel
theorem dX10_film_114 : decode cX10_film 114 = .ok (.goto (-45), 3) := by decide +kernel
theorem dX10_film_117 : decode cX10_film 117 = .ok (.iload 5, 2) := by decide +kernel
theorem dX10_film_119 : decode cX10_film 119 = .ok (.ireturn, 1) := by decide +kernel
theorem dX10_draws_0 : decode cX10_draws 0 = .ok (.aload_n 0, 1) := by decide +kernel
theorem dX10_draws_1 : decode cX10_draws 1 = .ok (.getfield 96, 3) := by decide +kernel
theorem dX10_draws_4 : decode cX10_draws 4 = .ok (.istore_n 2, 1) := by decide +kernel
theorem dX10_draws_5 : decode cX10_draws 5 = .ok (.aload_n 0, 1) := by decide +kernel
theorem dX10_draws_6 : decode cX10_draws 6 = .ok (.iload_n 1, 1) := by decide +kernel
theorem dX10_draws_7 : decode cX10_draws 7 = .ok (.ldc_w 440, 3) := by decide +kernel
theorem dX10_draws_10 : decode cX10_draws 10 = .ok (.imul, 1) := by decide +kernel
theorem dX10_draws_11 : decode cX10_draws 11 = .ok (.sipush 12345, 3) := by decide +kernel
theorem dX10_draws_14 : decode cX10_draws 14 = .ok (.iadd, 1) := by decide +kernel
theorem dX10_draws_15 : decode cX10_draws 15 = .ok (.bipush 9, 2) := by decide +kernel
theorem dX10_draws_17 : decode cX10_draws 17 = .ok (.iushr, 1) := by decide +kernel
theorem dX10_draws_18 : decode cX10_draws 18 = .ok (.sipush 128, 3) := by decide +kernel
theorem dX10_draws_21 : decode cX10_draws 21 = .ok (.irem, 1) := by decide +kernel
theorem dX10_draws_22 : decode cX10_draws 22 = .ok (.putfield 96, 3) := by decide +kernel
theorem dX10_draws_25 : decode cX10_draws 25 = .ok (.aload_n 0, 1) := by decide +kernel
theorem dX10_draws_26 : decode cX10_draws 26 = .ok (.invokevirtual 367, 3) := by decide +kernel
theorem dX10_draws_29 : decode cX10_draws 29 = .ok (.istore_n 3, 1) := by decide +kernel
theorem dX10_draws_30 : decode cX10_draws 30 = .ok (.aload_n 0, 1) := by decide +kernel
theorem dX10_draws_31 : decode cX10_draws 31 = .ok (.iload_n 2, 1) := by decide +kernel
theorem dX10_draws_32 : decode cX10_draws 32 = .ok (.putfield 96, 3) := by decide +kernel
theorem dX10_draws_35 : decode cX10_draws 35 = .ok (.iload_n 3, 1) := by decide +kernel
theorem dX10_draws_36 : decode cX10_draws 36 = .ok (.ireturn, 1) := by decide +kernel
theorem dX10_drawn_0 : decode cX10_drawn 0 = .ok (.aload_n 0, 1) := by decide +kernel
theorem dX10_drawn_1 : decode cX10_drawn 1 = .ok (.iload_n 1, 1) := by decide +kernel
theorem dX10_drawn_2 : decode cX10_drawn 2 = .ok (.invokevirtual 441, 3) := by decide +kernel
theorem dX10_drawn_5 : decode cX10_drawn 5 = .ok (.ireturn, 1) := by decide +kernel
theorem dX10_chance_0 : decode cX10_chance 0 = .ok (.iload_n 2, 1) := by decide +kernel
theorem dX10_chance_1 : decode cX10_chance 1 = .ok (.i2l, 1) := by decide +kernel
theorem dX10_chance_2 : decode cX10_chance 2 = .ok (.lconst 1, 1) := by decide +kernel
theorem dX10_chance_3 : decode cX10_chance 3 = .ok (.ldc2_w 400, 3) := by decide +kernel
theorem dX10_chance_6 : decode cX10_chance 6 = .ok (.invokestatic 76, 3) := by decide +kernel
theorem dX10_chance_9 : decode cX10_chance 9 = .ok (.ifCond .eq 13, 3) := by decide +kernel
theorem dX10_chance_12 : decode cX10_chance 12 = .ok (.iload_n 3, 1) := by decide +kernel
theorem dX10_chance_13 : decode cX10_chance 13 = .ok (.i2l, 1) := by decide +kernel
theorem dX10_chance_14 : decode cX10_chance 14 = .ok (.lconst 0, 1) := by decide +kernel
theorem dX10_chance_15 : decode cX10_chance 15 = .ok (.lconst 1, 1) := by decide +kernel
theorem dX10_chance_16 : decode cX10_chance 16 = .ok (.invokestatic 76, 3) := by decide +kernel
theorem dX10_chance_19 : decode cX10_chance 19 = .ok (.ifCond .ne 7, 3) := by decide +kernel
theorem dX10_chance_22 : decode cX10_chance 22 = .ok (.ldc2_w 395, 3) := by decide +kernel
theorem dX10_chance_25 : decode cX10_chance 25 = .ok (.lreturn, 1) := by decide +kernel
theorem dX10_chance_26 : decode cX10_chance 26 = .ok (.lconst 0, 1) := by decide +kernel
theorem dX10_chance_27 : decode cX10_chance 27 = .ok (.lstore 4, 2) := by decide +kernel
theorem dX10_chance_29 : decode cX10_chance 29 = .ok (.iconst 0, 1) := by decide +kernel
theorem dX10_chance_30 : decode cX10_chance 30 = .ok (.istore 6, 2) := by decide +kernel
theorem dX10_chance_32 : decode cX10_chance 32 = .ok (.iload 6, 2) := by decide +kernel
theorem dX10_chance_34 : decode cX10_chance 34 = .ok (.iload_n 2, 1) := by decide +kernel
theorem dX10_chance_35 : decode cX10_chance 35 = .ok (.if_icmp .ge 36, 3) := by decide +kernel
theorem dX10_chance_38 : decode cX10_chance 38 = .ok (.aload_n 0, 1) := by decide +kernel
theorem dX10_chance_39 : decode cX10_chance 39 = .ok (.iload_n 1, 1) := by decide +kernel
theorem dX10_chance_40 : decode cX10_chance 40 = .ok (.iload 6, 2) := by decide +kernel
theorem dX10_chance_42 : decode cX10_chance 42 = .ok (.iadd, 1) := by decide +kernel
theorem dX10_chance_43 : decode cX10_chance 43 = .ok (.invokevirtual 441, 3) := by decide +kernel
theorem dX10_chance_46 : decode cX10_chance 46 = .ok (.pop, 1) := by decide +kernel
theorem dX10_chance_47 : decode cX10_chance 47 = .ok (.lload 4, 2) := by decide +kernel
theorem dX10_chance_49 : decode cX10_chance 49 = .ok (.aload_n 0, 1) := by decide +kernel
theorem dX10_chance_50 : decode cX10_chance 50 = .ok (.iconst 2, 1) := by decide +kernel
theorem dX10_chance_51 : decode cX10_chance 51 = .ok (.invokevirtual 370, 3) := by decide +kernel
theorem dX10_chance_54 : decode cX10_chance 54 = .ok (.ifCond .ne 7, 3) := by decide +kernel
theorem dX10_chance_57 : decode cX10_chance 57 = .ok (.lconst 1, 1) := by decide +kernel
theorem dX10_chance_58 : decode cX10_chance 58 = .ok (.goto 4, 3) := by decide +kernel
theorem dX10_chance_61 : decode cX10_chance 61 = .ok (.lconst 0, 1) := by decide +kernel
theorem dX10_chance_62 : decode cX10_chance 62 = .ok (.ladd, 1) := by decide +kernel
theorem dX10_chance_63 : decode cX10_chance 63 = .ok (.lstore 4, 2) := by decide +kernel
theorem dX10_chance_65 : decode cX10_chance 65 = .ok (.iinc 6 1, 3) := by decide +kernel
theorem dX10_chance_68 : decode cX10_chance 68 = .ok (.goto (-36), 3) := by decide +kernel
theorem dX10_chance_71 : decode cX10_chance 71 = .ok (.lload 4, 2) := by decide +kernel
theorem dX10_chance_73 : decode cX10_chance 73 = .ok (.iload_n 2, 1) := by decide +kernel
theorem dX10_chance_74 : decode cX10_chance 74 = .ok (.i2l, 1) := by decide +kernel
theorem dX10_chance_75 : decode cX10_chance 75 = .ok (.invokestatic 385, 3) := by decide +kernel
theorem dX10_chance_78 : decode cX10_chance 78 = .ok (.lstore 6, 2) := by decide +kernel
theorem dX10_chance_80 : decode cX10_chance 80 = .ok (.iload_n 3, 1) := by decide +kernel
theorem dX10_chance_81 : decode cX10_chance 81 = .ok (.ifCond .ne 11, 3) := by decide +kernel
theorem dX10_chance_84 : decode cX10_chance 84 = .ok (.lload 4, 2) := by decide +kernel
theorem dX10_chance_86 : decode cX10_chance 86 = .ok (.lload 6, 2) := by decide +kernel
theorem dX10_chance_88 : decode cX10_chance 88 = .ok (.ldiv, 1) := by decide +kernel
theorem dX10_chance_89 : decode cX10_chance 89 = .ok (.goto 8, 3) := by decide +kernel
theorem dX10_chance_92 : decode cX10_chance 92 = .ok (.iload_n 2, 1) := by decide +kernel
theorem dX10_chance_93 : decode cX10_chance 93 = .ok (.i2l, 1) := by decide +kernel
theorem dX10_chance_94 : decode cX10_chance 94 = .ok (.lload 6, 2) := by decide +kernel
theorem dX10_chance_96 : decode cX10_chance 96 = .ok (.ldiv, 1) := by decide +kernel
theorem dX10_chance_97 : decode cX10_chance 97 = .ok (.lreturn, 1) := by decide +kernel
theorem dX10_image_0 : decode cX10_image 0 = .ok (.iconst 0, 1) := by decide +kernel
theorem dX10_image_1 : decode cX10_image 1 = .ok (.istore_n 1, 1) := by decide +kernel
theorem dX10_image_2 : decode cX10_image 2 = .ok (.iload_n 1, 1) := by decide +kernel
theorem dX10_image_3 : decode cX10_image 3 = .ok (.bipush 6, 2) := by decide +kernel
theorem dX10_image_5 : decode cX10_image 5 = .ok (.if_icmp .ge 51, 3) := by decide +kernel
theorem dX10_image_8 : decode cX10_image 8 = .ok (.aload_n 0, 1) := by decide +kernel
theorem dX10_image_9 : decode cX10_image 9 = .ok (.getfield 48, 3) := by decide +kernel
theorem dX10_image_12 : decode cX10_image 12 = .ok (.iload_n 1, 1) := by decide +kernel
theorem dX10_image_13 : decode cX10_image 13 = .ok (.aload_n 0, 1) := by decide +kernel
theorem dX10_image_14 : decode cX10_image 14 = .ok (.getfield 26, 3) := by decide +kernel
theorem dX10_image_17 : decode cX10_image 17 = .ok (.iload_n 1, 1) := by decide +kernel
theorem dX10_image_18 : decode cX10_image 18 = .ok (.iaload, 1) := by decide +kernel
theorem dX10_image_19 : decode cX10_image 19 = .ok (.iastore, 1) := by decide +kernel
theorem dX10_image_20 : decode cX10_image 20 = .ok (.aload_n 0, 1) := by decide +kernel
theorem dX10_image_21 : decode cX10_image 21 = .ok (.getfield 48, 3) := by decide +kernel
theorem dX10_image_24 : decode cX10_image 24 = .ok (.bipush 6, 2) := by decide +kernel
theorem dX10_image_26 : decode cX10_image 26 = .ok (.iload_n 1, 1) := by decide +kernel
theorem dX10_image_27 : decode cX10_image 27 = .ok (.iadd, 1) := by decide +kernel
theorem dX10_image_28 : decode cX10_image 28 = .ok (.aload_n 0, 1) := by decide +kernel
theorem dX10_image_29 : decode cX10_image 29 = .ok (.getfield 29, 3) := by decide +kernel
theorem dX10_image_32 : decode cX10_image 32 = .ok (.iload_n 1, 1) := by decide +kernel
theorem dX10_image_33 : decode cX10_image 33 = .ok (.iaload, 1) := by decide +kernel
theorem dX10_image_34 : decode cX10_image 34 = .ok (.iastore, 1) := by decide +kernel
theorem dX10_image_35 : decode cX10_image 35 = .ok (.aload_n 0, 1) := by decide +kernel
theorem dX10_image_36 : decode cX10_image 36 = .ok (.getfield 48, 3) := by decide +kernel
theorem dX10_image_39 : decode cX10_image 39 = .ok (.bipush 12, 2) := by decide +kernel
theorem dX10_image_41 : decode cX10_image 41 = .ok (.iload_n 1, 1) := by decide +kernel
theorem dX10_image_42 : decode cX10_image 42 = .ok (.iadd, 1) := by decide +kernel
theorem dX10_image_43 : decode cX10_image 43 = .ok (.aload_n 0, 1) := by decide +kernel
theorem dX10_image_44 : decode cX10_image 44 = .ok (.getfield 32, 3) := by decide +kernel
theorem dX10_image_47 : decode cX10_image 47 = .ok (.iload_n 1, 1) := by decide +kernel
theorem dX10_image_48 : decode cX10_image 48 = .ok (.iaload, 1) := by decide +kernel
theorem dX10_image_49 : decode cX10_image 49 = .ok (.iastore, 1) := by decide +kernel
theorem dX10_image_50 : decode cX10_image 50 = .ok (.iinc 1 1, 3) := by decide +kernel
theorem dX10_image_53 : decode cX10_image 53 = .ok (.goto (-51), 3) := by decide +kernel
theorem dX10_image_56 : decode cX10_image 56 = .ok (.aload_n 0, 1) := by decide +kernel
theorem dX10_image_57 : decode cX10_image 57 = .ok (.aload_n 0, 1) := by decide +kernel
theorem dX10_image_58 : decode cX10_image 58 = .ok (.getfield 73, 3) := by decide +kernel
theorem dX10_image_61 : decode cX10_image 61 = .ok (.putfield 51, 3) := by decide +kernel
theorem dX10_image_64 : decode cX10_image 64 = .ok (.aload_n 0, 1) := by decide +kernel
theorem dX10_image_65 : decode cX10_image 65 = .ok (.aload_n 0, 1) := by decide +kernel
theorem dX10_image_66 : decode cX10_image 66 = .ok (.getfield 96, 3) := by decide +kernel
theorem dX10_image_69 : decode cX10_image 69 = .ok (.putfield 444, 3) := by decide +kernel
theorem dX10_image_72 : decode cX10_image 72 = .ok (.aload_n 0, 1) := by decide +kernel
theorem dX10_image_73 : decode cX10_image 73 = .ok (.aload_n 0, 1) := by decide +kernel
theorem dX10_image_74 : decode cX10_image 74 = .ok (.getfield 329, 3) := by decide +kernel
theorem dX10_image_77 : decode cX10_image 77 = .ok (.putfield 447, 3) := by decide +kernel
theorem dX10_image_80 : decode cX10_image 80 = .ok (.aload_n 0, 1) := by decide +kernel
theorem dX10_image_81 : decode cX10_image 81 = .ok (.getfield 73, 3) := by decide +kernel
theorem dX10_image_84 : decode cX10_image 84 = .ok (.ireturn, 1) := by decide +kernel
theorem dX10_back_0 : decode cX10_back 0 = .ok (.aload_n 0, 1) := by decide +kernel
theorem dX10_back_1 : decode cX10_back 1 = .ok (.getfield 51, 3) := by decide +kernel
theorem dX10_back_4 : decode cX10_back 4 = .ok (.iconst (-1), 1) := by decide +kernel
theorem dX10_back_5 : decode cX10_back 5 = .ok (.if_icmp .ne 6, 3) := by decide +kernel
theorem dX10_back_8 : decode cX10_back 8 = .ok (.bipush (-3), 2) := by decide +kernel
theorem dX10_back_10 : decode cX10_back 10 = .ok (.ireturn, 1) := by decide +kernel
theorem dX10_back_11 : decode cX10_back 11 = .ok (.iconst 0, 1) := by decide +kernel
theorem dX10_back_12 : decode cX10_back 12 = .ok (.istore_n 1, 1) := by decide +kernel
theorem dX10_back_13 : decode cX10_back 13 = .ok (.iload_n 1, 1) := by decide +kernel
theorem dX10_back_14 : decode cX10_back 14 = .ok (.bipush 6, 2) := by decide +kernel
theorem dX10_back_16 : decode cX10_back 16 = .ok (.if_icmp .ge 51, 3) := by decide +kernel
theorem dX10_back_19 : decode cX10_back 19 = .ok (.aload_n 0, 1) := by decide +kernel
theorem dX10_back_20 : decode cX10_back 20 = .ok (.getfield 26, 3) := by decide +kernel
theorem dX10_back_23 : decode cX10_back 23 = .ok (.iload_n 1, 1) := by decide +kernel
theorem dX10_back_24 : decode cX10_back 24 = .ok (.aload_n 0, 1) := by decide +kernel
theorem dX10_back_25 : decode cX10_back 25 = .ok (.getfield 48, 3) := by decide +kernel
theorem dX10_back_28 : decode cX10_back 28 = .ok (.iload_n 1, 1) := by decide +kernel
theorem dX10_back_29 : decode cX10_back 29 = .ok (.iaload, 1) := by decide +kernel
theorem dX10_back_30 : decode cX10_back 30 = .ok (.iastore, 1) := by decide +kernel
theorem dX10_back_31 : decode cX10_back 31 = .ok (.aload_n 0, 1) := by decide +kernel
theorem dX10_back_32 : decode cX10_back 32 = .ok (.getfield 29, 3) := by decide +kernel
theorem dX10_back_35 : decode cX10_back 35 = .ok (.iload_n 1, 1) := by decide +kernel
theorem dX10_back_36 : decode cX10_back 36 = .ok (.aload_n 0, 1) := by decide +kernel
theorem dX10_back_37 : decode cX10_back 37 = .ok (.getfield 48, 3) := by decide +kernel
theorem dX10_back_40 : decode cX10_back 40 = .ok (.bipush 6, 2) := by decide +kernel
theorem dX10_back_42 : decode cX10_back 42 = .ok (.iload_n 1, 1) := by decide +kernel
theorem dX10_back_43 : decode cX10_back 43 = .ok (.iadd, 1) := by decide +kernel
theorem dX10_back_44 : decode cX10_back 44 = .ok (.iaload, 1) := by decide +kernel
theorem dX10_back_45 : decode cX10_back 45 = .ok (.iastore, 1) := by decide +kernel
theorem dX10_back_46 : decode cX10_back 46 = .ok (.aload_n 0, 1) := by decide +kernel
theorem dX10_back_47 : decode cX10_back 47 = .ok (.getfield 32, 3) := by decide +kernel
theorem dX10_back_50 : decode cX10_back 50 = .ok (.iload_n 1, 1) := by decide +kernel
theorem dX10_back_51 : decode cX10_back 51 = .ok (.aload_n 0, 1) := by decide +kernel
theorem dX10_back_52 : decode cX10_back 52 = .ok (.getfield 48, 3) := by decide +kernel
theorem dX10_back_55 : decode cX10_back 55 = .ok (.bipush 12, 2) := by decide +kernel
theorem dX10_back_57 : decode cX10_back 57 = .ok (.iload_n 1, 1) := by decide +kernel
theorem dX10_back_58 : decode cX10_back 58 = .ok (.iadd, 1) := by decide +kernel
theorem dX10_back_59 : decode cX10_back 59 = .ok (.iaload, 1) := by decide +kernel
theorem dX10_back_60 : decode cX10_back 60 = .ok (.iastore, 1) := by decide +kernel
theorem dX10_back_61 : decode cX10_back 61 = .ok (.iinc 1 1, 3) := by decide +kernel
theorem dX10_back_64 : decode cX10_back 64 = .ok (.goto (-51), 3) := by decide +kernel
theorem dX10_back_67 : decode cX10_back 67 = .ok (.aload_n 0, 1) := by decide +kernel
theorem dX10_back_68 : decode cX10_back 68 = .ok (.aload_n 0, 1) := by decide +kernel
theorem dX10_back_69 : decode cX10_back 69 = .ok (.getfield 51, 3) := by decide +kernel
theorem dX10_back_72 : decode cX10_back 72 = .ok (.putfield 73, 3) := by decide +kernel
theorem dX10_back_75 : decode cX10_back 75 = .ok (.aload_n 0, 1) := by decide +kernel
theorem dX10_back_76 : decode cX10_back 76 = .ok (.aload_n 0, 1) := by decide +kernel
theorem dX10_back_77 : decode cX10_back 77 = .ok (.getfield 444, 3) := by decide +kernel
theorem dX10_back_80 : decode cX10_back 80 = .ok (.putfield 96, 3) := by decide +kernel
theorem dX10_back_83 : decode cX10_back 83 = .ok (.aload_n 0, 1) := by decide +kernel
theorem dX10_back_84 : decode cX10_back 84 = .ok (.aload_n 0, 1) := by decide +kernel
theorem dX10_back_85 : decode cX10_back 85 = .ok (.getfield 447, 3) := by decide +kernel
theorem dX10_back_88 : decode cX10_back 88 = .ok (.putfield 329, 3) := by decide +kernel
theorem dX10_back_91 : decode cX10_back 91 = .ok (.aload_n 0, 1) := by decide +kernel
theorem dX10_back_92 : decode cX10_back 92 = .ok (.getfield 73, 3) := by decide +kernel
theorem dX10_back_95 : decode cX10_back 95 = .ok (.ireturn, 1) := by decide +kernel
theorem dX10_count_0 : decode cX10_count 0 = .ok (.iload_n 1, 1) := by decide +kernel
theorem dX10_count_1 : decode cX10_count 1 = .ok (.i2l, 1) := by decide +kernel
theorem dX10_count_2 : decode cX10_count 2 = .ok (.lconst 0, 1) := by decide +kernel
theorem dX10_count_3 : decode cX10_count 3 = .ok (.ldc2_w 450, 3) := by decide +kernel
theorem dX10_count_6 : decode cX10_count 6 = .ok (.invokestatic 76, 3) := by decide +kernel
theorem dX10_count_9 : decode cX10_count 9 = .ok (.ifCond .ne 6, 3) := by decide +kernel
theorem dX10_count_12 : decode cX10_count 12 = .ok (.bipush (-2), 2) := by decide +kernel
theorem dX10_count_14 : decode cX10_count 14 = .ok (.ireturn, 1) := by decide +kernel
theorem dX10_count_15 : decode cX10_count 15 = .ok (.iload_n 1, 1) := by decide +kernel
theorem dX10_count_16 : decode cX10_count 16 = .ok (.ifCond .ne 10, 3) := by decide +kernel
theorem dX10_count_19 : decode cX10_count 19 = .ok (.aload_n 0, 1) := by decide +kernel
theorem dX10_count_20 : decode cX10_count 20 = .ok (.getfield 73, 3) := by decide +kernel
theorem dX10_count_23 : decode cX10_count 23 = .ok (.goto 43, 3) := by decide +kernel
theorem dX10_count_26 : decode cX10_count 26 = .ok (.iload_n 1, 1) := by decide +kernel
theorem dX10_count_27 : decode cX10_count 27 = .ok (.iconst 1, 1) := by decide +kernel
theorem dX10_count_28 : decode cX10_count 28 = .ok (.if_icmp .ne 10, 3) := by decide +kernel
theorem dX10_count_31 : decode cX10_count 31 = .ok (.aload_n 0, 1) := by decide +kernel
theorem dX10_count_32 : decode cX10_count 32 = .ok (.getfield 96, 3) := by decide +kernel
theorem dX10_count_35 : decode cX10_count 35 = .ok (.goto 31, 3) := by decide +kernel
theorem dX10_count_38 : decode cX10_count 38 = .ok (.iload_n 1, 1) := by decide +kernel
theorem dX10_count_39 : decode cX10_count 39 = .ok (.iconst 2, 1) := by decide +kernel
theorem dX10_count_40 : decode cX10_count 40 = .ok (.if_icmp .ne 10, 3) := by decide +kernel
theorem dX10_count_43 : decode cX10_count 43 = .ok (.aload_n 0, 1) := by decide +kernel
theorem dX10_count_44 : decode cX10_count 44 = .ok (.getfield 70, 3) := by decide +kernel
theorem dX10_count_47 : decode cX10_count 47 = .ok (.goto 19, 3) := by decide +kernel
theorem dX10_count_50 : decode cX10_count 50 = .ok (.iload_n 1, 1) := by decide +kernel
theorem dX10_count_51 : decode cX10_count 51 = .ok (.iconst 3, 1) := by decide +kernel
theorem dX10_count_52 : decode cX10_count 52 = .ok (.if_icmp .ne 10, 3) := by decide +kernel
theorem dX10_count_55 : decode cX10_count 55 = .ok (.aload_n 0, 1) := by decide +kernel
theorem dX10_count_56 : decode cX10_count 56 = .ok (.getfield 124, 3) := by decide +kernel
theorem dX10_count_59 : decode cX10_count 59 = .ok (.goto 7, 3) := by decide +kernel
theorem dX10_count_62 : decode cX10_count 62 = .ok (.aload_n 0, 1) := by decide +kernel
theorem dX10_count_63 : decode cX10_count 63 = .ok (.getfield 329, 3) := by decide +kernel
theorem dX10_count_66 : decode cX10_count 66 = .ok (.ireturn, 1) := by decide +kernel
theorem dX10_isSheet_0 : decode cX10_isSheet 0 = .ok (.iload_n 0, 1) := by decide +kernel
theorem dX10_isSheet_1 : decode cX10_isSheet 1 = .ok (.i2l, 1) := by decide +kernel
theorem dX10_isSheet_2 : decode cX10_isSheet 2 = .ok (.lconst 0, 1) := by decide +kernel
theorem dX10_isSheet_3 : decode cX10_isSheet 3 = .ok (.ldc2_w 82, 3) := by decide +kernel
theorem dX10_isSheet_6 : decode cX10_isSheet 6 = .ok (.invokestatic 76, 3) := by decide +kernel
theorem dX10_isSheet_9 : decode cX10_isSheet 9 = .ok (.ireturn, 1) := by decide +kernel
theorem dX10_sheet_0 : decode cX10_sheet 0 = .ok (.iload_n 1, 1) := by decide +kernel
theorem dX10_sheet_1 : decode cX10_sheet 1 = .ok (.invokestatic 408, 3) := by decide +kernel
theorem dX10_sheet_4 : decode cX10_sheet 4 = .ok (.ifCond .eq 27, 3) := by decide +kernel
theorem dX10_sheet_7 : decode cX10_sheet 7 = .ok (.iload_n 2, 1) := by decide +kernel
theorem dX10_sheet_8 : decode cX10_sheet 8 = .ok (.i2l, 1) := by decide +kernel
theorem dX10_sheet_9 : decode cX10_sheet 9 = .ok (.ldc2_w 452, 3) := by decide +kernel
theorem dX10_sheet_12 : decode cX10_sheet 12 = .ok (.ldc2_w 358, 3) := by decide +kernel
theorem dX10_sheet_15 : decode cX10_sheet 15 = .ok (.invokestatic 76, 3) := by decide +kernel
theorem dX10_sheet_18 : decode cX10_sheet 18 = .ok (.ifCond .eq 13, 3) := by decide +kernel
theorem dX10_sheet_21 : decode cX10_sheet 21 = .ok (.iload_n 2, 1) := by decide +kernel
theorem dX10_sheet_22 : decode cX10_sheet 22 = .ok (.ifCond .lt 12, 3) := by decide +kernel
theorem dX10_sheet_25 : decode cX10_sheet 25 = .ok (.iload_n 3, 1) := by decide +kernel
theorem dX10_sheet_26 : decode cX10_sheet 26 = .ok (.bipush 40, 2) := by decide +kernel
theorem dX10_sheet_28 : decode cX10_sheet 28 = .ok (.if_icmp .le 6, 3) := by decide +kernel
theorem dX10_sheet_31 : decode cX10_sheet 31 = .ok (.bipush (-2), 2) := by decide +kernel
theorem dX10_sheet_33 : decode cX10_sheet 33 = .ok (.ireturn, 1) := by decide +kernel
theorem dX10_sheet_34 : decode cX10_sheet 34 = .ok (.iload_n 2, 1) := by decide +kernel
theorem dX10_sheet_35 : decode cX10_sheet 35 = .ok (.ifCond .lt 10, 3) := by decide +kernel
theorem dX10_sheet_38 : decode cX10_sheet 38 = .ok (.iload_n 3, 1) := by decide +kernel
theorem dX10_sheet_39 : decode cX10_sheet 39 = .ok (.ifCond .ge 6, 3) := by decide +kernel
theorem dX10_sheet_42 : decode cX10_sheet 42 = .ok (.bipush (-14), 2) := by decide +kernel
theorem dX10_sheet_44 : decode cX10_sheet 44 = .ok (.ireturn, 1) := by decide +kernel
theorem dX10_sheet_45 : decode cX10_sheet 45 = .ok (.aload_n 0, 1) := by decide +kernel
theorem dX10_sheet_46 : decode cX10_sheet 46 = .ok (.getfield 54, 3) := by decide +kernel
theorem dX10_sheet_49 : decode cX10_sheet 49 = .ok (.iload_n 1, 1) := by decide +kernel
theorem dX10_sheet_50 : decode cX10_sheet 50 = .ok (.iload_n 2, 1) := by decide +kernel
theorem dX10_sheet_51 : decode cX10_sheet 51 = .ok (.ifCond .lt 7, 3) := by decide +kernel
theorem dX10_sheet_54 : decode cX10_sheet 54 = .ok (.iconst 1, 1) := by decide +kernel
theorem dX10_sheet_55 : decode cX10_sheet 55 = .ok (.goto 4, 3) := by decide +kernel
theorem dX10_sheet_58 : decode cX10_sheet 58 = .ok (.iconst 0, 1) := by decide +kernel
theorem dX10_sheet_59 : decode cX10_sheet 59 = .ok (.bastore, 1) := by decide +kernel
theorem dX10_sheet_60 : decode cX10_sheet 60 = .ok (.aload_n 0, 1) := by decide +kernel
theorem dX10_sheet_61 : decode cX10_sheet 61 = .ok (.getfield 57, 3) := by decide +kernel
theorem dX10_sheet_64 : decode cX10_sheet 64 = .ok (.iload_n 1, 1) := by decide +kernel
theorem dX10_sheet_65 : decode cX10_sheet 65 = .ok (.iload_n 2, 1) := by decide +kernel
theorem dX10_sheet_66 : decode cX10_sheet 66 = .ok (.iastore, 1) := by decide +kernel
theorem dX10_sheet_67 : decode cX10_sheet 67 = .ok (.aload_n 0, 1) := by decide +kernel
theorem dX10_sheet_68 : decode cX10_sheet 68 = .ok (.getfield 60, 3) := by decide +kernel
theorem dX10_sheet_71 : decode cX10_sheet 71 = .ok (.iload_n 1, 1) := by decide +kernel
theorem dX10_sheet_72 : decode cX10_sheet 72 = .ok (.iload_n 3, 1) := by decide +kernel
theorem dX10_sheet_73 : decode cX10_sheet 73 = .ok (.iastore, 1) := by decide +kernel
theorem dX10_sheet_74 : decode cX10_sheet 74 = .ok (.iconst 0, 1) := by decide +kernel
theorem dX10_sheet_75 : decode cX10_sheet 75 = .ok (.istore 4, 2) := by decide +kernel
theorem dX10_sheet_77 : decode cX10_sheet 77 = .ok (.iload 4, 2) := by decide +kernel
theorem dX10_sheet_79 : decode cX10_sheet 79 = .ok (.iload_n 3, 1) := by decide +kernel
theorem dX10_sheet_80 : decode cX10_sheet 80 = .ok (.if_icmp .ge 26, 3) := by decide +kernel
theorem dX10_sheet_83 : decode cX10_sheet 83 = .ok (.iload_n 2, 1) := by decide +kernel
theorem dX10_sheet_84 : decode cX10_sheet 84 = .ok (.ifCond .lt 22, 3) := by decide +kernel
theorem dX10_sheet_87 : decode cX10_sheet 87 = .ok (.aload_n 0, 1) := by decide +kernel
theorem dX10_sheet_88 : decode cX10_sheet 88 = .ok (.getfield 63, 3) := by decide +kernel
theorem dX10_sheet_91 : decode cX10_sheet 91 = .ok (.bipush 40, 2) := by decide +kernel
theorem dX10_sheet_93 : decode cX10_sheet 93 = .ok (.iload_n 1, 1) := by decide +kernel
theorem dX10_sheet_94 : decode cX10_sheet 94 = .ok (.imul, 1) := by decide +kernel
theorem dX10_sheet_95 : decode cX10_sheet 95 = .ok (.iload 4, 2) := by decide +kernel
theorem dX10_sheet_97 : decode cX10_sheet 97 = .ok (.iadd, 1) := by decide +kernel
theorem dX10_sheet_98 : decode cX10_sheet 98 = .ok (.iconst 0, 1) := by decide +kernel
theorem dX10_sheet_99 : decode cX10_sheet 99 = .ok (.iastore, 1) := by decide +kernel
theorem dX10_sheet_100 : decode cX10_sheet 100 = .ok (.iinc 4 1, 3) := by decide +kernel
theorem dX10_sheet_103 : decode cX10_sheet 103 = .ok (.goto (-26), 3) := by decide +kernel
theorem dX10_sheet_106 : decode cX10_sheet 106 = .ok (.iconst 1, 1) := by decide +kernel
theorem dX10_sheet_107 : decode cX10_sheet 107 = .ok (.ireturn, 1) := by decide +kernel
theorem dX10_cell_0 : decode cX10_cell 0 = .ok (.iload_n 1, 1) := by decide +kernel
theorem dX10_cell_1 : decode cX10_cell 1 = .ok (.invokestatic 408, 3) := by decide +kernel
theorem dX10_cell_4 : decode cX10_cell 4 = .ok (.ifCond .ne 6, 3) := by decide +kernel
theorem dX10_cell_7 : decode cX10_cell 7 = .ok (.bipush (-2), 2) := by decide +kernel
theorem dX10_cell_9 : decode cX10_cell 9 = .ok (.ireturn, 1) := by decide +kernel
theorem dX10_cell_10 : decode cX10_cell 10 = .ok (.aload_n 0, 1) := by decide +kernel
theorem dX10_cell_11 : decode cX10_cell 11 = .ok (.getfield 54, 3) := by decide +kernel
theorem dX10_cell_14 : decode cX10_cell 14 = .ok (.iload_n 1, 1) := by decide +kernel
theorem dX10_cell_15 : decode cX10_cell 15 = .ok (.baload, 1) := by decide +kernel
theorem dX10_cell_16 : decode cX10_cell 16 = .ok (.ifCond .ne 6, 3) := by decide +kernel
theorem dX10_cell_19 : decode cX10_cell 19 = .ok (.bipush (-11), 2) := by decide +kernel
theorem dX10_cell_21 : decode cX10_cell 21 = .ok (.ireturn, 1) := by decide +kernel
theorem dX10_cell_22 : decode cX10_cell 22 = .ok (.iload_n 2, 1) := by decide +kernel
theorem dX10_cell_23 : decode cX10_cell 23 = .ok (.i2l, 1) := by decide +kernel
theorem dX10_cell_24 : decode cX10_cell 24 = .ok (.lconst 0, 1) := by decide +kernel
theorem dX10_cell_25 : decode cX10_cell 25 = .ok (.aload_n 0, 1) := by decide +kernel
theorem dX10_cell_26 : decode cX10_cell 26 = .ok (.getfield 60, 3) := by decide +kernel
theorem dX10_cell_29 : decode cX10_cell 29 = .ok (.iload_n 1, 1) := by decide +kernel
theorem dX10_cell_30 : decode cX10_cell 30 = .ok (.iaload, 1) := by decide +kernel
theorem dX10_cell_31 : decode cX10_cell 31 = .ok (.iconst 1, 1) := by decide +kernel
theorem dX10_cell_32 : decode cX10_cell 32 = .ok (.isub, 1) := by decide +kernel
theorem dX10_cell_33 : decode cX10_cell 33 = .ok (.i2l, 1) := by decide +kernel
theorem dX10_cell_34 : decode cX10_cell 34 = .ok (.invokestatic 76, 3) := by decide +kernel
theorem dX10_cell_37 : decode cX10_cell 37 = .ok (.ifCond .ne 6, 3) := by decide +kernel
theorem dX10_cell_40 : decode cX10_cell 40 = .ok (.bipush (-12), 2) := by decide +kernel
theorem dX10_cell_42 : decode cX10_cell 42 = .ok (.ireturn, 1) := by decide +kernel
theorem dX10_cell_43 : decode cX10_cell 43 = .ok (.aload_n 0, 1) := by decide +kernel
theorem dX10_cell_44 : decode cX10_cell 44 = .ok (.getfield 63, 3) := by decide +kernel
theorem dX10_cell_47 : decode cX10_cell 47 = .ok (.bipush 40, 2) := by decide +kernel
theorem dX10_cell_49 : decode cX10_cell 49 = .ok (.iload_n 1, 1) := by decide +kernel
theorem dX10_cell_50 : decode cX10_cell 50 = .ok (.imul, 1) := by decide +kernel
theorem dX10_cell_51 : decode cX10_cell 51 = .ok (.iload_n 2, 1) := by decide +kernel
theorem dX10_cell_52 : decode cX10_cell 52 = .ok (.iadd, 1) := by decide +kernel
theorem dX10_cell_53 : decode cX10_cell 53 = .ok (.aload_n 0, 1) := by decide +kernel
theorem dX10_cell_54 : decode cX10_cell 54 = .ok (.getfield 57, 3) := by decide +kernel
theorem dX10_cell_57 : decode cX10_cell 57 = .ok (.iload_n 1, 1) := by decide +kernel
theorem dX10_cell_58 : decode cX10_cell 58 = .ok (.iaload, 1) := by decide +kernel
theorem dX10_cell_59 : decode cX10_cell 59 = .ok (.ifCond .ne 8, 3) := by decide +kernel
theorem dX10_cell_62 : decode cX10_cell 62 = .ok (.iload_n 3, 1) := by decide +kernel
theorem dX10_cell_63 : decode cX10_cell 63 = .ok (.i2b, 1) := by decide +kernel
theorem dX10_cell_64 : decode cX10_cell 64 = .ok (.goto 19, 3) := by decide +kernel
theorem dX10_cell_67 : decode cX10_cell 67 = .ok (.aload_n 0, 1) := by decide +kernel
theorem dX10_cell_68 : decode cX10_cell 68 = .ok (.getfield 57, 3) := by decide +kernel
theorem dX10_cell_71 : decode cX10_cell 71 = .ok (.iload_n 1, 1) := by decide +kernel
theorem dX10_cell_72 : decode cX10_cell 72 = .ok (.iaload, 1) := by decide +kernel
theorem dX10_cell_73 : decode cX10_cell 73 = .ok (.iconst 1, 1) := by decide +kernel
theorem dX10_cell_74 : decode cX10_cell 74 = .ok (.if_icmp .ne 8, 3) := by decide +kernel
theorem dX10_cell_77 : decode cX10_cell 77 = .ok (.iload_n 3, 1) := by decide +kernel
theorem dX10_cell_78 : decode cX10_cell 78 = .ok (.i2s, 1) := by decide +kernel
theorem dX10_cell_79 : decode cX10_cell 79 = .ok (.goto 4, 3) := by decide +kernel
theorem dX10_cell_82 : decode cX10_cell 82 = .ok (.iload_n 3, 1) := by decide +kernel
theorem dX10_cell_83 : decode cX10_cell 83 = .ok (.iastore, 1) := by decide +kernel
theorem dX10_cell_84 : decode cX10_cell 84 = .ok (.iconst 1, 1) := by decide +kernel
theorem dX10_cell_85 : decode cX10_cell 85 = .ok (.ireturn, 1) := by decide +kernel
theorem dX10_copy_0 : decode cX10_copy 0 = .ok (.iload_n 1, 1) := by decide +kernel
theorem dX10_copy_1 : decode cX10_copy 1 = .ok (.invokestatic 408, 3) := by decide +kernel
theorem dX10_copy_4 : decode cX10_copy 4 = .ok (.ifCond .eq 10, 3) := by decide +kernel
theorem dX10_copy_7 : decode cX10_copy 7 = .ok (.iload_n 3, 1) := by decide +kernel
theorem dX10_copy_8 : decode cX10_copy 8 = .ok (.invokestatic 408, 3) := by decide +kernel
theorem dX10_copy_11 : decode cX10_copy 11 = .ok (.ifCond .ne 6, 3) := by decide +kernel
theorem dX10_copy_14 : decode cX10_copy 14 = .ok (.bipush (-2), 2) := by decide +kernel
theorem dX10_copy_16 : decode cX10_copy 16 = .ok (.ireturn, 1) := by decide +kernel
theorem dX10_copy_17 : decode cX10_copy 17 = .ok (.aload_n 0, 1) := by decide +kernel
theorem dX10_copy_18 : decode cX10_copy 18 = .ok (.getfield 54, 3) := by decide +kernel
theorem dX10_copy_21 : decode cX10_copy 21 = .ok (.iload_n 1, 1) := by decide +kernel
theorem dX10_copy_22 : decode cX10_copy 22 = .ok (.baload, 1) := by decide +kernel
theorem dX10_copy_23 : decode cX10_copy 23 = .ok (.ifCond .eq 12, 3) := by decide +kernel
theorem dX10_copy_26 : decode cX10_copy 26 = .ok (.aload_n 0, 1) := by decide +kernel
theorem dX10_copy_27 : decode cX10_copy 27 = .ok (.getfield 54, 3) := by decide +kernel
theorem dX10_copy_30 : decode cX10_copy 30 = .ok (.iload_n 3, 1) := by decide +kernel
theorem dX10_copy_31 : decode cX10_copy 31 = .ok (.baload, 1) := by decide +kernel
theorem dX10_copy_32 : decode cX10_copy 32 = .ok (.ifCond .ne 6, 3) := by decide +kernel
theorem dX10_copy_35 : decode cX10_copy 35 = .ok (.bipush (-11), 2) := by decide +kernel
theorem dX10_copy_37 : decode cX10_copy 37 = .ok (.ireturn, 1) := by decide +kernel
theorem dX10_copy_38 : decode cX10_copy 38 = .ok (.aload_n 0, 1) := by decide +kernel
theorem dX10_copy_39 : decode cX10_copy 39 = .ok (.getfield 57, 3) := by decide +kernel
theorem dX10_copy_42 : decode cX10_copy 42 = .ok (.iload_n 1, 1) := by decide +kernel
theorem dX10_copy_43 : decode cX10_copy 43 = .ok (.iaload, 1) := by decide +kernel
theorem dX10_copy_44 : decode cX10_copy 44 = .ok (.aload_n 0, 1) := by decide +kernel
theorem dX10_copy_45 : decode cX10_copy 45 = .ok (.getfield 57, 3) := by decide +kernel
theorem dX10_copy_48 : decode cX10_copy 48 = .ok (.iload_n 3, 1) := by decide +kernel
theorem dX10_copy_49 : decode cX10_copy 49 = .ok (.iaload, 1) := by decide +kernel
theorem dX10_copy_50 : decode cX10_copy 50 = .ok (.if_icmp .eq 6, 3) := by decide +kernel
theorem dX10_copy_53 : decode cX10_copy 53 = .ok (.bipush (-13), 2) := by decide +kernel
theorem dX10_copy_55 : decode cX10_copy 55 = .ok (.ireturn, 1) := by decide +kernel
theorem dX10_copy_56 : decode cX10_copy 56 = .ok (.iload 5, 2) := by decide +kernel
theorem dX10_copy_58 : decode cX10_copy 58 = .ok (.ifCond .lt 39, 3) := by decide +kernel
theorem dX10_copy_61 : decode cX10_copy 61 = .ok (.iload_n 2, 1) := by decide +kernel
theorem dX10_copy_62 : decode cX10_copy 62 = .ok (.ifCond .lt 35, 3) := by decide +kernel
theorem dX10_copy_65 : decode cX10_copy 65 = .ok (.iload 4, 2) := by decide +kernel
theorem dX10_copy_67 : decode cX10_copy 67 = .ok (.ifCond .lt 30, 3) := by decide +kernel
theorem dX10_copy_70 : decode cX10_copy 70 = .ok (.iload_n 2, 1) := by decide +kernel
theorem dX10_copy_71 : decode cX10_copy 71 = .ok (.aload_n 0, 1) := by decide +kernel
theorem dX10_copy_72 : decode cX10_copy 72 = .ok (.getfield 60, 3) := by decide +kernel
theorem dX10_copy_75 : decode cX10_copy 75 = .ok (.iload_n 1, 1) := by decide +kernel
theorem dX10_copy_76 : decode cX10_copy 76 = .ok (.iaload, 1) := by decide +kernel
theorem dX10_copy_77 : decode cX10_copy 77 = .ok (.iload 5, 2) := by decide +kernel
theorem dX10_copy_79 : decode cX10_copy 79 = .ok (.isub, 1) := by decide +kernel
theorem dX10_copy_80 : decode cX10_copy 80 = .ok (.if_icmp .gt 17, 3) := by decide +kernel
theorem dX10_copy_83 : decode cX10_copy 83 = .ok (.iload 4, 2) := by decide +kernel
theorem dX10_copy_85 : decode cX10_copy 85 = .ok (.aload_n 0, 1) := by decide +kernel
theorem dX10_copy_86 : decode cX10_copy 86 = .ok (.getfield 60, 3) := by decide +kernel
theorem dX10_copy_89 : decode cX10_copy 89 = .ok (.iload_n 3, 1) := by decide +kernel
theorem dX10_copy_90 : decode cX10_copy 90 = .ok (.iaload, 1) := by decide +kernel
theorem dX10_copy_91 : decode cX10_copy 91 = .ok (.iload 5, 2) := by decide +kernel
theorem dX10_copy_93 : decode cX10_copy 93 = .ok (.isub, 1) := by decide +kernel
theorem dX10_copy_94 : decode cX10_copy 94 = .ok (.if_icmp .le 6, 3) := by decide +kernel
theorem dX10_copy_97 : decode cX10_copy 97 = .ok (.bipush (-12), 2) := by decide +kernel
theorem dX10_copy_99 : decode cX10_copy 99 = .ok (.ireturn, 1) := by decide +kernel
theorem dX10_copy_100 : decode cX10_copy 100 = .ok (.iload_n 1, 1) := by decide +kernel
theorem dX10_copy_101 : decode cX10_copy 101 = .ok (.iload_n 3, 1) := by decide +kernel
theorem dX10_copy_102 : decode cX10_copy 102 = .ok (.if_icmp .ne 13, 3) := by decide +kernel
theorem dX10_copy_105 : decode cX10_copy 105 = .ok (.iload_n 2, 1) := by decide +kernel
theorem dX10_copy_106 : decode cX10_copy 106 = .ok (.iload 4, 2) := by decide +kernel
theorem dX10_copy_108 : decode cX10_copy 108 = .ok (.if_icmp .ge 7, 3) := by decide +kernel
theorem dX10_copy_111 : decode cX10_copy 111 = .ok (.iconst 1, 1) := by decide +kernel
theorem dX10_copy_112 : decode cX10_copy 112 = .ok (.goto 4, 3) := by decide +kernel
theorem dX10_copy_115 : decode cX10_copy 115 = .ok (.iconst 0, 1) := by decide +kernel
theorem dX10_copy_116 : decode cX10_copy 116 = .ok (.istore 6, 2) := by decide +kernel
theorem dX10_copy_118 : decode cX10_copy 118 = .ok (.iconst 0, 1) := by decide +kernel
theorem dX10_copy_119 : decode cX10_copy 119 = .ok (.istore 7, 2) := by decide +kernel
theorem dX10_copy_121 : decode cX10_copy 121 = .ok (.iload 7, 2) := by decide +kernel
theorem dX10_copy_123 : decode cX10_copy 123 = .ok (.iload 5, 2) := by decide +kernel
theorem dX10_copy_125 : decode cX10_copy 125 = .ok (.if_icmp .ge 57, 3) := by decide +kernel
theorem dX10_copy_128 : decode cX10_copy 128 = .ok (.iload 6, 2) := by decide +kernel
theorem dX10_copy_130 : decode cX10_copy 130 = .ok (.ifCond .eq 13, 3) := by decide +kernel
theorem dX10_copy_133 : decode cX10_copy 133 = .ok (.iload 5, 2) := by decide +kernel
theorem dX10_copy_135 : decode cX10_copy 135 = .ok (.iconst 1, 1) := by decide +kernel
theorem dX10_copy_136 : decode cX10_copy 136 = .ok (.isub, 1) := by decide +kernel
theorem dX10_copy_137 : decode cX10_copy 137 = .ok (.iload 7, 2) := by decide +kernel
theorem dX10_copy_139 : decode cX10_copy 139 = .ok (.isub, 1) := by decide +kernel
theorem dX10_copy_140 : decode cX10_copy 140 = .ok (.goto 5, 3) := by decide +kernel
theorem dX10_copy_143 : decode cX10_copy 143 = .ok (.iload 7, 2) := by decide +kernel
theorem dX10_copy_145 : decode cX10_copy 145 = .ok (.istore 8, 2) := by decide +kernel
theorem dX10_copy_147 : decode cX10_copy 147 = .ok (.aload_n 0, 1) := by decide +kernel
theorem dX10_copy_148 : decode cX10_copy 148 = .ok (.getfield 63, 3) := by decide +kernel
theorem dX10_copy_151 : decode cX10_copy 151 = .ok (.bipush 40, 2) := by decide +kernel
theorem dX10_copy_153 : decode cX10_copy 153 = .ok (.iload_n 3, 1) := by decide +kernel
theorem dX10_copy_154 : decode cX10_copy 154 = .ok (.imul, 1) := by decide +kernel
theorem dX10_copy_155 : decode cX10_copy 155 = .ok (.iload 4, 2) := by decide +kernel
theorem dX10_copy_157 : decode cX10_copy 157 = .ok (.iadd, 1) := by decide +kernel
theorem dX10_copy_158 : decode cX10_copy 158 = .ok (.iload 8, 2) := by decide +kernel
theorem dX10_copy_160 : decode cX10_copy 160 = .ok (.iadd, 1) := by decide +kernel
theorem dX10_copy_161 : decode cX10_copy 161 = .ok (.aload_n 0, 1) := by decide +kernel
theorem dX10_copy_162 : decode cX10_copy 162 = .ok (.getfield 63, 3) := by decide +kernel
theorem dX10_copy_165 : decode cX10_copy 165 = .ok (.bipush 40, 2) := by decide +kernel
theorem dX10_copy_167 : decode cX10_copy 167 = .ok (.iload_n 1, 1) := by decide +kernel
theorem dX10_copy_168 : decode cX10_copy 168 = .ok (.imul, 1) := by decide +kernel
theorem dX10_copy_169 : decode cX10_copy 169 = .ok (.iload_n 2, 1) := by decide +kernel
theorem dX10_copy_170 : decode cX10_copy 170 = .ok (.iadd, 1) := by decide +kernel
theorem dX10_copy_171 : decode cX10_copy 171 = .ok (.iload 8, 2) := by decide +kernel
theorem dX10_copy_173 : decode cX10_copy 173 = .ok (.iadd, 1) := by decide +kernel
theorem dX10_copy_174 : decode cX10_copy 174 = .ok (.iaload, 1) := by decide +kernel
theorem dX10_copy_175 : decode cX10_copy 175 = .ok (.iastore, 1) := by decide +kernel
theorem dX10_copy_176 : decode cX10_copy 176 = .ok (.iinc 7 1, 3) := by decide +kernel
theorem dX10_copy_179 : decode cX10_copy 179 = .ok (.goto (-58), 3) := by decide +kernel
theorem dX10_copy_182 : decode cX10_copy 182 = .ok (.iload 5, 2) := by decide +kernel
theorem dX10_copy_184 : decode cX10_copy 184 = .ok (.ireturn, 1) := by decide +kernel
theorem dX10_things_0 : decode cX10_things 0 = .ok (.iload_n 1, 1) := by decide +kernel
theorem dX10_things_1 : decode cX10_things 1 = .ok (.invokestatic 408, 3) := by decide +kernel
theorem dX10_things_4 : decode cX10_things 4 = .ok (.ifCond .eq 28, 3) := by decide +kernel
theorem dX10_things_7 : decode cX10_things 7 = .ok (.iload_n 2, 1) := by decide +kernel
theorem dX10_things_8 : decode cX10_things 8 = .ok (.i2l, 1) := by decide +kernel
theorem dX10_things_9 : decode cX10_things 9 = .ok (.lconst 0, 1) := by decide +kernel
theorem dX10_things_10 : decode cX10_things 10 = .ok (.ldc2_w 358, 3) := by decide +kernel
theorem dX10_things_13 : decode cX10_things 13 = .ok (.invokestatic 76, 3) := by decide +kernel
theorem dX10_things_16 : decode cX10_things 16 = .ok (.ifCond .eq 16, 3) := by decide +kernel
theorem dX10_things_19 : decode cX10_things 19 = .ok (.iload 4, 2) := by decide +kernel
theorem dX10_things_21 : decode cX10_things 21 = .ok (.i2l, 1) := by decide +kernel
theorem dX10_things_22 : decode cX10_things 22 = .ok (.lconst 0, 1) := by decide +kernel
theorem dX10_things_23 : decode cX10_things 23 = .ok (.ldc2_w 454, 3) := by decide +kernel
theorem dX10_things_26 : decode cX10_things 26 = .ok (.invokestatic 76, 3) := by decide +kernel
theorem dX10_things_29 : decode cX10_things 29 = .ok (.ifCond .ne 6, 3) := by decide +kernel
theorem dX10_things_32 : decode cX10_things 32 = .ok (.bipush (-2), 2) := by decide +kernel
theorem dX10_things_34 : decode cX10_things 34 = .ok (.ireturn, 1) := by decide +kernel
theorem dX10_things_35 : decode cX10_things 35 = .ok (.aload_n 0, 1) := by decide +kernel
theorem dX10_things_36 : decode cX10_things 36 = .ok (.getfield 54, 3) := by decide +kernel
theorem dX10_things_39 : decode cX10_things 39 = .ok (.iload_n 1, 1) := by decide +kernel
theorem dX10_things_40 : decode cX10_things 40 = .ok (.baload, 1) := by decide +kernel
theorem dX10_things_41 : decode cX10_things 41 = .ok (.ifCond .eq 16, 3) := by decide +kernel
theorem dX10_things_44 : decode cX10_things 44 = .ok (.aload_n 0, 1) := by decide +kernel
theorem dX10_things_45 : decode cX10_things 45 = .ok (.getfield 57, 3) := by decide +kernel
theorem dX10_things_48 : decode cX10_things 48 = .ok (.iload_n 1, 1) := by decide +kernel
theorem dX10_things_49 : decode cX10_things 49 = .ok (.iaload, 1) := by decide +kernel
theorem dX10_things_50 : decode cX10_things 50 = .ok (.iload_n 2, 1) := by decide +kernel
theorem dX10_things_51 : decode cX10_things 51 = .ok (.if_icmp .eq 6, 3) := by decide +kernel
theorem dX10_things_54 : decode cX10_things 54 = .ok (.bipush (-13), 2) := by decide +kernel
theorem dX10_things_56 : decode cX10_things 56 = .ok (.ireturn, 1) := by decide +kernel
theorem dX10_things_57 : decode cX10_things 57 = .ok (.aload_n 0, 1) := by decide +kernel
theorem dX10_things_58 : decode cX10_things 58 = .ok (.getfield 54, 3) := by decide +kernel
theorem dX10_things_61 : decode cX10_things 61 = .ok (.iload_n 1, 1) := by decide +kernel
theorem dX10_things_62 : decode cX10_things 62 = .ok (.baload, 1) := by decide +kernel
theorem dX10_things_63 : decode cX10_things 63 = .ok (.ifCond .ne 6, 3) := by decide +kernel
theorem dX10_things_66 : decode cX10_things 66 = .ok (.bipush (-11), 2) := by decide +kernel
theorem dX10_things_68 : decode cX10_things 68 = .ok (.ireturn, 1) := by decide +kernel
theorem dX10_things_69 : decode cX10_things 69 = .ok (.iconst 0, 1) := by decide +kernel
theorem dX10_things_70 : decode cX10_things 70 = .ok (.istore 5, 2) := by decide +kernel
theorem dX10_things_72 : decode cX10_things 72 = .ok (.iconst 0, 1) := by decide +kernel
theorem dX10_things_73 : decode cX10_things 73 = .ok (.istore 6, 2) := by decide +kernel
theorem dX10_things_75 : decode cX10_things 75 = .ok (.iload 6, 2) := by decide +kernel
theorem dX10_things_77 : decode cX10_things 77 = .ok (.iload 4, 2) := by decide +kernel
theorem dX10_things_79 : decode cX10_things 79 = .ok (.if_icmp .ge 88, 3) := by decide +kernel
theorem dX10_things_82 : decode cX10_things 82 = .ok (.iload_n 3, 1) := by decide +kernel
theorem dX10_things_83 : decode cX10_things 83 = .ok (.ifCond .lt 20, 3) := by decide +kernel
theorem dX10_things_86 : decode cX10_things 86 = .ok (.iload_n 3, 1) := by decide +kernel
theorem dX10_things_87 : decode cX10_things 87 = .ok (.aload_n 0, 1) := by decide +kernel
theorem dX10_things_88 : decode cX10_things 88 = .ok (.getfield 60, 3) := by decide +kernel
theorem dX10_things_91 : decode cX10_things 91 = .ok (.iload_n 1, 1) := by decide +kernel
theorem dX10_things_92 : decode cX10_things 92 = .ok (.iaload, 1) := by decide +kernel
theorem dX10_things_93 : decode cX10_things 93 = .ok (.iconst 3, 1) := by decide +kernel
theorem dX10_things_94 : decode cX10_things 94 = .ok (.iload 6, 2) := by decide +kernel
theorem dX10_things_96 : decode cX10_things 96 = .ok (.imul, 1) := by decide +kernel
theorem dX10_things_97 : decode cX10_things 97 = .ok (.isub, 1) := by decide +kernel
theorem dX10_things_98 : decode cX10_things 98 = .ok (.iconst 3, 1) := by decide +kernel
theorem dX10_things_99 : decode cX10_things 99 = .ok (.isub, 1) := by decide +kernel
theorem dX10_things_100 : decode cX10_things 100 = .ok (.if_icmp .le 6, 3) := by decide +kernel
theorem dX10_things_103 : decode cX10_things 103 = .ok (.bipush (-12), 2) := by decide +kernel
theorem dX10_things_105 : decode cX10_things 105 = .ok (.ireturn, 1) := by decide +kernel
theorem dX10_things_106 : decode cX10_things 106 = .ok (.bipush 40, 2) := by decide +kernel
theorem dX10_things_108 : decode cX10_things 108 = .ok (.iload_n 1, 1) := by decide +kernel
theorem dX10_things_109 : decode cX10_things 109 = .ok (.imul, 1) := by decide +kernel
theorem dX10_things_110 : decode cX10_things 110 = .ok (.iload_n 3, 1) := by decide +kernel
theorem dX10_things_111 : decode cX10_things 111 = .ok (.iadd, 1) := by decide +kernel
theorem dX10_things_112 : decode cX10_things 112 = .ok (.iconst 3, 1) := by decide +kernel
theorem dX10_things_113 : decode cX10_things 113 = .ok (.iload 6, 2) := by decide +kernel
theorem dX10_things_115 : decode cX10_things 115 = .ok (.imul, 1) := by decide +kernel
theorem dX10_things_116 : decode cX10_things 116 = .ok (.iadd, 1) := by decide +kernel
theorem dX10_things_117 : decode cX10_things 117 = .ok (.istore 7, 2) := by decide +kernel
theorem dX10_things_119 : decode cX10_things 119 = .ok (.iload 5, 2) := by decide +kernel
theorem dX10_things_121 : decode cX10_things 121 = .ok (.aload_n 0, 1) := by decide +kernel
theorem dX10_things_122 : decode cX10_things 122 = .ok (.aload_n 0, 1) := by decide +kernel
theorem dX10_things_123 : decode cX10_things 123 = .ok (.getfield 63, 3) := by decide +kernel
theorem dX10_things_126 : decode cX10_things 126 = .ok (.iload 7, 2) := by decide +kernel
theorem dX10_things_128 : decode cX10_things 128 = .ok (.iaload, 1) := by decide +kernel
theorem dX10_things_129 : decode cX10_things 129 = .ok (.aload_n 0, 1) := by decide +kernel
theorem dX10_things_130 : decode cX10_things 130 = .ok (.getfield 63, 3) := by decide +kernel
theorem dX10_things_133 : decode cX10_things 133 = .ok (.iload 7, 2) := by decide +kernel
theorem dX10_things_135 : decode cX10_things 135 = .ok (.iconst 1, 1) := by decide +kernel
theorem dX10_things_136 : decode cX10_things 136 = .ok (.iadd, 1) := by decide +kernel
theorem dX10_things_137 : decode cX10_things 137 = .ok (.iaload, 1) := by decide +kernel
theorem dX10_things_138 : decode cX10_things 138 = .ok (.aload_n 0, 1) := by decide +kernel
theorem dX10_things_139 : decode cX10_things 139 = .ok (.getfield 63, 3) := by decide +kernel
theorem dX10_things_142 : decode cX10_things 142 = .ok (.iload 7, 2) := by decide +kernel
theorem dX10_things_144 : decode cX10_things 144 = .ok (.iconst 2, 1) := by decide +kernel
theorem dX10_things_145 : decode cX10_things 145 = .ok (.iadd, 1) := by decide +kernel
theorem dX10_things_146 : decode cX10_things 146 = .ok (.iaload, 1) := by decide +kernel
theorem dX10_things_147 : decode cX10_things 147 = .ok (.invokevirtual 456, 3) := by decide +kernel
theorem dX10_things_150 : decode cX10_things 150 = .ok (.ifCond .lt 7, 3) := by decide +kernel
theorem dX10_things_153 : decode cX10_things 153 = .ok (.iconst 1, 1) := by decide +kernel
theorem dX10_things_154 : decode cX10_things 154 = .ok (.goto 4, 3) := by decide +kernel
theorem dX10_things_157 : decode cX10_things 157 = .ok (.iconst 0, 1) := by decide +kernel
theorem dX10_things_158 : decode cX10_things 158 = .ok (.iadd, 1) := by decide +kernel
theorem dX10_things_159 : decode cX10_things 159 = .ok (.istore 5, 2) := by decide +kernel
theorem dX10_things_161 : decode cX10_things 161 = .ok (.iinc 6 1, 3) := by decide +kernel
theorem dX10_things_164 : decode cX10_things 164 = .ok (.goto (-89), 3) := by decide +kernel
theorem dX10_things_167 : decode cX10_things 167 = .ok (.iload 5, 2) := by decide +kernel
theorem dX10_things_169 : decode cX10_things 169 = .ok (.ireturn, 1) := by decide +kernel
theorem dX10_over_0 : decode cX10_over 0 = .ok (.iload_n 0, 1) := by decide +kernel
theorem dX10_over_1 : decode cX10_over 1 = .ok (.ifCond .ne 7, 3) := by decide +kernel
theorem dX10_over_4 : decode cX10_over 4 = .ok (.iconst (-1), 1) := by decide +kernel
theorem dX10_over_5 : decode cX10_over 5 = .ok (.goto 22, 3) := by decide +kernel
theorem dX10_over_8 : decode cX10_over 8 = .ok (.iload_n 0, 1) := by decide +kernel
theorem dX10_over_9 : decode cX10_over 9 = .ok (.iconst 3, 1) := by decide +kernel
theorem dX10_over_10 : decode cX10_over 10 = .ok (.if_icmp .ne 7, 3) := by decide +kernel
theorem dX10_over_13 : decode cX10_over 13 = .ok (.iconst 1, 1) := by decide +kernel
theorem dX10_over_14 : decode cX10_over 14 = .ok (.goto 13, 3) := by decide +kernel
theorem dX10_over_17 : decode cX10_over 17 = .ok (.iload_n 0, 1) := by decide +kernel
theorem dX10_over_18 : decode cX10_over 18 = .ok (.iconst 4, 1) := by decide +kernel
theorem dX10_over_19 : decode cX10_over 19 = .ok (.if_icmp .ne 7, 3) := by decide +kernel
theorem dX10_over_22 : decode cX10_over 22 = .ok (.iconst 2, 1) := by decide +kernel
theorem dX10_over_23 : decode cX10_over 23 = .ok (.goto 4, 3) := by decide +kernel
theorem dX10_over_26 : decode cX10_over 26 = .ok (.iconst 0, 1) := by decide +kernel
theorem dX10_over_27 : decode cX10_over 27 = .ok (.ireturn, 1) := by decide +kernel
theorem dX10_taken_0 : decode cX10_taken 0 = .ok (.iload_n 2, 1) := by decide +kernel
theorem dX10_taken_1 : decode cX10_taken 1 = .ok (.i2l, 1) := by decide +kernel
theorem dX10_taken_2 : decode cX10_taken 2 = .ok (.lconst 0, 1) := by decide +kernel
theorem dX10_taken_3 : decode cX10_taken 3 = .ok (.ldc2_w 103, 3) := by decide +kernel
theorem dX10_taken_6 : decode cX10_taken 6 = .ok (.invokestatic 76, 3) := by decide +kernel
theorem dX10_taken_9 : decode cX10_taken 9 = .ok (.ifCond .ne 6, 3) := by decide +kernel
theorem dX10_taken_12 : decode cX10_taken 12 = .ok (.bipush (-2), 2) := by decide +kernel
theorem dX10_taken_14 : decode cX10_taken 14 = .ok (.ireturn, 1) := by decide +kernel
theorem dX10_taken_15 : decode cX10_taken 15 = .ok (.aload_n 0, 1) := by decide +kernel
theorem dX10_taken_16 : decode cX10_taken 16 = .ok (.iload_n 1, 1) := by decide +kernel
theorem dX10_taken_17 : decode cX10_taken 17 = .ok (.invokevirtual 84, 3) := by decide +kernel
theorem dX10_taken_20 : decode cX10_taken 20 = .ok (.ifCond .ne 6, 3) := by decide +kernel
theorem dX10_taken_23 : decode cX10_taken 23 = .ok (.bipush (-11), 2) := by decide +kernel
theorem dX10_taken_25 : decode cX10_taken 25 = .ok (.ireturn, 1) := by decide +kernel
theorem dX10_taken_26 : decode cX10_taken 26 = .ok (.aload_n 0, 1) := by decide +kernel
theorem dX10_taken_27 : decode cX10_taken 27 = .ok (.getfield 23, 3) := by decide +kernel
theorem dX10_taken_30 : decode cX10_taken 30 = .ok (.iload_n 1, 1) := by decide +kernel
theorem dX10_taken_31 : decode cX10_taken 31 = .ok (.iaload, 1) := by decide +kernel
theorem dX10_taken_32 : decode cX10_taken 32 = .ok (.istore_n 3, 1) := by decide +kernel
theorem dX10_taken_33 : decode cX10_taken 33 = .ok (.iload_n 3, 1) := by decide +kernel
theorem dX10_taken_34 : decode cX10_taken 34 = .ok (.iconst (-1), 1) := by decide +kernel
theorem dX10_taken_35 : decode cX10_taken 35 = .ok (.if_icmp .eq 16, 3) := by decide +kernel
theorem dX10_taken_38 : decode cX10_taken 38 = .ok (.iload_n 3, 1) := by decide +kernel
theorem dX10_taken_39 : decode cX10_taken 39 = .ok (.iload_n 2, 1) := by decide +kernel
theorem dX10_taken_40 : decode cX10_taken 40 = .ok (.if_icmp .eq 11, 3) := by decide +kernel
theorem dX10_taken_43 : decode cX10_taken 43 = .ok (.iload_n 3, 1) := by decide +kernel
theorem dX10_taken_44 : decode cX10_taken 44 = .ok (.invokestatic 459, 3) := by decide +kernel
theorem dX10_taken_47 : decode cX10_taken 47 = .ok (.istore_n 3, 1) := by decide +kernel
theorem dX10_taken_48 : decode cX10_taken 48 = .ok (.goto (-15), 3) := by decide +kernel
theorem dX10_taken_51 : decode cX10_taken 51 = .ok (.iload_n 3, 1) := by decide +kernel
theorem dX10_taken_52 : decode cX10_taken 52 = .ok (.iload_n 2, 1) := by decide +kernel
theorem dX10_taken_53 : decode cX10_taken 53 = .ok (.if_icmp .ne 12, 3) := by decide +kernel
theorem dX10_taken_56 : decode cX10_taken 56 = .ok (.aload_n 0, 1) := by decide +kernel
theorem dX10_taken_57 : decode cX10_taken 57 = .ok (.getfield 26, 3) := by decide +kernel
theorem dX10_taken_60 : decode cX10_taken 60 = .ok (.iload_n 1, 1) := by decide +kernel
theorem dX10_taken_61 : decode cX10_taken 61 = .ok (.iaload, 1) := by decide +kernel
theorem dX10_taken_62 : decode cX10_taken 62 = .ok (.goto 5, 3) := by decide +kernel
theorem dX10_taken_65 : decode cX10_taken 65 = .ok (.bipush (-13), 2) := by decide +kernel
theorem dX10_taken_67 : decode cX10_taken 67 = .ok (.ireturn, 1) := by decide +kernel
theorem dL_law_0 : decode cL_law 0 = .ok (.new 7, 3) := by decide +kernel
theorem dL_law_3 : decode cL_law 3 = .ok (.dup, 1) := by decide +kernel
theorem dL_law_4 : decode cL_law 4 = .ok (.invokespecial 9, 3) := by decide +kernel
theorem dL_law_7 : decode cL_law 7 = .ok (.astore_n 1, 1) := by decide +kernel
theorem dL_law_8 : decode cL_law 8 = .ok (.new 10, 3) := by decide +kernel
theorem dL_law_11 : decode cL_law 11 = .ok (.dup, 1) := by decide +kernel
theorem dL_law_12 : decode cL_law 12 = .ok (.invokespecial 12, 3) := by decide +kernel
theorem dL_law_15 : decode cL_law 15 = .ok (.astore_n 2, 1) := by decide +kernel
theorem dL_law_16 : decode cL_law 16 = .ok (.iconst 0, 1) := by decide +kernel
theorem dL_law_17 : decode cL_law 17 = .ok (.istore_n 3, 1) := by decide +kernel
theorem dL_law_18 : decode cL_law 18 = .ok (.iload_n 3, 1) := by decide +kernel
theorem dL_law_19 : decode cL_law 19 = .ok (.aload_n 0, 1) := by decide +kernel
theorem dL_law_20 : decode cL_law 20 = .ok (.arraylength, 1) := by decide +kernel
theorem dL_law_21 : decode cL_law 21 = .ok (.bipush 6, 2) := by decide +kernel
theorem dL_law_23 : decode cL_law 23 = .ok (.isub, 1) := by decide +kernel
theorem dL_law_24 : decode cL_law 24 = .ok (.if_icmp .gt 1105, 3) := by decide +kernel
theorem dL_law_27 : decode cL_law 27 = .ok (.aload_n 0, 1) := by decide +kernel
theorem dL_law_28 : decode cL_law 28 = .ok (.iload_n 3, 1) := by decide +kernel
theorem dL_law_29 : decode cL_law 29 = .ok (.iaload, 1) := by decide +kernel
theorem dL_law_30 : decode cL_law 30 = .ok (.bipush 31, 2) := by decide +kernel
theorem dL_law_32 : decode cL_law 32 = .ok (.iand, 1) := by decide +kernel
theorem dL_law_33 : decode cL_law 33 = .ok (.tableswitch 1090 0 29 #[135, 178, 221, 254, 277, 290, 313, 346, 379, 412, 435, 459, 483, 506, 530, 553, 586, 619, 662, 696, 739, 762, 806, 819, 832, 855, 898, 941, 1004, 1057], 135) := by decide +kernel
theorem dL_law_168 : decode cL_law 168 = .ok (.aload_n 1, 1) := by decide +kernel
theorem dL_law_169 : decode cL_law 169 = .ok (.aload_n 0, 1) := by decide +kernel
theorem dL_law_170 : decode cL_law 170 = .ok (.iload_n 3, 1) := by decide +kernel
theorem dL_law_171 : decode cL_law 171 = .ok (.iconst 1, 1) := by decide +kernel
theorem dL_law_172 : decode cL_law 172 = .ok (.iadd, 1) := by decide +kernel
theorem dL_law_173 : decode cL_law 173 = .ok (.iaload, 1) := by decide +kernel
theorem dL_law_174 : decode cL_law 174 = .ok (.aload_n 0, 1) := by decide +kernel
theorem dL_law_175 : decode cL_law 175 = .ok (.iload_n 3, 1) := by decide +kernel
theorem dL_law_176 : decode cL_law 176 = .ok (.iconst 2, 1) := by decide +kernel
theorem dL_law_177 : decode cL_law 177 = .ok (.iadd, 1) := by decide +kernel
theorem dL_law_178 : decode cL_law 178 = .ok (.iaload, 1) := by decide +kernel
theorem dL_law_179 : decode cL_law 179 = .ok (.aload_n 0, 1) := by decide +kernel
theorem dL_law_180 : decode cL_law 180 = .ok (.iload_n 3, 1) := by decide +kernel
theorem dL_law_181 : decode cL_law 181 = .ok (.iconst 3, 1) := by decide +kernel
theorem dL_law_182 : decode cL_law 182 = .ok (.iadd, 1) := by decide +kernel
theorem dL_law_183 : decode cL_law 183 = .ok (.iaload, 1) := by decide +kernel
theorem dL_law_184 : decode cL_law 184 = .ok (.invokevirtual 13, 3) := by decide +kernel
theorem dL_law_187 : decode cL_law 187 = .ok (.aload_n 2, 1) := by decide +kernel
theorem dL_law_188 : decode cL_law 188 = .ok (.aload_n 0, 1) := by decide +kernel
theorem dL_law_189 : decode cL_law 189 = .ok (.iload_n 3, 1) := by decide +kernel
theorem dL_law_190 : decode cL_law 190 = .ok (.iconst 1, 1) := by decide +kernel
theorem dL_law_191 : decode cL_law 191 = .ok (.iadd, 1) := by decide +kernel
theorem dL_law_192 : decode cL_law 192 = .ok (.iaload, 1) := by decide +kernel
theorem dL_law_193 : decode cL_law 193 = .ok (.aload_n 0, 1) := by decide +kernel
theorem dL_law_194 : decode cL_law 194 = .ok (.iload_n 3, 1) := by decide +kernel
theorem dL_law_195 : decode cL_law 195 = .ok (.iconst 2, 1) := by decide +kernel
theorem dL_law_196 : decode cL_law 196 = .ok (.iadd, 1) := by decide +kernel
theorem dL_law_197 : decode cL_law 197 = .ok (.iaload, 1) := by decide +kernel
theorem dL_law_198 : decode cL_law 198 = .ok (.aload_n 0, 1) := by decide +kernel
theorem dL_law_199 : decode cL_law 199 = .ok (.iload_n 3, 1) := by decide +kernel
theorem dL_law_200 : decode cL_law 200 = .ok (.iconst 3, 1) := by decide +kernel
theorem dL_law_201 : decode cL_law 201 = .ok (.iadd, 1) := by decide +kernel
theorem dL_law_202 : decode cL_law 202 = .ok (.iaload, 1) := by decide +kernel
theorem dL_law_203 : decode cL_law 203 = .ok (.invokevirtual 17, 3) := by decide +kernel
theorem dL_law_206 : decode cL_law 206 = .ok (.if_icmp .eq 917, 3) := by decide +kernel
theorem dL_law_209 : decode cL_law 209 = .ok (.iconst 0, 1) := by decide +kernel
theorem dL_law_210 : decode cL_law 210 = .ok (.ireturn, 1) := by decide +kernel
theorem dL_law_211 : decode cL_law 211 = .ok (.aload_n 1, 1) := by decide +kernel
theorem dL_law_212 : decode cL_law 212 = .ok (.aload_n 0, 1) := by decide +kernel
theorem dL_law_213 : decode cL_law 213 = .ok (.iload_n 3, 1) := by decide +kernel
theorem dL_law_214 : decode cL_law 214 = .ok (.iconst 1, 1) := by decide +kernel
theorem dL_law_215 : decode cL_law 215 = .ok (.iadd, 1) := by decide +kernel
theorem dL_law_216 : decode cL_law 216 = .ok (.iaload, 1) := by decide +kernel
theorem dL_law_217 : decode cL_law 217 = .ok (.aload_n 0, 1) := by decide +kernel
theorem dL_law_218 : decode cL_law 218 = .ok (.iload_n 3, 1) := by decide +kernel
theorem dL_law_219 : decode cL_law 219 = .ok (.iconst 2, 1) := by decide +kernel
theorem dL_law_220 : decode cL_law 220 = .ok (.iadd, 1) := by decide +kernel
theorem dL_law_221 : decode cL_law 221 = .ok (.iaload, 1) := by decide +kernel
theorem dL_law_222 : decode cL_law 222 = .ok (.aload_n 0, 1) := by decide +kernel
theorem dL_law_223 : decode cL_law 223 = .ok (.iload_n 3, 1) := by decide +kernel
theorem dL_law_224 : decode cL_law 224 = .ok (.iconst 3, 1) := by decide +kernel
theorem dL_law_225 : decode cL_law 225 = .ok (.iadd, 1) := by decide +kernel
theorem dL_law_226 : decode cL_law 226 = .ok (.iaload, 1) := by decide +kernel
theorem dL_law_227 : decode cL_law 227 = .ok (.invokevirtual 18, 3) := by decide +kernel
theorem dL_law_230 : decode cL_law 230 = .ok (.aload_n 2, 1) := by decide +kernel
theorem dL_law_231 : decode cL_law 231 = .ok (.aload_n 0, 1) := by decide +kernel
theorem dL_law_232 : decode cL_law 232 = .ok (.iload_n 3, 1) := by decide +kernel
theorem dL_law_233 : decode cL_law 233 = .ok (.iconst 1, 1) := by decide +kernel
theorem dL_law_234 : decode cL_law 234 = .ok (.iadd, 1) := by decide +kernel
theorem dL_law_235 : decode cL_law 235 = .ok (.iaload, 1) := by decide +kernel
theorem dL_law_236 : decode cL_law 236 = .ok (.aload_n 0, 1) := by decide +kernel
theorem dL_law_237 : decode cL_law 237 = .ok (.iload_n 3, 1) := by decide +kernel
theorem dL_law_238 : decode cL_law 238 = .ok (.iconst 2, 1) := by decide +kernel
theorem dL_law_239 : decode cL_law 239 = .ok (.iadd, 1) := by decide +kernel
theorem dL_law_240 : decode cL_law 240 = .ok (.iaload, 1) := by decide +kernel
theorem dL_law_241 : decode cL_law 241 = .ok (.aload_n 0, 1) := by decide +kernel
theorem dL_law_242 : decode cL_law 242 = .ok (.iload_n 3, 1) := by decide +kernel
theorem dL_law_243 : decode cL_law 243 = .ok (.iconst 3, 1) := by decide +kernel
theorem dL_law_244 : decode cL_law 244 = .ok (.iadd, 1) := by decide +kernel
theorem dL_law_245 : decode cL_law 245 = .ok (.iaload, 1) := by decide +kernel
theorem dL_law_246 : decode cL_law 246 = .ok (.invokevirtual 21, 3) := by decide +kernel
theorem dL_law_249 : decode cL_law 249 = .ok (.if_icmp .eq 874, 3) := by decide +kernel
theorem dL_law_252 : decode cL_law 252 = .ok (.iconst 0, 1) := by decide +kernel
theorem dL_law_253 : decode cL_law 253 = .ok (.ireturn, 1) := by decide +kernel
theorem dL_law_254 : decode cL_law 254 = .ok (.aload_n 1, 1) := by decide +kernel
theorem dL_law_255 : decode cL_law 255 = .ok (.aload_n 0, 1) := by decide +kernel
theorem dL_law_256 : decode cL_law 256 = .ok (.iload_n 3, 1) := by decide +kernel
theorem dL_law_257 : decode cL_law 257 = .ok (.iconst 1, 1) := by decide +kernel
theorem dL_law_258 : decode cL_law 258 = .ok (.iadd, 1) := by decide +kernel
theorem dL_law_259 : decode cL_law 259 = .ok (.iaload, 1) := by decide +kernel
theorem dL_law_260 : decode cL_law 260 = .ok (.aload_n 0, 1) := by decide +kernel
theorem dL_law_261 : decode cL_law 261 = .ok (.iload_n 3, 1) := by decide +kernel
theorem dL_law_262 : decode cL_law 262 = .ok (.iconst 2, 1) := by decide +kernel
theorem dL_law_263 : decode cL_law 263 = .ok (.iadd, 1) := by decide +kernel
theorem dL_law_264 : decode cL_law 264 = .ok (.iaload, 1) := by decide +kernel
theorem dL_law_265 : decode cL_law 265 = .ok (.invokevirtual 22, 3) := by decide +kernel
theorem dL_law_268 : decode cL_law 268 = .ok (.aload_n 2, 1) := by decide +kernel
theorem dL_law_269 : decode cL_law 269 = .ok (.aload_n 0, 1) := by decide +kernel
theorem dL_law_270 : decode cL_law 270 = .ok (.iload_n 3, 1) := by decide +kernel
theorem dL_law_271 : decode cL_law 271 = .ok (.iconst 1, 1) := by decide +kernel
theorem dL_law_272 : decode cL_law 272 = .ok (.iadd, 1) := by decide +kernel
theorem dL_law_273 : decode cL_law 273 = .ok (.iaload, 1) := by decide +kernel
theorem dL_law_274 : decode cL_law 274 = .ok (.aload_n 0, 1) := by decide +kernel
theorem dL_law_275 : decode cL_law 275 = .ok (.iload_n 3, 1) := by decide +kernel
theorem dL_law_276 : decode cL_law 276 = .ok (.iconst 2, 1) := by decide +kernel
theorem dL_law_277 : decode cL_law 277 = .ok (.iadd, 1) := by decide +kernel
theorem dL_law_278 : decode cL_law 278 = .ok (.iaload, 1) := by decide +kernel
theorem dL_law_279 : decode cL_law 279 = .ok (.invokevirtual 26, 3) := by decide +kernel
theorem dL_law_282 : decode cL_law 282 = .ok (.if_icmp .eq 841, 3) := by decide +kernel
theorem dL_law_285 : decode cL_law 285 = .ok (.iconst 0, 1) := by decide +kernel
theorem dL_law_286 : decode cL_law 286 = .ok (.ireturn, 1) := by decide +kernel
theorem dL_law_287 : decode cL_law 287 = .ok (.aload_n 1, 1) := by decide +kernel
theorem dL_law_288 : decode cL_law 288 = .ok (.aload_n 0, 1) := by decide +kernel
theorem dL_law_289 : decode cL_law 289 = .ok (.iload_n 3, 1) := by decide +kernel
theorem dL_law_290 : decode cL_law 290 = .ok (.iconst 1, 1) := by decide +kernel
theorem dL_law_291 : decode cL_law 291 = .ok (.iadd, 1) := by decide +kernel
theorem dL_law_292 : decode cL_law 292 = .ok (.iaload, 1) := by decide +kernel
theorem dL_law_293 : decode cL_law 293 = .ok (.invokevirtual 27, 3) := by decide +kernel
theorem dL_law_296 : decode cL_law 296 = .ok (.aload_n 2, 1) := by decide +kernel
theorem dL_law_297 : decode cL_law 297 = .ok (.aload_n 0, 1) := by decide +kernel
theorem dL_law_298 : decode cL_law 298 = .ok (.iload_n 3, 1) := by decide +kernel
theorem dL_law_299 : decode cL_law 299 = .ok (.iconst 1, 1) := by decide +kernel
theorem dL_law_300 : decode cL_law 300 = .ok (.iadd, 1) := by decide +kernel
theorem dL_law_301 : decode cL_law 301 = .ok (.iaload, 1) := by decide +kernel
theorem dL_law_302 : decode cL_law 302 = .ok (.invokevirtual 31, 3) := by decide +kernel
theorem dL_law_305 : decode cL_law 305 = .ok (.if_icmp .eq 818, 3) := by decide +kernel
theorem dL_law_308 : decode cL_law 308 = .ok (.iconst 0, 1) := by decide +kernel
theorem dL_law_309 : decode cL_law 309 = .ok (.ireturn, 1) := by decide +kernel
theorem dL_law_310 : decode cL_law 310 = .ok (.aload_n 1, 1) := by decide +kernel
theorem dL_law_311 : decode cL_law 311 = .ok (.invokevirtual 32, 3) := by decide +kernel
theorem dL_law_314 : decode cL_law 314 = .ok (.aload_n 2, 1) := by decide +kernel
theorem dL_law_315 : decode cL_law 315 = .ok (.invokevirtual 36, 3) := by decide +kernel
theorem dL_law_318 : decode cL_law 318 = .ok (.if_icmp .eq 805, 3) := by decide +kernel
theorem dL_law_321 : decode cL_law 321 = .ok (.iconst 0, 1) := by decide +kernel
theorem dL_law_322 : decode cL_law 322 = .ok (.ireturn, 1) := by decide +kernel
theorem dL_law_323 : decode cL_law 323 = .ok (.aload_n 1, 1) := by decide +kernel
theorem dL_law_324 : decode cL_law 324 = .ok (.aload_n 0, 1) := by decide +kernel
theorem dL_law_325 : decode cL_law 325 = .ok (.iload_n 3, 1) := by decide +kernel
theorem dL_law_326 : decode cL_law 326 = .ok (.iconst 1, 1) := by decide +kernel
theorem dL_law_327 : decode cL_law 327 = .ok (.iadd, 1) := by decide +kernel
theorem dL_law_328 : decode cL_law 328 = .ok (.iaload, 1) := by decide +kernel
theorem dL_law_329 : decode cL_law 329 = .ok (.invokevirtual 37, 3) := by decide +kernel
theorem dL_law_332 : decode cL_law 332 = .ok (.aload_n 2, 1) := by decide +kernel
theorem dL_law_333 : decode cL_law 333 = .ok (.aload_n 0, 1) := by decide +kernel
theorem dL_law_334 : decode cL_law 334 = .ok (.iload_n 3, 1) := by decide +kernel
theorem dL_law_335 : decode cL_law 335 = .ok (.iconst 1, 1) := by decide +kernel
theorem dL_law_336 : decode cL_law 336 = .ok (.iadd, 1) := by decide +kernel
theorem dL_law_337 : decode cL_law 337 = .ok (.iaload, 1) := by decide +kernel
theorem dL_law_338 : decode cL_law 338 = .ok (.invokevirtual 40, 3) := by decide +kernel
theorem dL_law_341 : decode cL_law 341 = .ok (.if_icmp .eq 782, 3) := by decide +kernel
theorem dL_law_344 : decode cL_law 344 = .ok (.iconst 0, 1) := by decide +kernel
theorem dL_law_345 : decode cL_law 345 = .ok (.ireturn, 1) := by decide +kernel
theorem dL_law_346 : decode cL_law 346 = .ok (.aload_n 1, 1) := by decide +kernel
theorem dL_law_347 : decode cL_law 347 = .ok (.aload_n 0, 1) := by decide +kernel
theorem dL_law_348 : decode cL_law 348 = .ok (.iload_n 3, 1) := by decide +kernel
theorem dL_law_349 : decode cL_law 349 = .ok (.iconst 1, 1) := by decide +kernel
theorem dL_law_350 : decode cL_law 350 = .ok (.iadd, 1) := by decide +kernel
theorem dL_law_351 : decode cL_law 351 = .ok (.iaload, 1) := by decide +kernel
theorem dL_law_352 : decode cL_law 352 = .ok (.aload_n 0, 1) := by decide +kernel
theorem dL_law_353 : decode cL_law 353 = .ok (.iload_n 3, 1) := by decide +kernel
theorem dL_law_354 : decode cL_law 354 = .ok (.iconst 2, 1) := by decide +kernel
theorem dL_law_355 : decode cL_law 355 = .ok (.iadd, 1) := by decide +kernel
theorem dL_law_356 : decode cL_law 356 = .ok (.iaload, 1) := by decide +kernel
theorem dL_law_357 : decode cL_law 357 = .ok (.invokevirtual 41, 3) := by decide +kernel
theorem dL_law_360 : decode cL_law 360 = .ok (.aload_n 2, 1) := by decide +kernel
theorem dL_law_361 : decode cL_law 361 = .ok (.aload_n 0, 1) := by decide +kernel
theorem dL_law_362 : decode cL_law 362 = .ok (.iload_n 3, 1) := by decide +kernel
theorem dL_law_363 : decode cL_law 363 = .ok (.iconst 1, 1) := by decide +kernel
theorem dL_law_364 : decode cL_law 364 = .ok (.iadd, 1) := by decide +kernel
theorem dL_law_365 : decode cL_law 365 = .ok (.iaload, 1) := by decide +kernel
theorem dL_law_366 : decode cL_law 366 = .ok (.aload_n 0, 1) := by decide +kernel
theorem dL_law_367 : decode cL_law 367 = .ok (.iload_n 3, 1) := by decide +kernel
theorem dL_law_368 : decode cL_law 368 = .ok (.iconst 2, 1) := by decide +kernel
theorem dL_law_369 : decode cL_law 369 = .ok (.iadd, 1) := by decide +kernel
theorem dL_law_370 : decode cL_law 370 = .ok (.iaload, 1) := by decide +kernel
theorem dL_law_371 : decode cL_law 371 = .ok (.invokevirtual 44, 3) := by decide +kernel
theorem dL_law_374 : decode cL_law 374 = .ok (.if_icmp .eq 749, 3) := by decide +kernel
theorem dL_law_377 : decode cL_law 377 = .ok (.iconst 0, 1) := by decide +kernel
theorem dL_law_378 : decode cL_law 378 = .ok (.ireturn, 1) := by decide +kernel
theorem dL_law_379 : decode cL_law 379 = .ok (.aload_n 1, 1) := by decide +kernel
theorem dL_law_380 : decode cL_law 380 = .ok (.aload_n 0, 1) := by decide +kernel
theorem dL_law_381 : decode cL_law 381 = .ok (.iload_n 3, 1) := by decide +kernel
theorem dL_law_382 : decode cL_law 382 = .ok (.iconst 1, 1) := by decide +kernel
theorem dL_law_383 : decode cL_law 383 = .ok (.iadd, 1) := by decide +kernel
theorem dL_law_384 : decode cL_law 384 = .ok (.iaload, 1) := by decide +kernel
theorem dL_law_385 : decode cL_law 385 = .ok (.aload_n 0, 1) := by decide +kernel
theorem dL_law_386 : decode cL_law 386 = .ok (.iload_n 3, 1) := by decide +kernel
theorem dL_law_387 : decode cL_law 387 = .ok (.iconst 2, 1) := by decide +kernel
theorem dL_law_388 : decode cL_law 388 = .ok (.iadd, 1) := by decide +kernel
theorem dL_law_389 : decode cL_law 389 = .ok (.iaload, 1) := by decide +kernel
theorem dL_law_390 : decode cL_law 390 = .ok (.invokevirtual 45, 3) := by decide +kernel
theorem dL_law_393 : decode cL_law 393 = .ok (.aload_n 2, 1) := by decide +kernel
theorem dL_law_394 : decode cL_law 394 = .ok (.aload_n 0, 1) := by decide +kernel
theorem dL_law_395 : decode cL_law 395 = .ok (.iload_n 3, 1) := by decide +kernel
theorem dL_law_396 : decode cL_law 396 = .ok (.iconst 1, 1) := by decide +kernel
theorem dL_law_397 : decode cL_law 397 = .ok (.iadd, 1) := by decide +kernel
theorem dL_law_398 : decode cL_law 398 = .ok (.iaload, 1) := by decide +kernel
theorem dL_law_399 : decode cL_law 399 = .ok (.aload_n 0, 1) := by decide +kernel
theorem dL_law_400 : decode cL_law 400 = .ok (.iload_n 3, 1) := by decide +kernel
theorem dL_law_401 : decode cL_law 401 = .ok (.iconst 2, 1) := by decide +kernel
theorem dL_law_402 : decode cL_law 402 = .ok (.iadd, 1) := by decide +kernel
theorem dL_law_403 : decode cL_law 403 = .ok (.iaload, 1) := by decide +kernel
theorem dL_law_404 : decode cL_law 404 = .ok (.invokevirtual 48, 3) := by decide +kernel
theorem dL_law_407 : decode cL_law 407 = .ok (.if_icmp .eq 716, 3) := by decide +kernel
theorem dL_law_410 : decode cL_law 410 = .ok (.iconst 0, 1) := by decide +kernel
theorem dL_law_411 : decode cL_law 411 = .ok (.ireturn, 1) := by decide +kernel
theorem dL_law_412 : decode cL_law 412 = .ok (.aload_n 1, 1) := by decide +kernel
theorem dL_law_413 : decode cL_law 413 = .ok (.aload_n 0, 1) := by decide +kernel
theorem dL_law_414 : decode cL_law 414 = .ok (.iload_n 3, 1) := by decide +kernel
theorem dL_law_415 : decode cL_law 415 = .ok (.iconst 1, 1) := by decide +kernel
theorem dL_law_416 : decode cL_law 416 = .ok (.iadd, 1) := by decide +kernel
theorem dL_law_417 : decode cL_law 417 = .ok (.iaload, 1) := by decide +kernel
theorem dL_law_418 : decode cL_law 418 = .ok (.aload_n 0, 1) := by decide +kernel
theorem dL_law_419 : decode cL_law 419 = .ok (.iload_n 3, 1) := by decide +kernel
theorem dL_law_420 : decode cL_law 420 = .ok (.iconst 2, 1) := by decide +kernel
theorem dL_law_421 : decode cL_law 421 = .ok (.iadd, 1) := by decide +kernel
theorem dL_law_422 : decode cL_law 422 = .ok (.iaload, 1) := by decide +kernel
theorem dL_law_423 : decode cL_law 423 = .ok (.invokevirtual 49, 3) := by decide +kernel
theorem dL_law_426 : decode cL_law 426 = .ok (.aload_n 2, 1) := by decide +kernel
theorem dL_law_427 : decode cL_law 427 = .ok (.aload_n 0, 1) := by decide +kernel
theorem dL_law_428 : decode cL_law 428 = .ok (.iload_n 3, 1) := by decide +kernel
theorem dL_law_429 : decode cL_law 429 = .ok (.iconst 1, 1) := by decide +kernel
theorem dL_law_430 : decode cL_law 430 = .ok (.iadd, 1) := by decide +kernel
theorem dL_law_431 : decode cL_law 431 = .ok (.iaload, 1) := by decide +kernel
theorem dL_law_432 : decode cL_law 432 = .ok (.aload_n 0, 1) := by decide +kernel
theorem dL_law_433 : decode cL_law 433 = .ok (.iload_n 3, 1) := by decide +kernel
theorem dL_law_434 : decode cL_law 434 = .ok (.iconst 2, 1) := by decide +kernel
theorem dL_law_435 : decode cL_law 435 = .ok (.iadd, 1) := by decide +kernel
theorem dL_law_436 : decode cL_law 436 = .ok (.iaload, 1) := by decide +kernel
theorem dL_law_437 : decode cL_law 437 = .ok (.invokevirtual 52, 3) := by decide +kernel
theorem dL_law_440 : decode cL_law 440 = .ok (.if_icmp .eq 683, 3) := by decide +kernel
theorem dL_law_443 : decode cL_law 443 = .ok (.iconst 0, 1) := by decide +kernel
theorem dL_law_444 : decode cL_law 444 = .ok (.ireturn, 1) := by decide +kernel
theorem dL_law_445 : decode cL_law 445 = .ok (.aload_n 1, 1) := by decide +kernel
theorem dL_law_446 : decode cL_law 446 = .ok (.aload_n 0, 1) := by decide +kernel
theorem dL_law_447 : decode cL_law 447 = .ok (.iload_n 3, 1) := by decide +kernel
theorem dL_law_448 : decode cL_law 448 = .ok (.iconst 1, 1) := by decide +kernel
theorem dL_law_449 : decode cL_law 449 = .ok (.iadd, 1) := by decide +kernel
theorem dL_law_450 : decode cL_law 450 = .ok (.iaload, 1) := by decide +kernel
theorem dL_law_451 : decode cL_law 451 = .ok (.invokevirtual 53, 3) := by decide +kernel
theorem dL_law_454 : decode cL_law 454 = .ok (.aload_n 2, 1) := by decide +kernel
theorem dL_law_455 : decode cL_law 455 = .ok (.aload_n 0, 1) := by decide +kernel
theorem dL_law_456 : decode cL_law 456 = .ok (.iload_n 3, 1) := by decide +kernel
theorem dL_law_457 : decode cL_law 457 = .ok (.iconst 1, 1) := by decide +kernel
theorem dL_law_458 : decode cL_law 458 = .ok (.iadd, 1) := by decide +kernel
theorem dL_law_459 : decode cL_law 459 = .ok (.iaload, 1) := by decide +kernel
theorem dL_law_460 : decode cL_law 460 = .ok (.invokevirtual 56, 3) := by decide +kernel
theorem dL_law_463 : decode cL_law 463 = .ok (.if_icmp .eq 660, 3) := by decide +kernel
theorem dL_law_466 : decode cL_law 466 = .ok (.iconst 0, 1) := by decide +kernel
theorem dL_law_467 : decode cL_law 467 = .ok (.ireturn, 1) := by decide +kernel
theorem dL_law_468 : decode cL_law 468 = .ok (.aload_n 1, 1) := by decide +kernel
theorem dL_law_469 : decode cL_law 469 = .ok (.aload_n 0, 1) := by decide +kernel
theorem dL_law_470 : decode cL_law 470 = .ok (.iload_n 3, 1) := by decide +kernel
theorem dL_law_471 : decode cL_law 471 = .ok (.iconst 1, 1) := by decide +kernel
theorem dL_law_472 : decode cL_law 472 = .ok (.iadd, 1) := by decide +kernel
theorem dL_law_473 : decode cL_law 473 = .ok (.iaload, 1) := by decide +kernel
theorem dL_law_474 : decode cL_law 474 = .ok (.invokevirtual 57, 3) := by decide +kernel
theorem dL_law_477 : decode cL_law 477 = .ok (.aload_n 2, 1) := by decide +kernel
theorem dL_law_478 : decode cL_law 478 = .ok (.aload_n 0, 1) := by decide +kernel
theorem dL_law_479 : decode cL_law 479 = .ok (.iload_n 3, 1) := by decide +kernel
theorem dL_law_480 : decode cL_law 480 = .ok (.iconst 1, 1) := by decide +kernel
theorem dL_law_481 : decode cL_law 481 = .ok (.iadd, 1) := by decide +kernel
theorem dL_law_482 : decode cL_law 482 = .ok (.iaload, 1) := by decide +kernel
theorem dL_law_483 : decode cL_law 483 = .ok (.invokevirtual 61, 3) := by decide +kernel
theorem dL_law_486 : decode cL_law 486 = .ok (.lcmp, 1) := by decide +kernel
theorem dL_law_487 : decode cL_law 487 = .ok (.ifCond .eq 636, 3) := by decide +kernel
theorem dL_law_490 : decode cL_law 490 = .ok (.iconst 0, 1) := by decide +kernel
theorem dL_law_491 : decode cL_law 491 = .ok (.ireturn, 1) := by decide +kernel
theorem dL_law_492 : decode cL_law 492 = .ok (.aload_n 1, 1) := by decide +kernel
theorem dL_law_493 : decode cL_law 493 = .ok (.aload_n 0, 1) := by decide +kernel
theorem dL_law_494 : decode cL_law 494 = .ok (.iload_n 3, 1) := by decide +kernel
theorem dL_law_495 : decode cL_law 495 = .ok (.iconst 1, 1) := by decide +kernel
theorem dL_law_496 : decode cL_law 496 = .ok (.iadd, 1) := by decide +kernel
theorem dL_law_497 : decode cL_law 497 = .ok (.iaload, 1) := by decide +kernel
theorem dL_law_498 : decode cL_law 498 = .ok (.invokevirtual 62, 3) := by decide +kernel
theorem dL_law_501 : decode cL_law 501 = .ok (.aload_n 2, 1) := by decide +kernel
theorem dL_law_502 : decode cL_law 502 = .ok (.aload_n 0, 1) := by decide +kernel
theorem dL_law_503 : decode cL_law 503 = .ok (.iload_n 3, 1) := by decide +kernel
theorem dL_law_504 : decode cL_law 504 = .ok (.iconst 1, 1) := by decide +kernel
theorem dL_law_505 : decode cL_law 505 = .ok (.iadd, 1) := by decide +kernel
theorem dL_law_506 : decode cL_law 506 = .ok (.iaload, 1) := by decide +kernel
theorem dL_law_507 : decode cL_law 507 = .ok (.invokevirtual 65, 3) := by decide +kernel
theorem dL_law_510 : decode cL_law 510 = .ok (.lcmp, 1) := by decide +kernel
theorem dL_law_511 : decode cL_law 511 = .ok (.ifCond .eq 612, 3) := by decide +kernel
theorem dL_law_514 : decode cL_law 514 = .ok (.iconst 0, 1) := by decide +kernel
theorem dL_law_515 : decode cL_law 515 = .ok (.ireturn, 1) := by decide +kernel
theorem dL_law_516 : decode cL_law 516 = .ok (.aload_n 1, 1) := by decide +kernel
theorem dL_law_517 : decode cL_law 517 = .ok (.aload_n 0, 1) := by decide +kernel
theorem dL_law_518 : decode cL_law 518 = .ok (.iload_n 3, 1) := by decide +kernel
theorem dL_law_519 : decode cL_law 519 = .ok (.iconst 1, 1) := by decide +kernel
theorem dL_law_520 : decode cL_law 520 = .ok (.iadd, 1) := by decide +kernel
theorem dL_law_521 : decode cL_law 521 = .ok (.iaload, 1) := by decide +kernel
theorem dL_law_522 : decode cL_law 522 = .ok (.invokevirtual 66, 3) := by decide +kernel
theorem dL_law_525 : decode cL_law 525 = .ok (.aload_n 2, 1) := by decide +kernel
theorem dL_law_526 : decode cL_law 526 = .ok (.aload_n 0, 1) := by decide +kernel
theorem dL_law_527 : decode cL_law 527 = .ok (.iload_n 3, 1) := by decide +kernel
theorem dL_law_528 : decode cL_law 528 = .ok (.iconst 1, 1) := by decide +kernel
theorem dL_law_529 : decode cL_law 529 = .ok (.iadd, 1) := by decide +kernel
theorem dL_law_530 : decode cL_law 530 = .ok (.iaload, 1) := by decide +kernel
theorem dL_law_531 : decode cL_law 531 = .ok (.invokevirtual 69, 3) := by decide +kernel
theorem dL_law_534 : decode cL_law 534 = .ok (.if_icmp .eq 589, 3) := by decide +kernel
theorem dL_law_537 : decode cL_law 537 = .ok (.iconst 0, 1) := by decide +kernel
theorem dL_law_538 : decode cL_law 538 = .ok (.ireturn, 1) := by decide +kernel
theorem dL_law_539 : decode cL_law 539 = .ok (.aload_n 1, 1) := by decide +kernel
theorem dL_law_540 : decode cL_law 540 = .ok (.aload_n 0, 1) := by decide +kernel
theorem dL_law_541 : decode cL_law 541 = .ok (.iload_n 3, 1) := by decide +kernel
theorem dL_law_542 : decode cL_law 542 = .ok (.iconst 1, 1) := by decide +kernel
theorem dL_law_543 : decode cL_law 543 = .ok (.iadd, 1) := by decide +kernel
theorem dL_law_544 : decode cL_law 544 = .ok (.iaload, 1) := by decide +kernel
theorem dL_law_545 : decode cL_law 545 = .ok (.invokevirtual 70, 3) := by decide +kernel
theorem dL_law_548 : decode cL_law 548 = .ok (.aload_n 2, 1) := by decide +kernel
theorem dL_law_549 : decode cL_law 549 = .ok (.aload_n 0, 1) := by decide +kernel
theorem dL_law_550 : decode cL_law 550 = .ok (.iload_n 3, 1) := by decide +kernel
theorem dL_law_551 : decode cL_law 551 = .ok (.iconst 1, 1) := by decide +kernel
theorem dL_law_552 : decode cL_law 552 = .ok (.iadd, 1) := by decide +kernel
theorem dL_law_553 : decode cL_law 553 = .ok (.iaload, 1) := by decide +kernel
theorem dL_law_554 : decode cL_law 554 = .ok (.invokevirtual 73, 3) := by decide +kernel
theorem dL_law_557 : decode cL_law 557 = .ok (.lcmp, 1) := by decide +kernel
theorem dL_law_558 : decode cL_law 558 = .ok (.ifCond .eq 565, 3) := by decide +kernel
theorem dL_law_561 : decode cL_law 561 = .ok (.iconst 0, 1) := by decide +kernel
theorem dL_law_562 : decode cL_law 562 = .ok (.ireturn, 1) := by decide +kernel
theorem dL_law_563 : decode cL_law 563 = .ok (.aload_n 1, 1) := by decide +kernel
theorem dL_law_564 : decode cL_law 564 = .ok (.aload_n 0, 1) := by decide +kernel
theorem dL_law_565 : decode cL_law 565 = .ok (.iload_n 3, 1) := by decide +kernel
theorem dL_law_566 : decode cL_law 566 = .ok (.iconst 1, 1) := by decide +kernel
theorem dL_law_567 : decode cL_law 567 = .ok (.iadd, 1) := by decide +kernel
theorem dL_law_568 : decode cL_law 568 = .ok (.iaload, 1) := by decide +kernel
theorem dL_law_569 : decode cL_law 569 = .ok (.invokevirtual 74, 3) := by decide +kernel
theorem dL_law_572 : decode cL_law 572 = .ok (.aload_n 2, 1) := by decide +kernel
theorem dL_law_573 : decode cL_law 573 = .ok (.aload_n 0, 1) := by decide +kernel
theorem dL_law_574 : decode cL_law 574 = .ok (.iload_n 3, 1) := by decide +kernel
theorem dL_law_575 : decode cL_law 575 = .ok (.iconst 1, 1) := by decide +kernel
theorem dL_law_576 : decode cL_law 576 = .ok (.iadd, 1) := by decide +kernel
theorem dL_law_577 : decode cL_law 577 = .ok (.iaload, 1) := by decide +kernel
theorem dL_law_578 : decode cL_law 578 = .ok (.invokevirtual 77, 3) := by decide +kernel
theorem dL_law_581 : decode cL_law 581 = .ok (.if_icmp .eq 542, 3) := by decide +kernel
theorem dL_law_584 : decode cL_law 584 = .ok (.iconst 0, 1) := by decide +kernel
theorem dL_law_585 : decode cL_law 585 = .ok (.ireturn, 1) := by decide +kernel
theorem dL_law_586 : decode cL_law 586 = .ok (.aload_n 1, 1) := by decide +kernel
theorem dL_law_587 : decode cL_law 587 = .ok (.aload_n 0, 1) := by decide +kernel
theorem dL_law_588 : decode cL_law 588 = .ok (.iload_n 3, 1) := by decide +kernel
theorem dL_law_589 : decode cL_law 589 = .ok (.iconst 1, 1) := by decide +kernel
theorem dL_law_590 : decode cL_law 590 = .ok (.iadd, 1) := by decide +kernel
theorem dL_law_591 : decode cL_law 591 = .ok (.iaload, 1) := by decide +kernel
theorem dL_law_592 : decode cL_law 592 = .ok (.aload_n 0, 1) := by decide +kernel
theorem dL_law_593 : decode cL_law 593 = .ok (.iload_n 3, 1) := by decide +kernel
theorem dL_law_594 : decode cL_law 594 = .ok (.iconst 2, 1) := by decide +kernel
theorem dL_law_595 : decode cL_law 595 = .ok (.iadd, 1) := by decide +kernel
theorem dL_law_596 : decode cL_law 596 = .ok (.iaload, 1) := by decide +kernel
theorem dL_law_597 : decode cL_law 597 = .ok (.invokevirtual 78, 3) := by decide +kernel
theorem dL_law_600 : decode cL_law 600 = .ok (.aload_n 2, 1) := by decide +kernel
theorem dL_law_601 : decode cL_law 601 = .ok (.aload_n 0, 1) := by decide +kernel
theorem dL_law_602 : decode cL_law 602 = .ok (.iload_n 3, 1) := by decide +kernel
theorem dL_law_603 : decode cL_law 603 = .ok (.iconst 1, 1) := by decide +kernel
theorem dL_law_604 : decode cL_law 604 = .ok (.iadd, 1) := by decide +kernel
theorem dL_law_605 : decode cL_law 605 = .ok (.iaload, 1) := by decide +kernel
theorem dL_law_606 : decode cL_law 606 = .ok (.aload_n 0, 1) := by decide +kernel
theorem dL_law_607 : decode cL_law 607 = .ok (.iload_n 3, 1) := by decide +kernel
theorem dL_law_608 : decode cL_law 608 = .ok (.iconst 2, 1) := by decide +kernel
theorem dL_law_609 : decode cL_law 609 = .ok (.iadd, 1) := by decide +kernel
theorem dL_law_610 : decode cL_law 610 = .ok (.iaload, 1) := by decide +kernel
theorem dL_law_611 : decode cL_law 611 = .ok (.invokevirtual 81, 3) := by decide +kernel
theorem dL_law_614 : decode cL_law 614 = .ok (.if_icmp .eq 509, 3) := by decide +kernel
theorem dL_law_617 : decode cL_law 617 = .ok (.iconst 0, 1) := by decide +kernel
theorem dL_law_618 : decode cL_law 618 = .ok (.ireturn, 1) := by decide +kernel
theorem dL_law_619 : decode cL_law 619 = .ok (.aload_n 1, 1) := by decide +kernel
theorem dL_law_620 : decode cL_law 620 = .ok (.aload_n 0, 1) := by decide +kernel
theorem dL_law_621 : decode cL_law 621 = .ok (.iload_n 3, 1) := by decide +kernel
theorem dL_law_622 : decode cL_law 622 = .ok (.iconst 1, 1) := by decide +kernel
theorem dL_law_623 : decode cL_law 623 = .ok (.iadd, 1) := by decide +kernel
theorem dL_law_624 : decode cL_law 624 = .ok (.iaload, 1) := by decide +kernel
theorem dL_law_625 : decode cL_law 625 = .ok (.aload_n 0, 1) := by decide +kernel
theorem dL_law_626 : decode cL_law 626 = .ok (.iload_n 3, 1) := by decide +kernel
theorem dL_law_627 : decode cL_law 627 = .ok (.iconst 2, 1) := by decide +kernel
theorem dL_law_628 : decode cL_law 628 = .ok (.iadd, 1) := by decide +kernel
theorem dL_law_629 : decode cL_law 629 = .ok (.iaload, 1) := by decide +kernel
theorem dL_law_630 : decode cL_law 630 = .ok (.invokevirtual 82, 3) := by decide +kernel
theorem dL_law_633 : decode cL_law 633 = .ok (.aload_n 2, 1) := by decide +kernel
theorem dL_law_634 : decode cL_law 634 = .ok (.aload_n 0, 1) := by decide +kernel
theorem dL_law_635 : decode cL_law 635 = .ok (.iload_n 3, 1) := by decide +kernel
theorem dL_law_636 : decode cL_law 636 = .ok (.iconst 1, 1) := by decide +kernel
theorem dL_law_637 : decode cL_law 637 = .ok (.iadd, 1) := by decide +kernel
theorem dL_law_638 : decode cL_law 638 = .ok (.iaload, 1) := by decide +kernel
theorem dL_law_639 : decode cL_law 639 = .ok (.aload_n 0, 1) := by decide +kernel
theorem dL_law_640 : decode cL_law 640 = .ok (.iload_n 3, 1) := by decide +kernel
theorem dL_law_641 : decode cL_law 641 = .ok (.iconst 2, 1) := by decide +kernel
theorem dL_law_642 : decode cL_law 642 = .ok (.iadd, 1) := by decide +kernel
theorem dL_law_643 : decode cL_law 643 = .ok (.iaload, 1) := by decide +kernel
theorem dL_law_644 : decode cL_law 644 = .ok (.invokevirtual 85, 3) := by decide +kernel
theorem dL_law_647 : decode cL_law 647 = .ok (.if_icmp .eq 476, 3) := by decide +kernel
theorem dL_law_650 : decode cL_law 650 = .ok (.iconst 0, 1) := by decide +kernel
theorem dL_law_651 : decode cL_law 651 = .ok (.ireturn, 1) := by decide +kernel
theorem dL_law_652 : decode cL_law 652 = .ok (.aload_n 1, 1) := by decide +kernel
theorem dL_law_653 : decode cL_law 653 = .ok (.aload_n 0, 1) := by decide +kernel
theorem dL_law_654 : decode cL_law 654 = .ok (.iload_n 3, 1) := by decide +kernel
theorem dL_law_655 : decode cL_law 655 = .ok (.iconst 1, 1) := by decide +kernel
theorem dL_law_656 : decode cL_law 656 = .ok (.iadd, 1) := by decide +kernel
theorem dL_law_657 : decode cL_law 657 = .ok (.iaload, 1) := by decide +kernel
theorem dL_law_658 : decode cL_law 658 = .ok (.aload_n 0, 1) := by decide +kernel
theorem dL_law_659 : decode cL_law 659 = .ok (.iload_n 3, 1) := by decide +kernel
theorem dL_law_660 : decode cL_law 660 = .ok (.iconst 2, 1) := by decide +kernel
theorem dL_law_661 : decode cL_law 661 = .ok (.iadd, 1) := by decide +kernel
theorem dL_law_662 : decode cL_law 662 = .ok (.iaload, 1) := by decide +kernel
theorem dL_law_663 : decode cL_law 663 = .ok (.aload_n 0, 1) := by decide +kernel
theorem dL_law_664 : decode cL_law 664 = .ok (.iload_n 3, 1) := by decide +kernel
theorem dL_law_665 : decode cL_law 665 = .ok (.iconst 3, 1) := by decide +kernel
theorem dL_law_666 : decode cL_law 666 = .ok (.iadd, 1) := by decide +kernel
theorem dL_law_667 : decode cL_law 667 = .ok (.iaload, 1) := by decide +kernel
theorem dL_law_668 : decode cL_law 668 = .ok (.invokevirtual 86, 3) := by decide +kernel
theorem dL_law_671 : decode cL_law 671 = .ok (.aload_n 2, 1) := by decide +kernel
theorem dL_law_672 : decode cL_law 672 = .ok (.aload_n 0, 1) := by decide +kernel
theorem dL_law_673 : decode cL_law 673 = .ok (.iload_n 3, 1) := by decide +kernel
theorem dL_law_674 : decode cL_law 674 = .ok (.iconst 1, 1) := by decide +kernel
theorem dL_law_675 : decode cL_law 675 = .ok (.iadd, 1) := by decide +kernel
theorem dL_law_676 : decode cL_law 676 = .ok (.iaload, 1) := by decide +kernel
theorem dL_law_677 : decode cL_law 677 = .ok (.aload_n 0, 1) := by decide +kernel
theorem dL_law_678 : decode cL_law 678 = .ok (.iload_n 3, 1) := by decide +kernel
theorem dL_law_679 : decode cL_law 679 = .ok (.iconst 2, 1) := by decide +kernel
theorem dL_law_680 : decode cL_law 680 = .ok (.iadd, 1) := by decide +kernel
theorem dL_law_681 : decode cL_law 681 = .ok (.iaload, 1) := by decide +kernel
theorem dL_law_682 : decode cL_law 682 = .ok (.aload_n 0, 1) := by decide +kernel
theorem dL_law_683 : decode cL_law 683 = .ok (.iload_n 3, 1) := by decide +kernel
theorem dL_law_684 : decode cL_law 684 = .ok (.iconst 3, 1) := by decide +kernel
theorem dL_law_685 : decode cL_law 685 = .ok (.iadd, 1) := by decide +kernel
theorem dL_law_686 : decode cL_law 686 = .ok (.iaload, 1) := by decide +kernel
theorem dL_law_687 : decode cL_law 687 = .ok (.invokevirtual 89, 3) := by decide +kernel
theorem dL_law_690 : decode cL_law 690 = .ok (.if_icmp .eq 433, 3) := by decide +kernel
theorem dL_law_693 : decode cL_law 693 = .ok (.iconst 0, 1) := by decide +kernel
theorem dL_law_694 : decode cL_law 694 = .ok (.ireturn, 1) := by decide +kernel
theorem dL_law_695 : decode cL_law 695 = .ok (.aload_n 1, 1) := by decide +kernel
theorem dL_law_696 : decode cL_law 696 = .ok (.aload_n 0, 1) := by decide +kernel
theorem dL_law_697 : decode cL_law 697 = .ok (.iload_n 3, 1) := by decide +kernel
theorem dL_law_698 : decode cL_law 698 = .ok (.iconst 1, 1) := by decide +kernel
theorem dL_law_699 : decode cL_law 699 = .ok (.iadd, 1) := by decide +kernel
theorem dL_law_700 : decode cL_law 700 = .ok (.iaload, 1) := by decide +kernel
theorem dL_law_701 : decode cL_law 701 = .ok (.aload_n 0, 1) := by decide +kernel
theorem dL_law_702 : decode cL_law 702 = .ok (.iload_n 3, 1) := by decide +kernel
theorem dL_law_703 : decode cL_law 703 = .ok (.iconst 2, 1) := by decide +kernel
theorem dL_law_704 : decode cL_law 704 = .ok (.iadd, 1) := by decide +kernel
theorem dL_law_705 : decode cL_law 705 = .ok (.iaload, 1) := by decide +kernel
theorem dL_law_706 : decode cL_law 706 = .ok (.invokevirtual 90, 3) := by decide +kernel
theorem dL_law_709 : decode cL_law 709 = .ok (.aload_n 2, 1) := by decide +kernel
theorem dL_law_710 : decode cL_law 710 = .ok (.aload_n 0, 1) := by decide +kernel
theorem dL_law_711 : decode cL_law 711 = .ok (.iload_n 3, 1) := by decide +kernel
theorem dL_law_712 : decode cL_law 712 = .ok (.iconst 1, 1) := by decide +kernel
theorem dL_law_713 : decode cL_law 713 = .ok (.iadd, 1) := by decide +kernel
theorem dL_law_714 : decode cL_law 714 = .ok (.iaload, 1) := by decide +kernel
theorem dL_law_715 : decode cL_law 715 = .ok (.aload_n 0, 1) := by decide +kernel
theorem dL_law_716 : decode cL_law 716 = .ok (.iload_n 3, 1) := by decide +kernel
theorem dL_law_717 : decode cL_law 717 = .ok (.iconst 2, 1) := by decide +kernel
theorem dL_law_718 : decode cL_law 718 = .ok (.iadd, 1) := by decide +kernel
theorem dL_law_719 : decode cL_law 719 = .ok (.iaload, 1) := by decide +kernel
theorem dL_law_720 : decode cL_law 720 = .ok (.invokevirtual 94, 3) := by decide +kernel
theorem dL_law_723 : decode cL_law 723 = .ok (.lcmp, 1) := by decide +kernel
theorem dL_law_724 : decode cL_law 724 = .ok (.ifCond .eq 399, 3) := by decide +kernel
theorem dL_law_727 : decode cL_law 727 = .ok (.iconst 0, 1) := by decide +kernel
theorem dL_law_728 : decode cL_law 728 = .ok (.ireturn, 1) := by decide +kernel
theorem dL_law_729 : decode cL_law 729 = .ok (.aload_n 1, 1) := by decide +kernel
theorem dL_law_730 : decode cL_law 730 = .ok (.aload_n 0, 1) := by decide +kernel
theorem dL_law_731 : decode cL_law 731 = .ok (.iload_n 3, 1) := by decide +kernel
theorem dL_law_732 : decode cL_law 732 = .ok (.iconst 1, 1) := by decide +kernel
theorem dL_law_733 : decode cL_law 733 = .ok (.iadd, 1) := by decide +kernel
theorem dL_law_734 : decode cL_law 734 = .ok (.iaload, 1) := by decide +kernel
theorem dL_law_735 : decode cL_law 735 = .ok (.aload_n 0, 1) := by decide +kernel
theorem dL_law_736 : decode cL_law 736 = .ok (.iload_n 3, 1) := by decide +kernel
theorem dL_law_737 : decode cL_law 737 = .ok (.iconst 2, 1) := by decide +kernel
theorem dL_law_738 : decode cL_law 738 = .ok (.iadd, 1) := by decide +kernel
theorem dL_law_739 : decode cL_law 739 = .ok (.iaload, 1) := by decide +kernel
theorem dL_law_740 : decode cL_law 740 = .ok (.aload_n 0, 1) := by decide +kernel
theorem dL_law_741 : decode cL_law 741 = .ok (.iload_n 3, 1) := by decide +kernel
theorem dL_law_742 : decode cL_law 742 = .ok (.iconst 3, 1) := by decide +kernel
theorem dL_law_743 : decode cL_law 743 = .ok (.iadd, 1) := by decide +kernel
theorem dL_law_744 : decode cL_law 744 = .ok (.iaload, 1) := by decide +kernel
theorem dL_law_745 : decode cL_law 745 = .ok (.invokevirtual 95, 3) := by decide +kernel
theorem dL_law_748 : decode cL_law 748 = .ok (.aload_n 2, 1) := by decide +kernel
theorem dL_law_749 : decode cL_law 749 = .ok (.aload_n 0, 1) := by decide +kernel
theorem dL_law_750 : decode cL_law 750 = .ok (.iload_n 3, 1) := by decide +kernel
theorem dL_law_751 : decode cL_law 751 = .ok (.iconst 1, 1) := by decide +kernel
theorem dL_law_752 : decode cL_law 752 = .ok (.iadd, 1) := by decide +kernel
theorem dL_law_753 : decode cL_law 753 = .ok (.iaload, 1) := by decide +kernel
theorem dL_law_754 : decode cL_law 754 = .ok (.aload_n 0, 1) := by decide +kernel
theorem dL_law_755 : decode cL_law 755 = .ok (.iload_n 3, 1) := by decide +kernel
theorem dL_law_756 : decode cL_law 756 = .ok (.iconst 2, 1) := by decide +kernel
theorem dL_law_757 : decode cL_law 757 = .ok (.iadd, 1) := by decide +kernel
theorem dL_law_758 : decode cL_law 758 = .ok (.iaload, 1) := by decide +kernel
theorem dL_law_759 : decode cL_law 759 = .ok (.aload_n 0, 1) := by decide +kernel
theorem dL_law_760 : decode cL_law 760 = .ok (.iload_n 3, 1) := by decide +kernel
theorem dL_law_761 : decode cL_law 761 = .ok (.iconst 3, 1) := by decide +kernel
theorem dL_law_762 : decode cL_law 762 = .ok (.iadd, 1) := by decide +kernel
theorem dL_law_763 : decode cL_law 763 = .ok (.iaload, 1) := by decide +kernel
theorem dL_law_764 : decode cL_law 764 = .ok (.invokevirtual 98, 3) := by decide +kernel
theorem dL_law_767 : decode cL_law 767 = .ok (.if_icmp .eq 356, 3) := by decide +kernel
theorem dL_law_770 : decode cL_law 770 = .ok (.iconst 0, 1) := by decide +kernel
theorem dL_law_771 : decode cL_law 771 = .ok (.ireturn, 1) := by decide +kernel
theorem dL_law_772 : decode cL_law 772 = .ok (.aload_n 1, 1) := by decide +kernel
theorem dL_law_773 : decode cL_law 773 = .ok (.aload_n 0, 1) := by decide +kernel
theorem dL_law_774 : decode cL_law 774 = .ok (.iload_n 3, 1) := by decide +kernel
theorem dL_law_775 : decode cL_law 775 = .ok (.iconst 1, 1) := by decide +kernel
theorem dL_law_776 : decode cL_law 776 = .ok (.iadd, 1) := by decide +kernel
theorem dL_law_777 : decode cL_law 777 = .ok (.iaload, 1) := by decide +kernel
theorem dL_law_778 : decode cL_law 778 = .ok (.invokevirtual 99, 3) := by decide +kernel
theorem dL_law_781 : decode cL_law 781 = .ok (.aload_n 2, 1) := by decide +kernel
theorem dL_law_782 : decode cL_law 782 = .ok (.aload_n 0, 1) := by decide +kernel
theorem dL_law_783 : decode cL_law 783 = .ok (.iload_n 3, 1) := by decide +kernel
theorem dL_law_784 : decode cL_law 784 = .ok (.iconst 1, 1) := by decide +kernel
theorem dL_law_785 : decode cL_law 785 = .ok (.iadd, 1) := by decide +kernel
theorem dL_law_786 : decode cL_law 786 = .ok (.iaload, 1) := by decide +kernel
theorem dL_law_787 : decode cL_law 787 = .ok (.invokevirtual 102, 3) := by decide +kernel
theorem dL_law_790 : decode cL_law 790 = .ok (.if_icmp .eq 333, 3) := by decide +kernel
theorem dL_law_793 : decode cL_law 793 = .ok (.iconst 0, 1) := by decide +kernel
theorem dL_law_794 : decode cL_law 794 = .ok (.ireturn, 1) := by decide +kernel
theorem dL_law_795 : decode cL_law 795 = .ok (.aload_n 1, 1) := by decide +kernel
theorem dL_law_796 : decode cL_law 796 = .ok (.aload_n 0, 1) := by decide +kernel
theorem dL_law_797 : decode cL_law 797 = .ok (.iload_n 3, 1) := by decide +kernel
theorem dL_law_798 : decode cL_law 798 = .ok (.iconst 1, 1) := by decide +kernel
theorem dL_law_799 : decode cL_law 799 = .ok (.iadd, 1) := by decide +kernel
theorem dL_law_800 : decode cL_law 800 = .ok (.iaload, 1) := by decide +kernel
theorem dL_law_801 : decode cL_law 801 = .ok (.aload_n 0, 1) := by decide +kernel
theorem dL_law_802 : decode cL_law 802 = .ok (.iload_n 3, 1) := by decide +kernel
theorem dL_law_803 : decode cL_law 803 = .ok (.iconst 2, 1) := by decide +kernel
theorem dL_law_804 : decode cL_law 804 = .ok (.iadd, 1) := by decide +kernel
theorem dL_law_805 : decode cL_law 805 = .ok (.iaload, 1) := by decide +kernel
theorem dL_law_806 : decode cL_law 806 = .ok (.aload_n 0, 1) := by decide +kernel
theorem dL_law_807 : decode cL_law 807 = .ok (.iload_n 3, 1) := by decide +kernel
theorem dL_law_808 : decode cL_law 808 = .ok (.iconst 3, 1) := by decide +kernel
theorem dL_law_809 : decode cL_law 809 = .ok (.iadd, 1) := by decide +kernel
theorem dL_law_810 : decode cL_law 810 = .ok (.iaload, 1) := by decide +kernel
theorem dL_law_811 : decode cL_law 811 = .ok (.invokevirtual 103, 3) := by decide +kernel
theorem dL_law_814 : decode cL_law 814 = .ok (.aload_n 2, 1) := by decide +kernel
theorem dL_law_815 : decode cL_law 815 = .ok (.aload_n 0, 1) := by decide +kernel
theorem dL_law_816 : decode cL_law 816 = .ok (.iload_n 3, 1) := by decide +kernel
theorem dL_law_817 : decode cL_law 817 = .ok (.iconst 1, 1) := by decide +kernel
theorem dL_law_818 : decode cL_law 818 = .ok (.iadd, 1) := by decide +kernel
theorem dL_law_819 : decode cL_law 819 = .ok (.iaload, 1) := by decide +kernel
theorem dL_law_820 : decode cL_law 820 = .ok (.aload_n 0, 1) := by decide +kernel
theorem dL_law_821 : decode cL_law 821 = .ok (.iload_n 3, 1) := by decide +kernel
theorem dL_law_822 : decode cL_law 822 = .ok (.iconst 2, 1) := by decide +kernel
theorem dL_law_823 : decode cL_law 823 = .ok (.iadd, 1) := by decide +kernel
theorem dL_law_824 : decode cL_law 824 = .ok (.iaload, 1) := by decide +kernel
theorem dL_law_825 : decode cL_law 825 = .ok (.aload_n 0, 1) := by decide +kernel
theorem dL_law_826 : decode cL_law 826 = .ok (.iload_n 3, 1) := by decide +kernel
theorem dL_law_827 : decode cL_law 827 = .ok (.iconst 3, 1) := by decide +kernel
theorem dL_law_828 : decode cL_law 828 = .ok (.iadd, 1) := by decide +kernel
theorem dL_law_829 : decode cL_law 829 = .ok (.iaload, 1) := by decide +kernel
theorem dL_law_830 : decode cL_law 830 = .ok (.invokevirtual 107, 3) := by decide +kernel
theorem dL_law_833 : decode cL_law 833 = .ok (.lcmp, 1) := by decide +kernel
theorem dL_law_834 : decode cL_law 834 = .ok (.ifCond .eq 289, 3) := by decide +kernel
theorem dL_law_837 : decode cL_law 837 = .ok (.iconst 0, 1) := by decide +kernel
theorem dL_law_838 : decode cL_law 838 = .ok (.ireturn, 1) := by decide +kernel
theorem dL_law_839 : decode cL_law 839 = .ok (.aload_n 1, 1) := by decide +kernel
theorem dL_law_840 : decode cL_law 840 = .ok (.invokevirtual 108, 3) := by decide +kernel
theorem dL_law_843 : decode cL_law 843 = .ok (.aload_n 2, 1) := by decide +kernel
theorem dL_law_844 : decode cL_law 844 = .ok (.invokevirtual 111, 3) := by decide +kernel
theorem dL_law_847 : decode cL_law 847 = .ok (.if_icmp .eq 276, 3) := by decide +kernel
theorem dL_law_850 : decode cL_law 850 = .ok (.iconst 0, 1) := by decide +kernel
theorem dL_law_851 : decode cL_law 851 = .ok (.ireturn, 1) := by decide +kernel
theorem dL_law_852 : decode cL_law 852 = .ok (.aload_n 1, 1) := by decide +kernel
theorem dL_law_853 : decode cL_law 853 = .ok (.invokevirtual 112, 3) := by decide +kernel
theorem dL_law_856 : decode cL_law 856 = .ok (.aload_n 2, 1) := by decide +kernel
theorem dL_law_857 : decode cL_law 857 = .ok (.invokevirtual 115, 3) := by decide +kernel
theorem dL_law_860 : decode cL_law 860 = .ok (.if_icmp .eq 263, 3) := by decide +kernel
theorem dL_law_863 : decode cL_law 863 = .ok (.iconst 0, 1) := by decide +kernel
theorem dL_law_864 : decode cL_law 864 = .ok (.ireturn, 1) := by decide +kernel
theorem dL_law_865 : decode cL_law 865 = .ok (.aload_n 1, 1) := by decide +kernel
theorem dL_law_866 : decode cL_law 866 = .ok (.aload_n 0, 1) := by decide +kernel
theorem dL_law_867 : decode cL_law 867 = .ok (.iload_n 3, 1) := by decide +kernel
theorem dL_law_868 : decode cL_law 868 = .ok (.iconst 1, 1) := by decide +kernel
theorem dL_law_869 : decode cL_law 869 = .ok (.iadd, 1) := by decide +kernel
theorem dL_law_870 : decode cL_law 870 = .ok (.iaload, 1) := by decide +kernel
theorem dL_law_871 : decode cL_law 871 = .ok (.invokevirtual 116, 3) := by decide +kernel
theorem dL_law_874 : decode cL_law 874 = .ok (.aload_n 2, 1) := by decide +kernel
theorem dL_law_875 : decode cL_law 875 = .ok (.aload_n 0, 1) := by decide +kernel
theorem dL_law_876 : decode cL_law 876 = .ok (.iload_n 3, 1) := by decide +kernel
theorem dL_law_877 : decode cL_law 877 = .ok (.iconst 1, 1) := by decide +kernel
theorem dL_law_878 : decode cL_law 878 = .ok (.iadd, 1) := by decide +kernel
theorem dL_law_879 : decode cL_law 879 = .ok (.iaload, 1) := by decide +kernel
theorem dL_law_880 : decode cL_law 880 = .ok (.invokevirtual 119, 3) := by decide +kernel
theorem dL_law_883 : decode cL_law 883 = .ok (.if_icmp .eq 240, 3) := by decide +kernel
theorem dL_law_886 : decode cL_law 886 = .ok (.iconst 0, 1) := by decide +kernel
theorem dL_law_887 : decode cL_law 887 = .ok (.ireturn, 1) := by decide +kernel
theorem dL_law_888 : decode cL_law 888 = .ok (.aload_n 1, 1) := by decide +kernel
theorem dL_law_889 : decode cL_law 889 = .ok (.aload_n 0, 1) := by decide +kernel
theorem dL_law_890 : decode cL_law 890 = .ok (.iload_n 3, 1) := by decide +kernel
theorem dL_law_891 : decode cL_law 891 = .ok (.iconst 1, 1) := by decide +kernel
theorem dL_law_892 : decode cL_law 892 = .ok (.iadd, 1) := by decide +kernel
theorem dL_law_893 : decode cL_law 893 = .ok (.iaload, 1) := by decide +kernel
theorem dL_law_894 : decode cL_law 894 = .ok (.aload_n 0, 1) := by decide +kernel
theorem dL_law_895 : decode cL_law 895 = .ok (.iload_n 3, 1) := by decide +kernel
theorem dL_law_896 : decode cL_law 896 = .ok (.iconst 2, 1) := by decide +kernel
theorem dL_law_897 : decode cL_law 897 = .ok (.iadd, 1) := by decide +kernel
theorem dL_law_898 : decode cL_law 898 = .ok (.iaload, 1) := by decide +kernel
theorem dL_law_899 : decode cL_law 899 = .ok (.aload_n 0, 1) := by decide +kernel
theorem dL_law_900 : decode cL_law 900 = .ok (.iload_n 3, 1) := by decide +kernel
theorem dL_law_901 : decode cL_law 901 = .ok (.iconst 3, 1) := by decide +kernel
theorem dL_law_902 : decode cL_law 902 = .ok (.iadd, 1) := by decide +kernel
theorem dL_law_903 : decode cL_law 903 = .ok (.iaload, 1) := by decide +kernel
theorem dL_law_904 : decode cL_law 904 = .ok (.invokevirtual 120, 3) := by decide +kernel
theorem dL_law_907 : decode cL_law 907 = .ok (.aload_n 2, 1) := by decide +kernel
theorem dL_law_908 : decode cL_law 908 = .ok (.aload_n 0, 1) := by decide +kernel
theorem dL_law_909 : decode cL_law 909 = .ok (.iload_n 3, 1) := by decide +kernel
theorem dL_law_910 : decode cL_law 910 = .ok (.iconst 1, 1) := by decide +kernel
theorem dL_law_911 : decode cL_law 911 = .ok (.iadd, 1) := by decide +kernel
theorem dL_law_912 : decode cL_law 912 = .ok (.iaload, 1) := by decide +kernel
theorem dL_law_913 : decode cL_law 913 = .ok (.aload_n 0, 1) := by decide +kernel
theorem dL_law_914 : decode cL_law 914 = .ok (.iload_n 3, 1) := by decide +kernel
theorem dL_law_915 : decode cL_law 915 = .ok (.iconst 2, 1) := by decide +kernel
theorem dL_law_916 : decode cL_law 916 = .ok (.iadd, 1) := by decide +kernel
theorem dL_law_917 : decode cL_law 917 = .ok (.iaload, 1) := by decide +kernel
theorem dL_law_918 : decode cL_law 918 = .ok (.aload_n 0, 1) := by decide +kernel
theorem dL_law_919 : decode cL_law 919 = .ok (.iload_n 3, 1) := by decide +kernel
theorem dL_law_920 : decode cL_law 920 = .ok (.iconst 3, 1) := by decide +kernel
theorem dL_law_921 : decode cL_law 921 = .ok (.iadd, 1) := by decide +kernel
theorem dL_law_922 : decode cL_law 922 = .ok (.iaload, 1) := by decide +kernel
theorem dL_law_923 : decode cL_law 923 = .ok (.invokevirtual 123, 3) := by decide +kernel
theorem dL_law_926 : decode cL_law 926 = .ok (.if_icmp .eq 197, 3) := by decide +kernel
theorem dL_law_929 : decode cL_law 929 = .ok (.iconst 0, 1) := by decide +kernel
theorem dL_law_930 : decode cL_law 930 = .ok (.ireturn, 1) := by decide +kernel
theorem dL_law_931 : decode cL_law 931 = .ok (.aload_n 1, 1) := by decide +kernel
theorem dL_law_932 : decode cL_law 932 = .ok (.aload_n 0, 1) := by decide +kernel
theorem dL_law_933 : decode cL_law 933 = .ok (.iload_n 3, 1) := by decide +kernel
theorem dL_law_934 : decode cL_law 934 = .ok (.iconst 1, 1) := by decide +kernel
theorem dL_law_935 : decode cL_law 935 = .ok (.iadd, 1) := by decide +kernel
theorem dL_law_936 : decode cL_law 936 = .ok (.iaload, 1) := by decide +kernel
theorem dL_law_937 : decode cL_law 937 = .ok (.aload_n 0, 1) := by decide +kernel
theorem dL_law_938 : decode cL_law 938 = .ok (.iload_n 3, 1) := by decide +kernel
theorem dL_law_939 : decode cL_law 939 = .ok (.iconst 2, 1) := by decide +kernel
theorem dL_law_940 : decode cL_law 940 = .ok (.iadd, 1) := by decide +kernel
theorem dL_law_941 : decode cL_law 941 = .ok (.iaload, 1) := by decide +kernel
theorem dL_law_942 : decode cL_law 942 = .ok (.aload_n 0, 1) := by decide +kernel
theorem dL_law_943 : decode cL_law 943 = .ok (.iload_n 3, 1) := by decide +kernel
theorem dL_law_944 : decode cL_law 944 = .ok (.iconst 3, 1) := by decide +kernel
theorem dL_law_945 : decode cL_law 945 = .ok (.iadd, 1) := by decide +kernel
theorem dL_law_946 : decode cL_law 946 = .ok (.iaload, 1) := by decide +kernel
theorem dL_law_947 : decode cL_law 947 = .ok (.invokevirtual 124, 3) := by decide +kernel
theorem dL_law_950 : decode cL_law 950 = .ok (.aload_n 2, 1) := by decide +kernel
theorem dL_law_951 : decode cL_law 951 = .ok (.aload_n 0, 1) := by decide +kernel
theorem dL_law_952 : decode cL_law 952 = .ok (.iload_n 3, 1) := by decide +kernel
theorem dL_law_953 : decode cL_law 953 = .ok (.iconst 1, 1) := by decide +kernel
theorem dL_law_954 : decode cL_law 954 = .ok (.iadd, 1) := by decide +kernel
theorem dL_law_955 : decode cL_law 955 = .ok (.iaload, 1) := by decide +kernel
theorem dL_law_956 : decode cL_law 956 = .ok (.aload_n 0, 1) := by decide +kernel
theorem dL_law_957 : decode cL_law 957 = .ok (.iload_n 3, 1) := by decide +kernel
theorem dL_law_958 : decode cL_law 958 = .ok (.iconst 2, 1) := by decide +kernel
theorem dL_law_959 : decode cL_law 959 = .ok (.iadd, 1) := by decide +kernel
theorem dL_law_960 : decode cL_law 960 = .ok (.iaload, 1) := by decide +kernel
theorem dL_law_961 : decode cL_law 961 = .ok (.aload_n 0, 1) := by decide +kernel
theorem dL_law_962 : decode cL_law 962 = .ok (.iload_n 3, 1) := by decide +kernel
theorem dL_law_963 : decode cL_law 963 = .ok (.iconst 3, 1) := by decide +kernel
theorem dL_law_964 : decode cL_law 964 = .ok (.iadd, 1) := by decide +kernel
theorem dL_law_965 : decode cL_law 965 = .ok (.iaload, 1) := by decide +kernel
theorem dL_law_966 : decode cL_law 966 = .ok (.invokevirtual 127, 3) := by decide +kernel
theorem dL_law_969 : decode cL_law 969 = .ok (.if_icmp .eq 154, 3) := by decide +kernel
theorem dL_law_972 : decode cL_law 972 = .ok (.iconst 0, 1) := by decide +kernel
theorem dL_law_973 : decode cL_law 973 = .ok (.ireturn, 1) := by decide +kernel
theorem dL_law_974 : decode cL_law 974 = .ok (.aload_n 1, 1) := by decide +kernel
theorem dL_law_975 : decode cL_law 975 = .ok (.aload_n 0, 1) := by decide +kernel
theorem dL_law_976 : decode cL_law 976 = .ok (.iload_n 3, 1) := by decide +kernel
theorem dL_law_977 : decode cL_law 977 = .ok (.iconst 1, 1) := by decide +kernel
theorem dL_law_978 : decode cL_law 978 = .ok (.iadd, 1) := by decide +kernel
theorem dL_law_979 : decode cL_law 979 = .ok (.iaload, 1) := by decide +kernel
theorem dL_law_980 : decode cL_law 980 = .ok (.aload_n 0, 1) := by decide +kernel
theorem dL_law_981 : decode cL_law 981 = .ok (.iload_n 3, 1) := by decide +kernel
theorem dL_law_982 : decode cL_law 982 = .ok (.iconst 2, 1) := by decide +kernel
theorem dL_law_983 : decode cL_law 983 = .ok (.iadd, 1) := by decide +kernel
theorem dL_law_984 : decode cL_law 984 = .ok (.iaload, 1) := by decide +kernel
theorem dL_law_985 : decode cL_law 985 = .ok (.aload_n 0, 1) := by decide +kernel
theorem dL_law_986 : decode cL_law 986 = .ok (.iload_n 3, 1) := by decide +kernel
theorem dL_law_987 : decode cL_law 987 = .ok (.iconst 3, 1) := by decide +kernel
theorem dL_law_988 : decode cL_law 988 = .ok (.iadd, 1) := by decide +kernel
theorem dL_law_989 : decode cL_law 989 = .ok (.iaload, 1) := by decide +kernel
theorem dL_law_990 : decode cL_law 990 = .ok (.aload_n 0, 1) := by decide +kernel
theorem dL_law_991 : decode cL_law 991 = .ok (.iload_n 3, 1) := by decide +kernel
theorem dL_law_992 : decode cL_law 992 = .ok (.iconst 4, 1) := by decide +kernel
theorem dL_law_993 : decode cL_law 993 = .ok (.iadd, 1) := by decide +kernel
theorem dL_law_994 : decode cL_law 994 = .ok (.iaload, 1) := by decide +kernel
theorem dL_law_995 : decode cL_law 995 = .ok (.aload_n 0, 1) := by decide +kernel
theorem dL_law_996 : decode cL_law 996 = .ok (.iload_n 3, 1) := by decide +kernel
theorem dL_law_997 : decode cL_law 997 = .ok (.iconst 5, 1) := by decide +kernel
theorem dL_law_998 : decode cL_law 998 = .ok (.iadd, 1) := by decide +kernel
theorem dL_law_999 : decode cL_law 999 = .ok (.iaload, 1) := by decide +kernel
theorem dL_law_1000 : decode cL_law 1000 = .ok (.invokevirtual 128, 3) := by decide +kernel
theorem dL_law_1003 : decode cL_law 1003 = .ok (.aload_n 2, 1) := by decide +kernel
theorem dL_law_1004 : decode cL_law 1004 = .ok (.aload_n 0, 1) := by decide +kernel
theorem dL_law_1005 : decode cL_law 1005 = .ok (.iload_n 3, 1) := by decide +kernel
theorem dL_law_1006 : decode cL_law 1006 = .ok (.iconst 1, 1) := by decide +kernel
theorem dL_law_1007 : decode cL_law 1007 = .ok (.iadd, 1) := by decide +kernel
theorem dL_law_1008 : decode cL_law 1008 = .ok (.iaload, 1) := by decide +kernel
theorem dL_law_1009 : decode cL_law 1009 = .ok (.aload_n 0, 1) := by decide +kernel
theorem dL_law_1010 : decode cL_law 1010 = .ok (.iload_n 3, 1) := by decide +kernel
theorem dL_law_1011 : decode cL_law 1011 = .ok (.iconst 2, 1) := by decide +kernel
theorem dL_law_1012 : decode cL_law 1012 = .ok (.iadd, 1) := by decide +kernel
theorem dL_law_1013 : decode cL_law 1013 = .ok (.iaload, 1) := by decide +kernel
theorem dL_law_1014 : decode cL_law 1014 = .ok (.aload_n 0, 1) := by decide +kernel
theorem dL_law_1015 : decode cL_law 1015 = .ok (.iload_n 3, 1) := by decide +kernel
theorem dL_law_1016 : decode cL_law 1016 = .ok (.iconst 3, 1) := by decide +kernel
theorem dL_law_1017 : decode cL_law 1017 = .ok (.iadd, 1) := by decide +kernel
theorem dL_law_1018 : decode cL_law 1018 = .ok (.iaload, 1) := by decide +kernel
theorem dL_law_1019 : decode cL_law 1019 = .ok (.aload_n 0, 1) := by decide +kernel
theorem dL_law_1020 : decode cL_law 1020 = .ok (.iload_n 3, 1) := by decide +kernel
theorem dL_law_1021 : decode cL_law 1021 = .ok (.iconst 4, 1) := by decide +kernel
theorem dL_law_1022 : decode cL_law 1022 = .ok (.iadd, 1) := by decide +kernel
theorem dL_law_1023 : decode cL_law 1023 = .ok (.iaload, 1) := by decide +kernel
theorem dL_law_1024 : decode cL_law 1024 = .ok (.aload_n 0, 1) := by decide +kernel
theorem dL_law_1025 : decode cL_law 1025 = .ok (.iload_n 3, 1) := by decide +kernel
theorem dL_law_1026 : decode cL_law 1026 = .ok (.iconst 5, 1) := by decide +kernel
theorem dL_law_1027 : decode cL_law 1027 = .ok (.iadd, 1) := by decide +kernel
theorem dL_law_1028 : decode cL_law 1028 = .ok (.iaload, 1) := by decide +kernel
theorem dL_law_1029 : decode cL_law 1029 = .ok (.invokevirtual 132, 3) := by decide +kernel
theorem dL_law_1032 : decode cL_law 1032 = .ok (.if_icmp .eq 91, 3) := by decide +kernel
theorem dL_law_1035 : decode cL_law 1035 = .ok (.iconst 0, 1) := by decide +kernel
theorem dL_law_1036 : decode cL_law 1036 = .ok (.ireturn, 1) := by decide +kernel
theorem dL_law_1037 : decode cL_law 1037 = .ok (.aload_n 1, 1) := by decide +kernel
theorem dL_law_1038 : decode cL_law 1038 = .ok (.aload_n 0, 1) := by decide +kernel
theorem dL_law_1039 : decode cL_law 1039 = .ok (.iload_n 3, 1) := by decide +kernel
theorem dL_law_1040 : decode cL_law 1040 = .ok (.iconst 1, 1) := by decide +kernel
theorem dL_law_1041 : decode cL_law 1041 = .ok (.iadd, 1) := by decide +kernel
theorem dL_law_1042 : decode cL_law 1042 = .ok (.iaload, 1) := by decide +kernel
theorem dL_law_1043 : decode cL_law 1043 = .ok (.aload_n 0, 1) := by decide +kernel
theorem dL_law_1044 : decode cL_law 1044 = .ok (.iload_n 3, 1) := by decide +kernel
theorem dL_law_1045 : decode cL_law 1045 = .ok (.iconst 2, 1) := by decide +kernel
theorem dL_law_1046 : decode cL_law 1046 = .ok (.iadd, 1) := by decide +kernel
theorem dL_law_1047 : decode cL_law 1047 = .ok (.iaload, 1) := by decide +kernel
theorem dL_law_1048 : decode cL_law 1048 = .ok (.aload_n 0, 1) := by decide +kernel
theorem dL_law_1049 : decode cL_law 1049 = .ok (.iload_n 3, 1) := by decide +kernel
theorem dL_law_1050 : decode cL_law 1050 = .ok (.iconst 3, 1) := by decide +kernel
theorem dL_law_1051 : decode cL_law 1051 = .ok (.iadd, 1) := by decide +kernel
theorem dL_law_1052 : decode cL_law 1052 = .ok (.iaload, 1) := by decide +kernel
theorem dL_law_1053 : decode cL_law 1053 = .ok (.aload_n 0, 1) := by decide +kernel
theorem dL_law_1054 : decode cL_law 1054 = .ok (.iload_n 3, 1) := by decide +kernel
theorem dL_law_1055 : decode cL_law 1055 = .ok (.iconst 4, 1) := by decide +kernel
theorem dL_law_1056 : decode cL_law 1056 = .ok (.iadd, 1) := by decide +kernel
theorem dL_law_1057 : decode cL_law 1057 = .ok (.iaload, 1) := by decide +kernel
theorem dL_law_1058 : decode cL_law 1058 = .ok (.invokevirtual 133, 3) := by decide +kernel
theorem dL_law_1061 : decode cL_law 1061 = .ok (.aload_n 2, 1) := by decide +kernel
theorem dL_law_1062 : decode cL_law 1062 = .ok (.aload_n 0, 1) := by decide +kernel
theorem dL_law_1063 : decode cL_law 1063 = .ok (.iload_n 3, 1) := by decide +kernel
theorem dL_law_1064 : decode cL_law 1064 = .ok (.iconst 1, 1) := by decide +kernel
theorem dL_law_1065 : decode cL_law 1065 = .ok (.iadd, 1) := by decide +kernel
theorem dL_law_1066 : decode cL_law 1066 = .ok (.iaload, 1) := by decide +kernel
theorem dL_law_1067 : decode cL_law 1067 = .ok (.aload_n 0, 1) := by decide +kernel
theorem dL_law_1068 : decode cL_law 1068 = .ok (.iload_n 3, 1) := by decide +kernel
theorem dL_law_1069 : decode cL_law 1069 = .ok (.iconst 2, 1) := by decide +kernel
theorem dL_law_1070 : decode cL_law 1070 = .ok (.iadd, 1) := by decide +kernel
theorem dL_law_1071 : decode cL_law 1071 = .ok (.iaload, 1) := by decide +kernel
theorem dL_law_1072 : decode cL_law 1072 = .ok (.aload_n 0, 1) := by decide +kernel
theorem dL_law_1073 : decode cL_law 1073 = .ok (.iload_n 3, 1) := by decide +kernel
theorem dL_law_1074 : decode cL_law 1074 = .ok (.iconst 3, 1) := by decide +kernel
theorem dL_law_1075 : decode cL_law 1075 = .ok (.iadd, 1) := by decide +kernel
theorem dL_law_1076 : decode cL_law 1076 = .ok (.iaload, 1) := by decide +kernel
theorem dL_law_1077 : decode cL_law 1077 = .ok (.aload_n 0, 1) := by decide +kernel
theorem dL_law_1078 : decode cL_law 1078 = .ok (.iload_n 3, 1) := by decide +kernel
theorem dL_law_1079 : decode cL_law 1079 = .ok (.iconst 4, 1) := by decide +kernel
theorem dL_law_1080 : decode cL_law 1080 = .ok (.iadd, 1) := by decide +kernel
theorem dL_law_1081 : decode cL_law 1081 = .ok (.iaload, 1) := by decide +kernel
theorem dL_law_1082 : decode cL_law 1082 = .ok (.invokevirtual 137, 3) := by decide +kernel
theorem dL_law_1085 : decode cL_law 1085 = .ok (.if_icmp .eq 38, 3) := by decide +kernel
theorem dL_law_1088 : decode cL_law 1088 = .ok (.iconst 0, 1) := by decide +kernel
theorem dL_law_1089 : decode cL_law 1089 = .ok (.ireturn, 1) := by decide +kernel
theorem dL_law_1090 : decode cL_law 1090 = .ok (.aload_n 1, 1) := by decide +kernel
theorem dL_law_1091 : decode cL_law 1091 = .ok (.aload_n 0, 1) := by decide +kernel
theorem dL_law_1092 : decode cL_law 1092 = .ok (.iload_n 3, 1) := by decide +kernel
theorem dL_law_1093 : decode cL_law 1093 = .ok (.iconst 1, 1) := by decide +kernel
theorem dL_law_1094 : decode cL_law 1094 = .ok (.iadd, 1) := by decide +kernel
theorem dL_law_1095 : decode cL_law 1095 = .ok (.iaload, 1) := by decide +kernel
theorem dL_law_1096 : decode cL_law 1096 = .ok (.aload_n 0, 1) := by decide +kernel
theorem dL_law_1097 : decode cL_law 1097 = .ok (.iload_n 3, 1) := by decide +kernel
theorem dL_law_1098 : decode cL_law 1098 = .ok (.iconst 2, 1) := by decide +kernel
theorem dL_law_1099 : decode cL_law 1099 = .ok (.iadd, 1) := by decide +kernel
theorem dL_law_1100 : decode cL_law 1100 = .ok (.iaload, 1) := by decide +kernel
theorem dL_law_1101 : decode cL_law 1101 = .ok (.invokevirtual 138, 3) := by decide +kernel
theorem dL_law_1104 : decode cL_law 1104 = .ok (.aload_n 2, 1) := by decide +kernel
theorem dL_law_1105 : decode cL_law 1105 = .ok (.aload_n 0, 1) := by decide +kernel
theorem dL_law_1106 : decode cL_law 1106 = .ok (.iload_n 3, 1) := by decide +kernel
theorem dL_law_1107 : decode cL_law 1107 = .ok (.iconst 1, 1) := by decide +kernel
theorem dL_law_1108 : decode cL_law 1108 = .ok (.iadd, 1) := by decide +kernel
theorem dL_law_1109 : decode cL_law 1109 = .ok (.iaload, 1) := by decide +kernel
theorem dL_law_1110 : decode cL_law 1110 = .ok (.aload_n 0, 1) := by decide +kernel
theorem dL_law_1111 : decode cL_law 1111 = .ok (.iload_n 3, 1) := by decide +kernel
theorem dL_law_1112 : decode cL_law 1112 = .ok (.iconst 2, 1) := by decide +kernel
theorem dL_law_1113 : decode cL_law 1113 = .ok (.iadd, 1) := by decide +kernel
theorem dL_law_1114 : decode cL_law 1114 = .ok (.iaload, 1) := by decide +kernel
theorem dL_law_1115 : decode cL_law 1115 = .ok (.invokevirtual 141, 3) := by decide +kernel
theorem dL_law_1118 : decode cL_law 1118 = .ok (.if_icmp .eq 5, 3) := by decide +kernel
theorem dL_law_1121 : decode cL_law 1121 = .ok (.iconst 0, 1) := by decide +kernel
theorem dL_law_1122 : decode cL_law 1122 = .ok (.ireturn, 1) := by decide +kernel
theorem dL_law_1123 : decode cL_law 1123 = .ok (.iinc 3 6, 3) := by decide +kernel
theorem dL_law_1126 : decode cL_law 1126 = .ok (.goto (-1108), 3) := by decide +kernel
theorem dL_law_1129 : decode cL_law 1129 = .ok (.iconst 1, 1) := by decide +kernel
theorem dL_law_1130 : decode cL_law 1130 = .ok (.ireturn, 1) := by decide +kernel
abbrev vwCl : List vw_C := [(RX0, TX0, 6), (RX1, TX1, 5), (RX2, TX2, 2), (RX3, TX3, 8), (RX4, TX4, 3), (RX5, TX5, 4), (RX6, TX6, 3), (RX7, TX7, 3), (RX8, TX8, 4), (RX9, TX9, 11), (RX10, TX10, 43)]
