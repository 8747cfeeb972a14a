def RX0 : String := "WaterMen$Donkey"
def TX0 : u_T := fun k => match k with
  | 0 => ("WaterMen$Man", "number", "I", true)
  | 1 => ("WaterMen$Man", "load", "I", true)
  | 2 => ("WaterMen$Man", "fountain", "LWaterMen$Fountain;", false)
  | 3 => ("WaterMen$Man", "jar", "LWaterMen$Jar;", false)
  | 4 => ("WaterMen$Man", "rank", "I", false)
  | 5 => ("WaterMen$Man", "doing", "I", false)
  | 6 => ("WaterMen$Man", "toGo", "I", false)
  | 7 => ("WaterMen$Man", "carries", "I", false)
  | 8 => ("WaterMen$Man", "earned", "I", false)
  | 9 => ("WaterMen$Man", "setOutTime", "I", false)
  | 10 => ("WaterMen$Man", "filledFrom", "I", false)
  | 11 => ("WaterMen$Man", "filledTime", "I", false)
  | _ => ("WaterMen$Donkey", "speed", "I", false)
def tyX0 : Nat → FieldType := fun k => match k with
  | 0 => .int
  | 1 => .int
  | 2 => .object "WaterMen$Fountain"
  | 3 => .object "WaterMen$Jar"
  | 4 => .int
  | 5 => .int
  | 6 => .int
  | 7 => .int
  | 8 => .int
  | 9 => .int
  | 10 => .int
  | 11 => .int
  | _ => .int
theorem nmX0 : ∀ a, a < 13 → ∀ b, b < 13 → a ≠ b → (TX0 a).2.1 ≠ (TX0 b).2.1 := by decide +kernel
theorem tyX0_ok : ∀ k, k < 13 → parseFieldDescriptor (TX0 k).2.2.1 = some (tyX0 k) := by decide +kernel
abbrev cX0_init : ByteArray := prog_2_method_1_code
def yX0_init : MethodName := ⟨RX0, "<init>", "(IILWaterMen$Fountain;LWaterMen$Jar;)V"⟩
abbrev cX0_kind : ByteArray := prog_2_method_2_code
def yX0_kind : MethodName := ⟨RX0, "kind", "()I"⟩
abbrev cX0_walkTime : ByteArray := prog_2_method_3_code
def yX0_walkTime : MethodName := ⟨RX0, "walkTime", "(I)I"⟩
abbrev cX0_climbTime : ByteArray := prog_2_method_4_code
def yX0_climbTime : MethodName := ⟨RX0, "climbTime", "(I)I"⟩
def RX1 : String := "WaterMen$Fares"
def TX1 : u_T := fun k => match k with
  | 0 => ("WaterMen$Fares", "tape", "[I", true)
  | 1 => ("WaterMen$Fares", "prices", "[I", false)
  | 2 => ("WaterMen$Fares", "draft", "[I", false)
  | 3 => ("WaterMen$Fares", "length", "I", false)
  | _ => ("WaterMen$Fares", "place", "I", false)
def tyX1 : Nat → FieldType := fun k => match k with
  | 0 => .array .int
  | 1 => .array .int
  | 2 => .array .int
  | 3 => .int
  | _ => .int
theorem nmX1 : ∀ a, a < 5 → ∀ b, b < 5 → a ≠ b → (TX1 a).2.1 ≠ (TX1 b).2.1 := by decide +kernel
theorem tyX1_ok : ∀ k, k < 5 → parseFieldDescriptor (TX1 k).2.2.1 = some (tyX1 k) := by decide +kernel
abbrev cX1_init : ByteArray := prog_3_method_1_code
def yX1_init : MethodName := ⟨RX1, "<init>", "()V"⟩
abbrev cX1_priceOf : ByteArray := prog_3_method_2_code
def yX1_priceOf : MethodName := ⟨RX1, "priceOf", "(I)I"⟩
abbrev cX1_append : ByteArray := prog_3_method_3_code
def yX1_append : MethodName := ⟨RX1, "append", "(JI)I"⟩
abbrev cX1_byteOf : ByteArray := prog_3_method_4_code
def yX1_byteOf : MethodName := ⟨RX1, "byteOf", "(JI)I"⟩
abbrev cX1_takeTape : ByteArray := prog_3_method_5_code
def yX1_takeTape : MethodName := ⟨RX1, "takeTape", "()I"⟩
abbrev cX1_useDraft : ByteArray := prog_3_method_6_code
def yX1_useDraft : MethodName := ⟨RX1, "useDraft", "()V"⟩
abbrev cX1_readClauses : ByteArray := prog_3_method_7_code
def yX1_readClauses : MethodName := ⟨RX1, "readClauses", "()I"⟩
abbrev cX1_readClause : ByteArray := prog_3_method_8_code
def yX1_readClause : MethodName := ⟨RX1, "readClause", "()Z"⟩
abbrev cX1_readNumber : ByteArray := prog_3_method_9_code
def yX1_readNumber : MethodName := ⟨RX1, "readNumber", "(II)I"⟩
abbrev cX1_readSign : ByteArray := prog_3_method_10_code
def yX1_readSign : MethodName := ⟨RX1, "readSign", "(C)Z"⟩
abbrev cX1_isAtEnd : ByteArray := prog_3_method_11_code
def yX1_isAtEnd : MethodName := ⟨RX1, "isAtEnd", "()Z"⟩
abbrev cX1_skipBlanks : ByteArray := prog_3_method_12_code
def yX1_skipBlanks : MethodName := ⟨RX1, "skipBlanks", "()V"⟩
def RX2 : String := "WaterMen$Fountain"
def TX2 : u_T := fun k => match k with
  | 0 => ("WaterMen$Fountain", "number", "I", true)
  | 1 => ("WaterMen$Fountain", "flow", "I", true)
  | 2 => ("WaterMen$Fountain", "row", "Ljava/util/ArrayList;", true)
  | 3 => ("WaterMen$Fountain", "isOpen", "Z", false)
  | 4 => ("WaterMen$Fountain", "has", "I", false)
  | _ => ("WaterMen$Fountain", "ranOff", "I", false)
def tyX2 : Nat → FieldType := fun k => match k with
  | 0 => .int
  | 1 => .int
  | 2 => .object "java/util/ArrayList"
  | 3 => .boolean
  | 4 => .int
  | _ => .int
theorem nmX2 : ∀ a, a < 6 → ∀ b, b < 6 → a ≠ b → (TX2 a).2.1 ≠ (TX2 b).2.1 := by decide +kernel
theorem tyX2_ok : ∀ k, k < 6 → parseFieldDescriptor (TX2 k).2.2.1 = some (tyX2 k) := by decide +kernel
abbrev cX2_init : ByteArray := prog_4_method_1_code
def yX2_init : MethodName := ⟨RX2, "<init>", "(II)V"⟩
abbrev cX2_nextToFill : ByteArray := prog_4_method_2_code
def yX2_nextToFill : MethodName := ⟨RX2, "nextToFill", "()LWaterMen$Man;"⟩
abbrev cX2_countAhead : ByteArray := prog_4_method_3_code
def yX2_countAhead : MethodName := ⟨RX2, "countAhead", "(LWaterMen$Man;)I"⟩
def RX3 : String := "WaterMen$Giving"
def TX3 : u_T := fun k => match k with
  | 0 => ("WaterMen$Giving", "toils", "[I", true)
  | 1 => ("WaterMen$Giving", "least", "[I", true)
  | _ => ("WaterMen$Giving", "jarsOfMen", "[I", true)
def tyX3 : Nat → FieldType := fun k => match k with
  | 0 => .array .int
  | 1 => .array .int
  | _ => .array .int
theorem nmX3 : ∀ a, a < 3 → ∀ b, b < 3 → a ≠ b → (TX3 a).2.1 ≠ (TX3 b).2.1 := by decide +kernel
theorem tyX3_ok : ∀ k, k < 3 → parseFieldDescriptor (TX3 k).2.2.1 = some (tyX3 k) := by decide +kernel
abbrev cX3_init : ByteArray := prog_5_method_1_code
def yX3_init : MethodName := ⟨RX3, "<init>", "()V"⟩
abbrev cX3_jarOf : ByteArray := prog_5_method_2_code
def yX3_jarOf : MethodName := ⟨RX3, "jarOf", "(I)I"⟩
abbrev cX3_setToil : ByteArray := prog_5_method_3_code
def yX3_setToil : MethodName := ⟨RX3, "setToil", "(III)V"⟩
abbrev cX3_findLeast : ByteArray := prog_5_method_4_code
def yX3_findLeast : MethodName := ⟨RX3, "findLeast", "(I)I"⟩
abbrev cX3_toilWith : ByteArray := prog_5_method_5_code
def yX3_toilWith : MethodName := ⟨RX3, "toilWith", "(II)I"⟩
abbrev cX3_settle : ByteArray := prog_5_method_6_code
def yX3_settle : MethodName := ⟨RX3, "settle", "(III)V"⟩
abbrev cX3_firstBest : ByteArray := prog_5_method_7_code
def yX3_firstBest : MethodName := ⟨RX3, "firstBest", "(II)I"⟩
def RX4 : String := "WaterMen$Jar"
def TX4 : u_T := fun k => match k with
  | 0 => ("WaterMen$Jar", "number", "I", true)
  | 1 => ("WaterMen$Jar", "floor", "I", true)
  | 2 => ("WaterMen$Jar", "holds", "I", true)
  | 3 => ("WaterMen$Jar", "minutes", "[I", true)
  | 4 => ("WaterMen$Jar", "has", "I", false)
  | 5 => ("WaterMen$Jar", "thirst", "I", false)
  | _ => ("WaterMen$Jar", "drunk", "I", false)
def tyX4 : Nat → FieldType := fun k => match k with
  | 0 => .int
  | 1 => .int
  | 2 => .int
  | 3 => .array .int
  | 4 => .int
  | 5 => .int
  | _ => .int
theorem nmX4 : ∀ a, a < 7 → ∀ b, b < 7 → a ≠ b → (TX4 a).2.1 ≠ (TX4 b).2.1 := by decide +kernel
theorem tyX4_ok : ∀ k, k < 7 → parseFieldDescriptor (TX4 k).2.2.1 = some (tyX4 k) := by decide +kernel
abbrev cX4_init : ByteArray := prog_6_method_1_code
def yX4_init : MethodName := ⟨RX4, "<init>", "(III[I)V"⟩
abbrev cX4_minutesFrom : ByteArray := prog_6_method_2_code
def yX4_minutesFrom : MethodName := ⟨RX4, "minutesFrom", "(LWaterMen$Fountain;)I"⟩
abbrev cX4_drinkOnce : ByteArray := prog_6_method_3_code
def yX4_drinkOnce : MethodName := ⟨RX4, "drinkOnce", "()I"⟩
def RX5 : String := "WaterMen$Man"
def TX5 : u_T := fun k => match k with
  | 0 => ("WaterMen$Man", "number", "I", true)
  | 1 => ("WaterMen$Man", "load", "I", true)
  | 2 => ("WaterMen$Man", "fountain", "LWaterMen$Fountain;", false)
  | 3 => ("WaterMen$Man", "jar", "LWaterMen$Jar;", false)
  | 4 => ("WaterMen$Man", "rank", "I", false)
  | 5 => ("WaterMen$Man", "doing", "I", false)
  | 6 => ("WaterMen$Man", "toGo", "I", false)
  | 7 => ("WaterMen$Man", "carries", "I", false)
  | 8 => ("WaterMen$Man", "earned", "I", false)
  | 9 => ("WaterMen$Man", "setOutTime", "I", false)
  | 10 => ("WaterMen$Man", "filledFrom", "I", false)
  | _ => ("WaterMen$Man", "filledTime", "I", false)
def tyX5 : Nat → FieldType := fun k => match k with
  | 0 => .int
  | 1 => .int
  | 2 => .object "WaterMen$Fountain"
  | 3 => .object "WaterMen$Jar"
  | 4 => .int
  | 5 => .int
  | 6 => .int
  | 7 => .int
  | 8 => .int
  | 9 => .int
  | 10 => .int
  | _ => .int
theorem nmX5 : ∀ a, a < 12 → ∀ b, b < 12 → a ≠ b → (TX5 a).2.1 ≠ (TX5 b).2.1 := by decide +kernel
theorem tyX5_ok : ∀ k, k < 12 → parseFieldDescriptor (TX5 k).2.2.1 = some (tyX5 k) := by decide +kernel
abbrev cX5_init : ByteArray := prog_7_method_1_code
def yX5_init : MethodName := ⟨RX5, "<init>", "(IILWaterMen$Fountain;LWaterMen$Jar;)V"⟩
abbrev cX5_kind : ByteArray := prog_7_method_2_code
def yX5_kind : MethodName := ⟨RX5, "kind", "()I"⟩
abbrev cX5_canGoTo : ByteArray := prog_7_method_3_code
def yX5_canGoTo : MethodName := ⟨RX5, "canGoTo", "(LWaterMen$Jar;)Z"⟩
abbrev cX5_walkTime : ByteArray := prog_7_method_4_code
def yX5_walkTime : MethodName := ⟨RX5, "walkTime", "(I)I"⟩
abbrev cX5_climbTime : ByteArray := prog_7_method_5_code
def yX5_climbTime : MethodName := ⟨RX5, "climbTime", "(I)I"⟩
abbrev cX5_wayUp : ByteArray := prog_7_method_6_code
def yX5_wayUp : MethodName := ⟨RX5, "wayUp", "(LWaterMen$Jar;)I"⟩
abbrev cX5_wayDown : ByteArray := prog_7_method_7_code
def yX5_wayDown : MethodName := ⟨RX5, "wayDown", "(LWaterMen$Jar;)I"⟩
abbrev cX5_toilFor : ByteArray := prog_7_method_8_code
def yX5_toilFor : MethodName := ⟨RX5, "toilFor", "(LWaterMen$Jar;)I"⟩
abbrev cX5_joinRow : ByteArray := prog_7_method_9_code
def yX5_joinRow : MethodName := ⟨RX5, "joinRow", "()V"⟩
abbrev cX5_leaveRow : ByteArray := prog_7_method_10_code
def yX5_leaveRow : MethodName := ⟨RX5, "leaveRow", "()V"⟩
abbrev cX5_goUp : ByteArray := prog_7_method_11_code
def yX5_goUp : MethodName := ⟨RX5, "goUp", "(I)V"⟩
abbrev cX5_goDown : ByteArray := prog_7_method_12_code
def yX5_goDown : MethodName := ⟨RX5, "goDown", "()V"⟩
def RX6 : String := "WaterMen$Pourings"
def TX6 : u_T := fun k => match k with
  | 0 => ("WaterMen$Pourings", "facts", "[I", true)
  | 1 => ("WaterMen$Pourings", "next", "I", false)
  | _ => ("WaterMen$Pourings", "kept", "I", false)
def tyX6 : Nat → FieldType := fun k => match k with
  | 0 => .array .int
  | 1 => .int
  | _ => .int
theorem nmX6 : ∀ a, a < 3 → ∀ b, b < 3 → a ≠ b → (TX6 a).2.1 ≠ (TX6 b).2.1 := by decide +kernel
theorem tyX6_ok : ∀ k, k < 3 → parseFieldDescriptor (TX6 k).2.2.1 = some (tyX6 k) := by decide +kernel
abbrev cX6_init : ByteArray := prog_8_method_1_code
def yX6_init : MethodName := ⟨RX6, "<init>", "()V"⟩
abbrev cX6_keep : ByteArray := prog_8_method_2_code
def yX6_keep : MethodName := ⟨RX6, "keep", "(LWaterMen$Man;II)V"⟩
abbrev cX6_fact : ByteArray := prog_8_method_3_code
def yX6_fact : MethodName := ⟨RX6, "fact", "(II)I"⟩
abbrev cX6_jarsFouledBy : ByteArray := prog_8_method_4_code
def yX6_jarsFouledBy : MethodName := ⟨RX6, "jarsFouledBy", "(II)I"⟩
def RX7 : String := "WaterMen$Strong"
def TX7 : u_T := fun k => match k with
  | 0 => ("WaterMen$Man", "number", "I", true)
  | 1 => ("WaterMen$Man", "load", "I", true)
  | 2 => ("WaterMen$Man", "fountain", "LWaterMen$Fountain;", false)
  | 3 => ("WaterMen$Man", "jar", "LWaterMen$Jar;", false)
  | 4 => ("WaterMen$Man", "rank", "I", false)
  | 5 => ("WaterMen$Man", "doing", "I", false)
  | 6 => ("WaterMen$Man", "toGo", "I", false)
  | 7 => ("WaterMen$Man", "carries", "I", false)
  | 8 => ("WaterMen$Man", "earned", "I", false)
  | 9 => ("WaterMen$Man", "setOutTime", "I", false)
  | 10 => ("WaterMen$Man", "filledFrom", "I", false)
  | _ => ("WaterMen$Man", "filledTime", "I", false)
def tyX7 : Nat → FieldType := fun k => match k with
  | 0 => .int
  | 1 => .int
  | 2 => .object "WaterMen$Fountain"
  | 3 => .object "WaterMen$Jar"
  | 4 => .int
  | 5 => .int
  | 6 => .int
  | 7 => .int
  | 8 => .int
  | 9 => .int
  | 10 => .int
  | _ => .int
theorem nmX7 : ∀ a, a < 12 → ∀ b, b < 12 → a ≠ b → (TX7 a).2.1 ≠ (TX7 b).2.1 := by decide +kernel
theorem tyX7_ok : ∀ k, k < 12 → parseFieldDescriptor (TX7 k).2.2.1 = some (tyX7 k) := by decide +kernel
abbrev cX7_init : ByteArray := prog_9_method_1_code
def yX7_init : MethodName := ⟨RX7, "<init>", "(IILWaterMen$Fountain;LWaterMen$Jar;)V"⟩
abbrev cX7_kind : ByteArray := prog_9_method_2_code
def yX7_kind : MethodName := ⟨RX7, "kind", "()I"⟩
abbrev cX7_canGoTo : ByteArray := prog_9_method_3_code
def yX7_canGoTo : MethodName := ⟨RX7, "canGoTo", "(LWaterMen$Jar;)Z"⟩
abbrev cX7_climbTime : ByteArray := prog_9_method_4_code
def yX7_climbTime : MethodName := ⟨RX7, "climbTime", "(I)I"⟩
def RX8 : String := "WaterMen"
def TX8 : u_T := fun k => match k with
  | 0 => ("WaterMen", "fountains", "Ljava/util/ArrayList;", true)
  | 1 => ("WaterMen", "jars", "Ljava/util/ArrayList;", true)
  | 2 => ("WaterMen", "men", "Ljava/util/ArrayList;", true)
  | 3 => ("WaterMen", "prices", "LWaterMen$Fares;", true)
  | 4 => ("WaterMen", "pourings", "LWaterMen$Pourings;", true)
  | 5 => ("WaterMen", "giving", "LWaterMen$Giving;", true)
  | 6 => ("WaterMen", "sums", "[J", true)
  | 7 => ("WaterMen", "time", "I", false)
  | _ => ("WaterMen", "hundredths", "I", false)
def tyX8 : Nat → FieldType := fun k => match k with
  | 0 => .object "java/util/ArrayList"
  | 1 => .object "java/util/ArrayList"
  | 2 => .object "java/util/ArrayList"
  | 3 => .object "WaterMen$Fares"
  | 4 => .object "WaterMen$Pourings"
  | 5 => .object "WaterMen$Giving"
  | 6 => .array .long
  | 7 => .int
  | _ => .int
theorem nmX8 : ∀ a, a < 9 → ∀ b, b < 9 → a ≠ b → (TX8 a).2.1 ≠ (TX8 b).2.1 := by decide +kernel
theorem tyX8_ok : ∀ k, k < 9 → parseFieldDescriptor (TX8 k).2.2.1 = some (tyX8 k) := by decide +kernel
abbrev cX8_init : ByteArray := prog_1_method_1_code
def yX8_init : MethodName := ⟨RX8, "<init>", "()V"⟩
abbrev cX8_fountain : ByteArray := prog_1_method_2_code
def yX8_fountain : MethodName := ⟨RX8, "fountain", "(I)I"⟩
abbrev cX8_jar : ByteArray := prog_1_method_3_code
def yX8_jar : MethodName := ⟨RX8, "jar", "(IIIIII)I"⟩
abbrev cX8_drinks : ByteArray := prog_1_method_4_code
def yX8_drinks : MethodName := ⟨RX8, "drinks", "(II)I"⟩
abbrev cX8_man : ByteArray := prog_1_method_5_code
def yX8_man : MethodName := ⟨RX8, "man", "(IIII)I"⟩
abbrev cX8_right : ByteArray := prog_1_method_6_code
def yX8_right : MethodName := ⟨RX8, "right", "(II)I"⟩
abbrev cX8_pace : ByteArray := prog_1_method_7_code
def yX8_pace : MethodName := ⟨RX8, "pace", "(II)I"⟩
abbrev cX8_moves : ByteArray := prog_1_method_8_code
def yX8_moves : MethodName := ⟨RX8, "moves", "(III)I"⟩
abbrev cX8_open : ByteArray := prog_1_method_9_code
def yX8_open : MethodName := ⟨RX8, "open", "(IZ)I"⟩
abbrev cX8_drought : ByteArray := prog_1_method_10_code
def yX8_drought : MethodName := ⟨RX8, "drought", "(I)I"⟩
abbrev cX8_type : ByteArray := prog_1_method_11_code
def yX8_type : MethodName := ⟨RX8, "type", "(JI)I"⟩
abbrev cX8_fares : ByteArray := prog_1_method_12_code
def yX8_fares : MethodName := ⟨RX8, "fares", "()I"⟩
abbrev cX8_fare : ByteArray := prog_1_method_13_code
def yX8_fare : MethodName := ⟨RX8, "fare", "(I)I"⟩
abbrev cX8_run : ByteArray := prog_1_method_14_code
def yX8_run : MethodName := ⟨RX8, "run", "(I)I"⟩
abbrev cX8_told : ByteArray := prog_1_method_15_code
def yX8_told : MethodName := ⟨RX8, "told", "(II)I"⟩
abbrev cX8_water : ByteArray := prog_1_method_16_code
def yX8_water : MethodName := ⟨RX8, "water", "(II)I"⟩
abbrev cX8_sum : ByteArray := prog_1_method_17_code
def yX8_sum : MethodName := ⟨RX8, "sum", "(I)J"⟩
abbrev cX8_fire : ByteArray := prog_1_method_18_code
def yX8_fire : MethodName := ⟨RX8, "fire", "(II)I"⟩
abbrev cX8_poured : ByteArray := prog_1_method_19_code
def yX8_poured : MethodName := ⟨RX8, "poured", "(II)I"⟩
abbrev cX8_foul : ByteArray := prog_1_method_20_code
def yX8_foul : MethodName := ⟨RX8, "foul", "(II)I"⟩
abbrev cX8_give : ByteArray := prog_1_method_21_code
def yX8_give : MethodName := ⟨RX8, "give", "(III)I"⟩
abbrev cX8_given : ByteArray := prog_1_method_22_code
def yX8_given : MethodName := ⟨RX8, "given", "(I)I"⟩
abbrev cX8_count : ByteArray := prog_1_method_23_code
def yX8_count : MethodName := ⟨RX8, "count", "(I)I"⟩
abbrev cX8_outside : ByteArray := prog_1_method_24_code
def yX8_outside : MethodName := ⟨RX8, "outside", "(III)Z"⟩
abbrev cX8_cutUp : ByteArray := prog_1_method_25_code
def yX8_cutUp : MethodName := ⟨RX8, "cutUp", "(II)I"⟩
abbrev cX8_fountainAt : ByteArray := prog_1_method_26_code
def yX8_fountainAt : MethodName := ⟨RX8, "fountainAt", "(I)LWaterMen$Fountain;"⟩
abbrev cX8_jarAt : ByteArray := prog_1_method_27_code
def yX8_jarAt : MethodName := ⟨RX8, "jarAt", "(I)LWaterMen$Jar;"⟩
abbrev cX8_manAt : ByteArray := prog_1_method_28_code
def yX8_manAt : MethodName := ⟨RX8, "manAt", "(I)LWaterMen$Man;"⟩
abbrev cX8_newMan : ByteArray := prog_1_method_29_code
def yX8_newMan : MethodName := ⟨RX8, "newMan", "(IIILWaterMen$Fountain;LWaterMen$Jar;)LWaterMen$Man;"⟩
abbrev cX8_countDoing : ByteArray := prog_1_method_30_code
def yX8_countDoing : MethodName := ⟨RX8, "countDoing", "(I)I"⟩
abbrev cX8_passMinute : ByteArray := prog_1_method_31_code
def yX8_passMinute : MethodName := ⟨RX8, "passMinute", "()V"⟩
abbrev cX8_letFlow : ByteArray := prog_1_method_32_code
def yX8_letFlow : MethodName := ⟨RX8, "letFlow", "(LWaterMen$Fountain;)V"⟩
abbrev cX8_fillNext : ByteArray := prog_1_method_33_code
def yX8_fillNext : MethodName := ⟨RX8, "fillNext", "(LWaterMen$Fountain;)V"⟩
abbrev cX8_walk : ByteArray := prog_1_method_34_code
def yX8_walk : MethodName := ⟨RX8, "walk", "(LWaterMen$Man;)V"⟩
abbrev cX8_pour : ByteArray := prog_1_method_35_code
def yX8_pour : MethodName := ⟨RX8, "pour", "(LWaterMen$Man;)V"⟩
def RX9 : String := "WaterMenModel"
def TX9 : u_T := fun k => match k with
  | 0 => ("WaterMenModel", "fountains", "I", false)
  | 1 => ("WaterMenModel", "flows", "[I", true)
  | 2 => ("WaterMenModel", "depth", "[I", true)
  | 3 => ("WaterMenModel", "isOpen", "[Z", true)
  | 4 => ("WaterMenModel", "ranOff", "[I", true)
  | 5 => ("WaterMenModel", "jars", "I", false)
  | 6 => ("WaterMenModel", "floors", "[I", true)
  | 7 => ("WaterMenModel", "holds", "[I", true)
  | 8 => ("WaterMenModel", "away", "[I", true)
  | 9 => ("WaterMenModel", "jarWater", "[I", true)
  | 10 => ("WaterMenModel", "thirst", "[I", true)
  | 11 => ("WaterMenModel", "drunk", "[I", true)
  | 12 => ("WaterMenModel", "men", "I", false)
  | 13 => ("WaterMenModel", "kinds", "[I", true)
  | 14 => ("WaterMenModel", "loads", "[I", true)
  | 15 => ("WaterMenModel", "ofFountain", "[I", true)
  | 16 => ("WaterMenModel", "ofJar", "[I", true)
  | 17 => ("WaterMenModel", "rights", "[I", true)
  | 18 => ("WaterMenModel", "paces", "[I", true)
  | 19 => ("WaterMenModel", "does", "[I", true)
  | 20 => ("WaterMenModel", "toGo", "[I", true)
  | 21 => ("WaterMenModel", "carries", "[I", true)
  | 22 => ("WaterMenModel", "earned", "[I", true)
  | 23 => ("WaterMenModel", "came", "[I", true)
  | 24 => ("WaterMenModel", "filledAt", "[I", true)
  | 25 => ("WaterMenModel", "filledWhen", "[I", true)
  | 26 => ("WaterMenModel", "coming", "I", false)
  | 27 => ("WaterMenModel", "part", "I", false)
  | 28 => ("WaterMenModel", "time", "I", false)
  | 29 => ("WaterMenModel", "sums", "[J", true)
  | 30 => ("WaterMenModel", "tape", "[I", true)
  | 31 => ("WaterMenModel", "taped", "I", false)
  | 32 => ("WaterMenModel", "at", "I", false)
  | 33 => ("WaterMenModel", "prices", "[I", true)
  | 34 => ("WaterMenModel", "readPrices", "[I", true)
  | 35 => ("WaterMenModel", "pourings", "I", false)
  | 36 => ("WaterMenModel", "kept", "[I", true)
  | 37 => ("WaterMenModel", "going", "[Z", true)
  | 38 => ("WaterMenModel", "toils", "[I", true)
  | 39 => ("WaterMenModel", "choices", "[I", true)
  | _ => ("WaterMenModel", "toJar", "[I", true)
def tyX9 : Nat → FieldType := fun k => match k with
  | 0 => .int
  | 1 => .array .int
  | 2 => .array .int
  | 3 => .array .boolean
  | 4 => .array .int
  | 5 => .int
  | 6 => .array .int
  | 7 => .array .int
  | 8 => .array .int
  | 9 => .array .int
  | 10 => .array .int
  | 11 => .array .int
  | 12 => .int
  | 13 => .array .int
  | 14 => .array .int
  | 15 => .array .int
  | 16 => .array .int
  | 17 => .array .int
  | 18 => .array .int
  | 19 => .array .int
  | 20 => .array .int
  | 21 => .array .int
  | 22 => .array .int
  | 23 => .array .int
  | 24 => .array .int
  | 25 => .array .int
  | 26 => .int
  | 27 => .int
  | 28 => .int
  | 29 => .array .long
  | 30 => .array .int
  | 31 => .int
  | 32 => .int
  | 33 => .array .int
  | 34 => .array .int
  | 35 => .int
  | 36 => .array .int
  | 37 => .array .boolean
  | 38 => .array .int
  | 39 => .array .int
  | _ => .array .int
theorem nmX9 : ∀ a, a < 41 → ∀ b, b < 41 → a ≠ b → (TX9 a).2.1 ≠ (TX9 b).2.1 := by decide +kernel
theorem tyX9_ok : ∀ k, k < 41 → parseFieldDescriptor (TX9 k).2.2.1 = some (tyX9 k) := by decide +kernel
abbrev cX9_in : ByteArray := prog_11_method_1_code
def yX9_in : MethodName := ⟨RX9, "in", "(III)Z"⟩
abbrev cX9_least : ByteArray := prog_11_method_2_code
def yX9_least : MethodName := ⟨RX9, "least", "(II)I"⟩
abbrev cX9_init : ByteArray := prog_11_method_3_code
def yX9_init : MethodName := ⟨RX9, "<init>", "()V"⟩
abbrev cX9_fountain : ByteArray := prog_11_method_4_code
def yX9_fountain : MethodName := ⟨RX9, "fountain", "(I)I"⟩
abbrev cX9_isMinutes : ByteArray := prog_11_method_5_code
def yX9_isMinutes : MethodName := ⟨RX9, "isMinutes", "(II)Z"⟩
abbrev cX9_jar : ByteArray := prog_11_method_6_code
def yX9_jar : MethodName := ⟨RX9, "jar", "(IIIIII)I"⟩
abbrev cX9_isFountain : ByteArray := prog_11_method_7_code
def yX9_isFountain : MethodName := ⟨RX9, "isFountain", "(I)Z"⟩
abbrev cX9_isJar : ByteArray := prog_11_method_8_code
def yX9_isJar : MethodName := ⟨RX9, "isJar", "(I)Z"⟩
abbrev cX9_isMan : ByteArray := prog_11_method_9_code
def yX9_isMan : MethodName := ⟨RX9, "isMan", "(I)Z"⟩
abbrev cX9_drinks : ByteArray := prog_11_method_10_code
def yX9_drinks : MethodName := ⟨RX9, "drinks", "(II)I"⟩
abbrev cX9_canGo : ByteArray := prog_11_method_11_code
def yX9_canGo : MethodName := ⟨RX9, "canGo", "(II)Z"⟩
abbrev cX9_joinRow : ByteArray := prog_11_method_12_code
def yX9_joinRow : MethodName := ⟨RX9, "joinRow", "(I)V"⟩
abbrev cX9_man : ByteArray := prog_11_method_13_code
def yX9_man : MethodName := ⟨RX9, "man", "(IIII)I"⟩
abbrev cX9_right : ByteArray := prog_11_method_14_code
def yX9_right : MethodName := ⟨RX9, "right", "(II)I"⟩
abbrev cX9_pace : ByteArray := prog_11_method_15_code
def yX9_pace : MethodName := ⟨RX9, "pace", "(II)I"⟩
abbrev cX9_moves : ByteArray := prog_11_method_16_code
def yX9_moves : MethodName := ⟨RX9, "moves", "(III)I"⟩
abbrev cX9_open : ByteArray := prog_11_method_17_code
def yX9_open : MethodName := ⟨RX9, "open", "(IZ)I"⟩
abbrev cX9_drought : ByteArray := prog_11_method_18_code
def yX9_drought : MethodName := ⟨RX9, "drought", "(I)I"⟩
abbrev cX9_wayOf : ByteArray := prog_11_method_19_code
def yX9_wayOf : MethodName := ⟨RX9, "wayOf", "(IIZ)I"⟩
abbrev cX9_type : ByteArray := prog_11_method_20_code
def yX9_type : MethodName := ⟨RX9, "type", "(JI)I"⟩
abbrev cX9_next : ByteArray := prog_11_method_21_code
def yX9_next : MethodName := ⟨RX9, "next", "()I"⟩
abbrev cX9_number : ByteArray := prog_11_method_22_code
def yX9_number : MethodName := ⟨RX9, "number", "(II)I"⟩
abbrev cX9_readClause : ByteArray := prog_11_method_23_code
def yX9_readClause : MethodName := ⟨RX9, "readClause", "()Z"⟩
abbrev cX9_readFares : ByteArray := prog_11_method_24_code
def yX9_readFares : MethodName := ⟨RX9, "readFares", "()I"⟩
abbrev cX9_fares : ByteArray := prog_11_method_25_code
def yX9_fares : MethodName := ⟨RX9, "fares", "()I"⟩
abbrev cX9_fare : ByteArray := prog_11_method_26_code
def yX9_fare : MethodName := ⟨RX9, "fare", "(I)I"⟩
abbrev cX9_flow : ByteArray := prog_11_method_27_code
def yX9_flow : MethodName := ⟨RX9, "flow", "(I)V"⟩
abbrev cX9_isAhead : ByteArray := prog_11_method_28_code
def yX9_isAhead : MethodName := ⟨RX9, "isAhead", "(II)Z"⟩
abbrev cX9_fill : ByteArray := prog_11_method_29_code
def yX9_fill : MethodName := ⟨RX9, "fill", "(I)V"⟩
abbrev cX9_keep : ByteArray := prog_11_method_30_code
def yX9_keep : MethodName := ⟨RX9, "keep", "(III)V"⟩
abbrev cX9_goDown : ByteArray := prog_11_method_31_code
def yX9_goDown : MethodName := ⟨RX9, "goDown", "(I)V"⟩
abbrev cX9_pour : ByteArray := prog_11_method_32_code
def yX9_pour : MethodName := ⟨RX9, "pour", "(I)V"⟩
abbrev cX9_minute : ByteArray := prog_11_method_33_code
def yX9_minute : MethodName := ⟨RX9, "minute", "()V"⟩
abbrev cX9_run : ByteArray := prog_11_method_34_code
def yX9_run : MethodName := ⟨RX9, "run", "(I)I"⟩
abbrev cX9_told : ByteArray := prog_11_method_35_code
def yX9_told : MethodName := ⟨RX9, "told", "(II)I"⟩
abbrev cX9_water : ByteArray := prog_11_method_36_code
def yX9_water : MethodName := ⟨RX9, "water", "(II)I"⟩
abbrev cX9_sum : ByteArray := prog_11_method_37_code
def yX9_sum : MethodName := ⟨RX9, "sum", "(I)J"⟩
abbrev cX9_fire : ByteArray := prog_11_method_38_code
def yX9_fire : MethodName := ⟨RX9, "fire", "(II)I"⟩
abbrev cX9_poured : ByteArray := prog_11_method_39_code
def yX9_poured : MethodName := ⟨RX9, "poured", "(II)I"⟩
abbrev cX9_foul : ByteArray := prog_11_method_40_code
def yX9_foul : MethodName := ⟨RX9, "foul", "(II)I"⟩
abbrev cX9_ones : ByteArray := prog_11_method_41_code
def yX9_ones : MethodName := ⟨RX9, "ones", "(I)I"⟩
abbrev cX9_give : ByteArray := prog_11_method_42_code
def yX9_give : MethodName := ⟨RX9, "give", "(III)I"⟩
abbrev cX9_given : ByteArray := prog_11_method_43_code
def yX9_given : MethodName := ⟨RX9, "given", "(I)I"⟩
abbrev cX9_count : ByteArray := prog_11_method_44_code
def yX9_count : MethodName := ⟨RX9, "count", "(I)I"⟩
def RJx145de : String := "java/io/Serializable"
def TJx145de : u_T := fun k => match k with
  | _ => ("", "", "", false)
def tyJx145de : Nat → FieldType := fun k => match k with
  | _ => .int
theorem nmJx145de : ∀ a, a < 0 → ∀ b, b < 0 → a ≠ b → (TJx145de a).2.1 ≠ (TJx145de b).2.1 := by decide +kernel
theorem tyJx145de_ok : ∀ k, k < 0 → parseFieldDescriptor (TJx145de k).2.2.1 = some (tyJx145de k) := by decide +kernel
def RJx8e188 : String := "java/lang/Cloneable"
def TJx8e188 : u_T := fun k => match k with
  | _ => ("", "", "", false)
def tyJx8e188 : Nat → FieldType := fun k => match k with
  | _ => .int
theorem nmJx8e188 : ∀ a, a < 0 → ∀ b, b < 0 → a ≠ b → (TJx8e188 a).2.1 ≠ (TJx8e188 b).2.1 := by decide +kernel
theorem tyJx8e188_ok : ∀ k, k < 0 → parseFieldDescriptor (TJx8e188 k).2.2.1 = some (tyJx8e188 k) := by decide +kernel
def RJ6 : String := "java/lang/Integer"
def TJ6 : u_T := fun k => match k with
  | _ => ("", "", "", false)
def tyJ6 : Nat → FieldType := fun k => match k with
  | _ => .int
theorem nmJ6 : ∀ a, a < 0 → ∀ b, b < 0 → a ≠ b → (TJ6 a).2.1 ≠ (TJ6 b).2.1 := by decide +kernel
theorem tyJ6_ok : ∀ k, k < 0 → parseFieldDescriptor (TJ6 k).2.2.1 = some (tyJ6 k) := by decide +kernel
abbrev cJ6_bitCount_0f7a4 : ByteArray := prog_14_method_49_code
def yJ6_bitCount_0f7a4 : MethodName := ⟨RJ6, "bitCount", "(I)I"⟩
def RJxab1ab : String := "java/lang/Iterable"
def TJxab1ab : u_T := fun k => match k with
  | _ => ("", "", "", false)
def tyJxab1ab : Nat → FieldType := fun k => match k with
  | _ => .int
theorem nmJxab1ab : ∀ a, a < 0 → ∀ b, b < 0 → a ≠ b → (TJxab1ab a).2.1 ≠ (TJxab1ab b).2.1 := by decide +kernel
theorem tyJxab1ab_ok : ∀ k, k < 0 → parseFieldDescriptor (TJxab1ab k).2.2.1 = some (tyJxab1ab k) := by decide +kernel
def RJ9 : String := "java/lang/Math"
def TJ9 : u_T := fun k => match k with
  | _ => ("", "", "", false)
def tyJ9 : Nat → FieldType := fun k => match k with
  | _ => .int
theorem nmJ9 : ∀ a, a < 0 → ∀ b, b < 0 → a ≠ b → (TJ9 a).2.1 ≠ (TJ9 b).2.1 := by decide +kernel
theorem tyJ9_ok : ∀ k, k < 0 → parseFieldDescriptor (TJ9 k).2.2.1 = some (tyJ9 k) := by decide +kernel
abbrev cJ9_floorMod_7cf53 : ByteArray := prog_16_method_50_code
def yJ9_floorMod_7cf53 : MethodName := ⟨RJ9, "floorMod", "(II)I"⟩
abbrev cJ9_max_7cf53 : ByteArray := prog_16_method_65_code
def yJ9_max_7cf53 : MethodName := ⟨RJ9, "max", "(II)I"⟩
abbrev cJ9_min_7cf53 : ByteArray := prog_16_method_69_code
def yJ9_min_7cf53 : MethodName := ⟨RJ9, "min", "(II)I"⟩
def RJ10 : String := "java/lang/System"
def TJ10 : u_T := fun k => match k with
  | _ => ("", "", "", false)
def tyJ10 : Nat → FieldType := fun k => match k with
  | _ => .int
theorem nmJ10 : ∀ a, a < 0 → ∀ b, b < 0 → a ≠ b → (TJ10 a).2.1 ≠ (TJ10 b).2.1 := by decide +kernel
theorem tyJ10_ok : ∀ k, k < 0 → parseFieldDescriptor (TJ10 k).2.2.1 = some (tyJ10 k) := by decide +kernel
def RJxa1e45 : String := "java/util/AbstractCollection"
def TJxa1e45 : u_T := fun k => match k with
  | _ => ("", "", "", false)
def tyJxa1e45 : Nat → FieldType := fun k => match k with
  | _ => .int
theorem nmJxa1e45 : ∀ a, a < 0 → ∀ b, b < 0 → a ≠ b → (TJxa1e45 a).2.1 ≠ (TJxa1e45 b).2.1 := by decide +kernel
theorem tyJxa1e45_ok : ∀ k, k < 0 → parseFieldDescriptor (TJxa1e45 k).2.2.1 = some (tyJxa1e45 k) := by decide +kernel
abbrev cJxa1e45_init_da8c8 : ByteArray := prog_18_method_1_code
def yJxa1e45_init_da8c8 : MethodName := ⟨RJxa1e45, "<init>", "()V"⟩
def RJxc12de : String := "java/util/AbstractList"
def TJxc12de : u_T := fun k => match k with
  | _ => ("", "", "", false)
def tyJxc12de : Nat → FieldType := fun k => match k with
  | _ => .int
theorem nmJxc12de : ∀ a, a < 0 → ∀ b, b < 0 → a ≠ b → (TJxc12de a).2.1 ≠ (TJxc12de b).2.1 := by decide +kernel
theorem tyJxc12de_ok : ∀ k, k < 0 → parseFieldDescriptor (TJxc12de k).2.2.1 = some (tyJxc12de k) := by decide +kernel
abbrev cJxc12de_init_da8c8 : ByteArray := prog_19_method_1_code
def yJxc12de_init_da8c8 : MethodName := ⟨RJxc12de, "<init>", "()V"⟩
def RJx4a65c : String := "java/util/ArrayList"
def TJx4a65c : u_T := fun k => match k with
  | 0 => ("java/util/AbstractList", "modCount", "I", false)
  | 1 => ("java/util/ArrayList", "elementData", "[Ljava/lang/Object;", false)
  | _ => ("java/util/ArrayList", "size", "I", false)
def tyJx4a65c : Nat → FieldType := fun k => match k with
  | 0 => .int
  | 1 => .array (.object "java/lang/Object")
  | _ => .int
theorem nmJx4a65c : ∀ a, a < 3 → ∀ b, b < 3 → a ≠ b → (TJx4a65c a).2.1 ≠ (TJx4a65c b).2.1 := by decide +kernel
theorem tyJx4a65c_ok : ∀ k, k < 3 → parseFieldDescriptor (TJx4a65c k).2.2.1 = some (tyJx4a65c k) := by decide +kernel
abbrev cJx4a65c_init_da8c8 : ByteArray := prog_20_method_2_code
def yJx4a65c_init_da8c8 : MethodName := ⟨RJx4a65c, "<init>", "()V"⟩
abbrev cJx4a65c_grow_92f84 : ByteArray := prog_20_method_6_code
def yJx4a65c_grow_92f84 : MethodName := ⟨RJx4a65c, "grow", "(I)[Ljava/lang/Object;"⟩
abbrev cJx4a65c_grow_d5877 : ByteArray := prog_20_method_7_code
def yJx4a65c_grow_d5877 : MethodName := ⟨RJx4a65c, "grow", "()[Ljava/lang/Object;"⟩
abbrev cJx4a65c_size_8abf5 : ByteArray := prog_20_method_8_code
def yJx4a65c_size_8abf5 : MethodName := ⟨RJx4a65c, "size", "()I"⟩
abbrev cJx4a65c_isEmpty_aae02 : ByteArray := prog_20_method_9_code
def yJx4a65c_isEmpty_aae02 : MethodName := ⟨RJx4a65c, "isEmpty", "()Z"⟩
abbrev cJx4a65c_elementData_915e3 : ByteArray := prog_20_method_18_code
def yJx4a65c_elementData_915e3 : MethodName := ⟨RJx4a65c, "elementData", "(I)Ljava/lang/Object;"⟩
abbrev cJx4a65c_get_915e3 : ByteArray := prog_20_method_20_code
def yJx4a65c_get_915e3 : MethodName := ⟨RJx4a65c, "get", "(I)Ljava/lang/Object;"⟩
abbrev cJx4a65c_add_72be8 : ByteArray := prog_20_method_24_code
def yJx4a65c_add_72be8 : MethodName := ⟨RJx4a65c, "add", "(Ljava/lang/Object;[Ljava/lang/Object;I)V"⟩
abbrev cJx4a65c_add_9ea2d : ByteArray := prog_20_method_25_code
def yJx4a65c_add_9ea2d : MethodName := ⟨RJx4a65c, "add", "(Ljava/lang/Object;)Z"⟩
abbrev cJx4a65c_remove_915e3 : ByteArray := prog_20_method_29_code
def yJx4a65c_remove_915e3 : MethodName := ⟨RJx4a65c, "remove", "(I)Ljava/lang/Object;"⟩
abbrev cJx4a65c_fastRemove_b59b0 : ByteArray := prog_20_method_39_code
def yJx4a65c_fastRemove_b59b0 : MethodName := ⟨RJx4a65c, "fastRemove", "([Ljava/lang/Object;I)V"⟩
def RJ7 : String := "java/util/Arrays"
def TJ7 : u_T := fun k => match k with
  | _ => ("", "", "", false)
def tyJ7 : Nat → FieldType := fun k => match k with
  | _ => .int
theorem nmJ7 : ∀ a, a < 0 → ∀ b, b < 0 → a ≠ b → (TJ7 a).2.1 ≠ (TJ7 b).2.1 := by decide +kernel
theorem tyJ7_ok : ∀ k, k < 0 → parseFieldDescriptor (TJ7 k).2.2.1 = some (tyJ7 k) := by decide +kernel
abbrev cJ7_fill_53178 : ByteArray := prog_21_method_103_code
def yJ7_fill_53178 : MethodName := ⟨RJ7, "fill", "([II)V"⟩
abbrev cJ7_copyOf_1904c : ByteArray := prog_21_method_119_code
def yJ7_copyOf_1904c : MethodName := ⟨RJ7, "copyOf", "([Ljava/lang/Object;I)[Ljava/lang/Object;"⟩
abbrev cJ7_copyOf_6403c : ByteArray := prog_21_method_120_code
def yJ7_copyOf_6403c : MethodName := ⟨RJ7, "copyOf", "([Ljava/lang/Object;ILjava/lang/Class;)[Ljava/lang/Object;"⟩
def RJx5ef63 : String := "java/util/Collection"
def TJx5ef63 : u_T := fun k => match k with
  | _ => ("", "", "", false)
def tyJx5ef63 : Nat → FieldType := fun k => match k with
  | _ => .int
theorem nmJx5ef63 : ∀ a, a < 0 → ∀ b, b < 0 → a ≠ b → (TJx5ef63 a).2.1 ≠ (TJx5ef63 b).2.1 := by decide +kernel
theorem tyJx5ef63_ok : ∀ k, k < 0 → parseFieldDescriptor (TJx5ef63 k).2.2.1 = some (tyJx5ef63 k) := by decide +kernel
def RJxbd725 : String := "java/util/List"
def TJxbd725 : u_T := fun k => match k with
  | _ => ("", "", "", false)
def tyJxbd725 : Nat → FieldType := fun k => match k with
  | _ => .int
theorem nmJxbd725 : ∀ a, a < 0 → ∀ b, b < 0 → a ≠ b → (TJxbd725 a).2.1 ≠ (TJxbd725 b).2.1 := by decide +kernel
theorem tyJxbd725_ok : ∀ k, k < 0 → parseFieldDescriptor (TJxbd725 k).2.2.1 = some (tyJxbd725 k) := by decide +kernel
def RJ15 : String := "java/util/Objects"
def TJ15 : u_T := fun k => match k with
  | _ => ("", "", "", false)
def tyJ15 : Nat → FieldType := fun k => match k with
  | _ => .int
theorem nmJ15 : ∀ a, a < 0 → ∀ b, b < 0 → a ≠ b → (TJ15 a).2.1 ≠ (TJ15 b).2.1 := by decide +kernel
theorem tyJ15_ok : ∀ k, k < 0 → parseFieldDescriptor (TJ15 k).2.2.1 = some (tyJ15 k) := by decide +kernel
abbrev cJ15_checkIndex_7cf53 : ByteArray := prog_24_method_17_code
def yJ15_checkIndex_7cf53 : MethodName := ⟨RJ15, "checkIndex", "(II)I"⟩
def RJxf0a74 : String := "java/util/RandomAccess"
def TJxf0a74 : u_T := fun k => match k with
  | _ => ("", "", "", false)
def tyJxf0a74 : Nat → FieldType := fun k => match k with
  | _ => .int
theorem nmJxf0a74 : ∀ a, a < 0 → ∀ b, b < 0 → a ≠ b → (TJxf0a74 a).2.1 ≠ (TJxf0a74 b).2.1 := by decide +kernel
theorem tyJxf0a74_ok : ∀ k, k < 0 → parseFieldDescriptor (TJxf0a74 k).2.2.1 = some (tyJxf0a74 k) := by decide +kernel
def RJxa66e6 : String := "java/util/SequencedCollection"
def TJxa66e6 : u_T := fun k => match k with
  | _ => ("", "", "", false)
def tyJxa66e6 : Nat → FieldType := fun k => match k with
  | _ => .int
theorem nmJxa66e6 : ∀ a, a < 0 → ∀ b, b < 0 → a ≠ b → (TJxa66e6 a).2.1 ≠ (TJxa66e6 b).2.1 := by decide +kernel
theorem tyJxa66e6_ok : ∀ k, k < 0 → parseFieldDescriptor (TJxa66e6 k).2.2.1 = some (tyJxa66e6 k) := by decide +kernel
def RJ8 : String := "jdk/internal/util/ArraysSupport"
def TJ8 : u_T := fun k => match k with
  | _ => ("", "", "", false)
def tyJ8 : Nat → FieldType := fun k => match k with
  | _ => .int
theorem nmJ8 : ∀ a, a < 0 → ∀ b, b < 0 → a ≠ b → (TJ8 a).2.1 ≠ (TJ8 b).2.1 := by decide +kernel
theorem tyJ8_ok : ∀ k, k < 0 → parseFieldDescriptor (TJ8 k).2.2.1 = some (tyJ8 k) := by decide +kernel
abbrev cJ8_newLength_cabcc : ByteArray := prog_27_method_27_code
def yJ8_newLength_cabcc : MethodName := ⟨RJ8, "newLength", "(III)I"⟩
abbrev cJ8_hugeLength_7cf53 : ByteArray := prog_27_method_28_code
def yJ8_hugeLength_7cf53 : MethodName := ⟨RJ8, "hugeLength", "(II)I"⟩
def RJ3 : String := "jdk/internal/util/Preconditions"
def TJ3 : u_T := fun k => match k with
  | _ => ("", "", "", false)
def tyJ3 : Nat → FieldType := fun k => match k with
  | _ => .int
theorem nmJ3 : ∀ a, a < 0 → ∀ b, b < 0 → a ≠ b → (TJ3 a).2.1 ≠ (TJ3 b).2.1 := by decide +kernel
theorem tyJ3_ok : ∀ k, k < 0 → parseFieldDescriptor (TJ3 k).2.2.1 = some (tyJ3 k) := by decide +kernel
abbrev cJ3_checkIndex_8e157 : ByteArray := prog_28_method_11_code
def yJ3_checkIndex_8e157 : MethodName := ⟨RJ3, "checkIndex", "(IILjava/util/function/BiFunction;)I"⟩
def RL : String := "WaterMenLaw"
abbrev cL_law : ByteArray := code
def yL_law : MethodName := ⟨RL, "law", "([I)Z"⟩
abbrev vwCl : List vw_C := [(RJx4a65c, TJx4a65c, 3), (RX0, TX0, 13), (RX1, TX1, 5), (RX2, TX2, 6), (RX3, TX3, 3), (RX4, TX4, 7), (RX5, TX5, 12), (RX6, TX6, 3), (RX7, TX7, 12), (RX8, TX8, 9), (RX9, TX9, 41)]
