def RX0 : String := "Wagonplay$Ground"
def TX0 : u_T := fun k => match k with
  | 0 => ("Wagonplay$Ground", "stations", "[LWagonplay$Station;", true)
  | 1 => ("Wagonplay$Ground", "wet", "[Z", true)
  | _ => ("Wagonplay$Ground", "count", "I", false)
def tyX0 : Nat → FieldType := fun k => match k with
  | 0 => .array (.object "Wagonplay$Station")
  | 1 => .array .boolean
  | _ => .int
abbrev wsX00 : List Cond := u_ws RX0 TX0 3
theorem nmX0 : ∀ a, a < 3 → ∀ b, b < 3 → a ≠ b → (TX0 a).2.1 ≠ (TX0 b).2.1 := by decide +kernel
theorem tyX0_ok : ∀ k, k < 3 → parseFieldDescriptor (TX0 k).2.2.1 = some (tyX0 k) := by decide +kernel
abbrev cX0_init : ByteArray := prog_2_method_1_code
def yX0_init : MethodName := ⟨RX0, "<init>", "()V"⟩
abbrev cX0_rainsAt : ByteArray := prog_2_method_2_code
def yX0_rainsAt : MethodName := ⟨RX0, "rainsAt", "(I)Z"⟩
def RX1 : String := "Wagonplay$Guild"
def TX1 : u_T := fun k => match k with
  | 0 => ("Wagonplay$Guild", "wealth", "I", false)
  | 1 => ("Wagonplay$Guild", "fines", "I", false)
  | 2 => ("Wagonplay$Guild", "over", "Z", false)
  | 3 => ("Wagonplay$Guild", "height", "I", false)
  | 4 => ("Wagonplay$Guild", "hands", "I", false)
  | 5 => ("Wagonplay$Guild", "wheels", "I", false)
  | _ => ("Wagonplay$Guild", "play", "LWagonplay$Play;", true)
def tyX1 : Nat → FieldType := fun k => match k with
  | 0 => .int
  | 1 => .int
  | 2 => .boolean
  | 3 => .int
  | 4 => .int
  | 5 => .int
  | _ => .object "Wagonplay$Play"
abbrev wsX10 : List Cond := u_ws RX1 TX1 7
theorem nmX1 : ∀ a, a < 7 → ∀ b, b < 7 → a ≠ b → (TX1 a).2.1 ≠ (TX1 b).2.1 := by decide +kernel
theorem tyX1_ok : ∀ k, k < 7 → parseFieldDescriptor (TX1 k).2.2.1 = some (tyX1 k) := by decide +kernel
abbrev cX1_init : ByteArray := prog_3_method_1_code
def yX1_init : MethodName := ⟨RX1, "<init>", "()V"⟩
abbrev cX1_wage : ByteArray := prog_3_method_2_code
def yX1_wage : MethodName := ⟨RX1, "wage", "()I"⟩
def RX2 : String := "Wagonplay$Letters"
def TX2 : u_T := fun k => match k with
  | 0 => ("Wagonplay$Letters", "typed", "[C", true)
  | _ => ("Wagonplay$Letters", "count", "I", false)
def tyX2 : Nat → FieldType := fun k => match k with
  | 0 => .array .char
  | _ => .int
abbrev wsX20 : List Cond := u_ws RX2 TX2 2
theorem nmX2 : ∀ a, a < 2 → ∀ b, b < 2 → a ≠ b → (TX2 a).2.1 ≠ (TX2 b).2.1 := by decide +kernel
theorem tyX2_ok : ∀ k, k < 2 → parseFieldDescriptor (TX2 k).2.2.1 = some (tyX2 k) := by decide +kernel
abbrev cX2_init : ByteArray := prog_4_method_1_code
def yX2_init : MethodName := ⟨RX2, "<init>", "()V"⟩
abbrev cX2_append : ByteArray := prog_4_method_2_code
def yX2_append : MethodName := ⟨RX2, "append", "(C)V"⟩
abbrev cX2_spelt : ByteArray := prog_4_method_3_code
def yX2_spelt : MethodName := ⟨RX2, "spelt", "()I"⟩
abbrev cX2_isTyped : ByteArray := prog_4_method_4_code
def yX2_isTyped : MethodName := ⟨RX2, "isTyped", "(Ljava/lang/String;)Z"⟩
abbrev cX2_wordOf : ByteArray := prog_4_method_5_code
def yX2_wordOf : MethodName := ⟨RX2, "wordOf", "(I)Ljava/lang/String;"⟩
def RX3 : String := "Wagonplay$Plan"
def TX3 : u_T := fun k => match k with
  | 0 => ("Wagonplay$Plan", "shows", "[LWagonplay$Show;", true)
  | 1 => ("Wagonplay$Plan", "count", "I", false)
  | _ => ("Wagonplay$Plan", "stops", "I", false)
def tyX3 : Nat → FieldType := fun k => match k with
  | 0 => .array (.object "Wagonplay$Show")
  | 1 => .int
  | _ => .int
abbrev wsX30 : List Cond := u_ws RX3 TX3 3
theorem nmX3 : ∀ a, a < 3 → ∀ b, b < 3 → a ≠ b → (TX3 a).2.1 ≠ (TX3 b).2.1 := by decide +kernel
theorem tyX3_ok : ∀ k, k < 3 → parseFieldDescriptor (TX3 k).2.2.1 = some (tyX3 k) := by decide +kernel
abbrev cX3_init : ByteArray := prog_5_method_1_code
def yX3_init : MethodName := ⟨RX3, "<init>", "()V"⟩
abbrev cX3_start : ByteArray := prog_5_method_2_code
def yX3_start : MethodName := ⟨RX3, "start", "(LWagonplay$Ground;)V"⟩
abbrev cX3_append : ByteArray := prog_5_method_3_code
def yX3_append : MethodName := ⟨RX3, "append", "(ILWagonplay$Guild;LWagonplay$Ground;)V"⟩
abbrev cX3_playAt : ByteArray := prog_5_method_5_code
def yX3_playAt : MethodName := ⟨RX3, "playAt", "(ILWagonplay$Show;LWagonplay$Guild;LWagonplay$Ground;)V"⟩
abbrev cX3_firstFree : ByteArray := prog_5_method_6_code
def yX3_firstFree : MethodName := ⟨RX3, "firstFree", "(IILWagonplay$Play;LWagonplay$Station;LWagonplay$Ground;)I"⟩
abbrev cX3_endOfClashes : ByteArray := prog_5_method_7_code
def yX3_endOfClashes : MethodName := ⟨RX3, "endOfClashes", "(III)I"⟩
abbrev cX3_judge : ByteArray := prog_5_method_8_code
def yX3_judge : MethodName := ⟨RX3, "judge", "(ILWagonplay$Show;LWagonplay$Play;LWagonplay$Station;I)V"⟩
abbrev cX3_latestEnd : ByteArray := prog_5_method_9_code
def yX3_latestEnd : MethodName := ⟨RX3, "latestEnd", "()I"⟩
abbrev cX3_countWhole : ByteArray := prog_5_method_10_code
def yX3_countWhole : MethodName := ⟨RX3, "countWhole", "()I"⟩
abbrev cX3_isDaySound : ByteArray := prog_5_method_11_code
def yX3_isDaySound : MethodName := ⟨RX3, "isDaySound", "()Z"⟩
abbrev cX3_isWaySound : ByteArray := prog_5_method_12_code
def yX3_isWaySound : MethodName := ⟨RX3, "isWaySound", "(I)Z"⟩
abbrev cX3_isApart : ByteArray := prog_5_method_13_code
def yX3_isApart : MethodName := ⟨RX3, "isApart", "(I)Z"⟩
abbrev cX3_overlap : ByteArray := prog_5_method_14_code
def yX3_overlap : MethodName := ⟨RX3, "overlap", "(LWagonplay$Show;LWagonplay$Show;)Z"⟩
def RX4 : String := "Wagonplay$Play"
def TX4 : u_T := fun k => match k with
  | 0 => ("Wagonplay$Play", "lines", "I", false)
  | 1 => ("Wagonplay$Play", "parts", "I", false)
  | 2 => ("Wagonplay$Play", "topic", "I", false)
  | 3 => ("Wagonplay$Play", "learnt", "I", false)
  | 4 => ("Wagonplay$Play", "linesInBook", "I", false)
  | 5 => ("Wagonplay$Play", "players", "[I", true)
  | _ => ("Wagonplay$Play", "lost", "[Z", true)
def tyX4 : Nat → FieldType := fun k => match k with
  | 0 => .int
  | 1 => .int
  | 2 => .int
  | 3 => .int
  | 4 => .int
  | 5 => .array .int
  | _ => .array .boolean
abbrev wsX40 : List Cond := u_ws RX4 TX4 7
theorem nmX4 : ∀ a, a < 7 → ∀ b, b < 7 → a ≠ b → (TX4 a).2.1 ≠ (TX4 b).2.1 := by decide +kernel
theorem tyX4_ok : ∀ k, k < 7 → parseFieldDescriptor (TX4 k).2.2.1 = some (tyX4 k) := by decide +kernel
abbrev cX4_init : ByteArray := prog_6_method_1_code
def yX4_init : MethodName := ⟨RX4, "<init>", "()V"⟩
abbrev cX4_write : ByteArray := prog_6_method_2_code
def yX4_write : MethodName := ⟨RX4, "write", "(II)V"⟩
abbrev cX4_forget : ByteArray := prog_6_method_3_code
def yX4_forget : MethodName := ⟨RX4, "forget", "()V"⟩
abbrev cX4_minutes : ByteArray := prog_6_method_4_code
def yX4_minutes : MethodName := ⟨RX4, "minutes", "(Z)I"⟩
abbrev cX4_playerBits : ByteArray := prog_6_method_5_code
def yX4_playerBits : MethodName := ⟨RX4, "playerBits", "()I"⟩
abbrev cX4_linesNotInBook : ByteArray := prog_6_method_6_code
def yX4_linesNotInBook : MethodName := ⟨RX4, "linesNotInBook", "()I"⟩
abbrev cX4_leafCount : ByteArray := prog_6_method_7_code
def yX4_leafCount : MethodName := ⟨RX4, "leafCount", "()I"⟩
abbrev cX4_lastLineOf : ByteArray := prog_6_method_8_code
def yX4_lastLineOf : MethodName := ⟨RX4, "lastLineOf", "(I)I"⟩
abbrev cX4_knownLines : ByteArray := prog_6_method_9_code
def yX4_knownLines : MethodName := ⟨RX4, "knownLines", "()I"⟩
abbrev cX4_bringBookUpToDate : ByteArray := prog_6_method_10_code
def yX4_bringBookUpToDate : MethodName := ⟨RX4, "bringBookUpToDate", "()V"⟩
abbrev cX4_findLeavesUpTo : ByteArray := prog_6_method_11_code
def yX4_findLeavesUpTo : MethodName := ⟨RX4, "findLeavesUpTo", "(I)V"⟩
def RX5 : String := "Wagonplay$Show"
def TX5 : u_T := fun k => match k with
  | 0 => ("Wagonplay$Show", "guild", "I", false)
  | 1 => ("Wagonplay$Show", "playerBits", "I", false)
  | 2 => ("Wagonplay$Show", "comes", "[I", true)
  | 3 => ("Wagonplay$Show", "begins", "[I", true)
  | 4 => ("Wagonplay$Show", "ends", "[I", true)
  | 5 => ("Wagonplay$Show", "gaps", "[I", true)
  | 6 => ("Wagonplay$Show", "said", "[I", true)
  | _ => ("Wagonplay$Show", "ways", "[C", true)
def tyX5 : Nat → FieldType := fun k => match k with
  | 0 => .int
  | 1 => .int
  | 2 => .array .int
  | 3 => .array .int
  | 4 => .array .int
  | 5 => .array .int
  | 6 => .array .int
  | _ => .array .char
abbrev wsX50 : List Cond := u_ws RX5 TX5 8
theorem nmX5 : ∀ a, a < 8 → ∀ b, b < 8 → a ≠ b → (TX5 a).2.1 ≠ (TX5 b).2.1 := by decide +kernel
theorem tyX5_ok : ∀ k, k < 8 → parseFieldDescriptor (TX5 k).2.2.1 = some (tyX5 k) := by decide +kernel
abbrev cX5_init : ByteArray := prog_7_method_1_code
def yX5_init : MethodName := ⟨RX5, "<init>", "()V"⟩
abbrev cX5_isWhole : ByteArray := prog_7_method_2_code
def yX5_isWhole : MethodName := ⟨RX5, "isWhole", "(I)Z"⟩
abbrev cX5_isLate : ByteArray := prog_7_method_3_code
def yX5_isLate : MethodName := ⟨RX5, "isLate", "(I)Z"⟩
abbrev cX5_isOnWithin : ByteArray := prog_7_method_4_code
def yX5_isOnWithin : MethodName := ⟨RX5, "isOnWithin", "(III)Z"⟩
def RX6 : String := "Wagonplay$Station"
def TX6 : u_T := fun k => match k with
  | 0 => ("Wagonplay$Station", "minutes", "I", false)
  | 1 => ("Wagonplay$Station", "hill", "I", false)
  | 2 => ("Wagonplay$Station", "corner", "I", false)
  | 3 => ("Wagonplay$Station", "torches", "Z", false)
  | 4 => ("Wagonplay$Station", "scribe", "Z", false)
  | 5 => ("Wagonplay$Station", "house", "I", false)
  | _ => ("Wagonplay$Station", "rent", "I", false)
def tyX6 : Nat → FieldType := fun k => match k with
  | 0 => .int
  | 1 => .int
  | 2 => .int
  | 3 => .boolean
  | 4 => .boolean
  | 5 => .int
  | _ => .int
abbrev wsX60 : List Cond := u_ws RX6 TX6 7
theorem nmX6 : ∀ a, a < 7 → ∀ b, b < 7 → a ≠ b → (TX6 a).2.1 ≠ (TX6 b).2.1 := by decide +kernel
theorem tyX6_ok : ∀ k, k < 7 → parseFieldDescriptor (TX6 k).2.2.1 = some (tyX6 k) := by decide +kernel
abbrev cX6_init : ByteArray := prog_8_method_1_code
def yX6_init : MethodName := ⟨RX6, "<init>", "()V"⟩
abbrev cX6_endBids : ByteArray := prog_8_method_3_code
def yX6_endBids : MethodName := ⟨RX6, "endBids", "()V"⟩
abbrev cX6_minutesOfWay : ByteArray := prog_8_method_4_code
def yX6_minutesOfWay : MethodName := ⟨RX6, "minutesOfWay", "(LWagonplay$Guild;Z)I"⟩
abbrev cX6_isTooDark : ByteArray := prog_8_method_5_code
def yX6_isTooDark : MethodName := ⟨RX6, "isTooDark", "(I)Z"⟩
abbrev cX6_endOfPlay : ByteArray := prog_8_method_6_code
def yX6_endOfPlay : MethodName := ⟨RX6, "endOfPlay", "(II)I"⟩
def RX7 : String := "Wagonplay"
def TX7 : u_T := fun k => match k with
  | 0 => ("Wagonplay", "guilds", "[LWagonplay$Guild;", true)
  | 1 => ("Wagonplay", "order", "[I", true)
  | 2 => ("Wagonplay", "ground", "LWagonplay$Ground;", true)
  | 3 => ("Wagonplay", "letters", "LWagonplay$Letters;", true)
  | 4 => ("Wagonplay", "struck", "[Z", true)
  | 5 => ("Wagonplay", "housePaid", "[I", true)
  | 6 => ("Wagonplay", "today", "LWagonplay$Plan;", true)
  | 7 => ("Wagonplay", "trial", "LWagonplay$Plan;", true)
  | 8 => ("Wagonplay", "triedOrder", "[I", true)
  | 9 => ("Wagonplay", "bestOrder", "[I", true)
  | 10 => ("Wagonplay", "bestEnd", "I", false)
  | 11 => ("Wagonplay", "guildCount", "I", false)
  | 12 => ("Wagonplay", "yearNow", "I", false)
  | 13 => ("Wagonplay", "townMoney", "I", false)
  | 14 => ("Wagonplay", "wealthBrought", "I", false)
  | _ => ("Wagonplay", "dayPlayed", "Z", false)
def tyX7 : Nat → FieldType := fun k => match k with
  | 0 => .array (.object "Wagonplay$Guild")
  | 1 => .array .int
  | 2 => .object "Wagonplay$Ground"
  | 3 => .object "Wagonplay$Letters"
  | 4 => .array .boolean
  | 5 => .array .int
  | 6 => .object "Wagonplay$Plan"
  | 7 => .object "Wagonplay$Plan"
  | 8 => .array .int
  | 9 => .array .int
  | 10 => .int
  | 11 => .int
  | 12 => .int
  | 13 => .int
  | 14 => .int
  | _ => .boolean
abbrev wsX70 : List Cond := u_ws RX7 TX7 16
theorem nmX7 : ∀ a, a < 16 → ∀ b, b < 16 → a ≠ b → (TX7 a).2.1 ≠ (TX7 b).2.1 := by decide +kernel
theorem tyX7_ok : ∀ k, k < 16 → parseFieldDescriptor (TX7 k).2.2.1 = some (tyX7 k) := by decide +kernel
abbrev cX7_init : ByteArray := prog_1_method_1_code
def yX7_init : MethodName := ⟨RX7, "<init>", "()V"⟩
abbrev cX7_addGuild : ByteArray := prog_1_method_2_code
def yX7_addGuild : MethodName := ⟨RX7, "addGuild", "(III)I"⟩
abbrev cX7_merge : ByteArray := prog_1_method_3_code
def yX7_merge : MethodName := ⟨RX7, "merge", "(II)I"⟩
abbrev cX7_isOver : ByteArray := prog_1_method_4_code
def yX7_isOver : MethodName := ⟨RX7, "isOver", "(I)Z"⟩
abbrev cX7_of : ByteArray := prog_1_method_5_code
def yX7_of : MethodName := ⟨RX7, "of", "(IC)I"⟩
abbrev cX7_type : ByteArray := prog_1_method_6_code
def yX7_type : MethodName := ⟨RX7, "type", "(C)I"⟩
abbrev cX7_wipe : ByteArray := prog_1_method_7_code
def yX7_wipe : MethodName := ⟨RX7, "wipe", "()I"⟩
abbrev cX7_subject : ByteArray := prog_1_method_8_code
def yX7_subject : MethodName := ⟨RX7, "subject", "(I)C"⟩
abbrev cX7_strike : ByteArray := prog_1_method_9_code
def yX7_strike : MethodName := ⟨RX7, "strike", "(Z)Z"⟩
abbrev cX7_learn : ByteArray := prog_1_method_10_code
def yX7_learn : MethodName := ⟨RX7, "learn", "(II)I"⟩
abbrev cX7_cast : ByteArray := prog_1_method_11_code
def yX7_cast : MethodName := ⟨RX7, "cast", "(III)I"⟩
abbrev cX7_wagon : ByteArray := prog_1_method_12_code
def yX7_wagon : MethodName := ⟨RX7, "wagon", "(III)I"⟩
abbrev cX7_mend : ByteArray := prog_1_method_13_code
def yX7_mend : MethodName := ⟨RX7, "mend", "(II)I"⟩
abbrev cX7_put : ByteArray := prog_1_method_19_code
def yX7_put : MethodName := ⟨RX7, "put", "(II)I"⟩
abbrev cX7_place : ByteArray := prog_1_method_20_code
def yX7_place : MethodName := ⟨RX7, "place", "(I)I"⟩
abbrev cX7_add : ByteArray := prog_1_method_22_code
def yX7_add : MethodName := ⟨RX7, "add", "(II)I"⟩
abbrev cX7_day : ByteArray := prog_1_method_23_code
def yX7_day : MethodName := ⟨RX7, "day", "()I"⟩
abbrev cX7_end : ByteArray := prog_1_method_26_code
def yX7_end : MethodName := ⟨RX7, "end", "()I"⟩
abbrev cX7_foresee : ByteArray := prog_1_method_27_code
def yX7_foresee : MethodName := ⟨RX7, "foresee", "()I"⟩
abbrev cX7_lose : ByteArray := prog_1_method_30_code
def yX7_lose : MethodName := ⟨RX7, "lose", "(II)Z"⟩
abbrev cX7_leaves : ByteArray := prog_1_method_31_code
def yX7_leaves : MethodName := ⟨RX7, "leaves", "(I)I"⟩
abbrev cX7_known : ByteArray := prog_1_method_32_code
def yX7_known : MethodName := ⟨RX7, "known", "(I)I"⟩
abbrev cX7_callIn : ByteArray := prog_1_method_33_code
def yX7_callIn : MethodName := ⟨RX7, "callIn", "()I"⟩
abbrev cX7_town : ByteArray := prog_1_method_34_code
def yX7_town : MethodName := ⟨RX7, "town", "()I"⟩
abbrev cX7_year : ByteArray := prog_1_method_36_code
def yX7_year : MethodName := ⟨RX7, "year", "()I"⟩
abbrev cX7_isSound : ByteArray := prog_1_method_40_code
def yX7_isSound : MethodName := ⟨RX7, "isSound", "()Z"⟩
abbrev cX7_needRange : ByteArray := prog_1_method_41_code
def yX7_needRange : MethodName := ⟨RX7, "needRange", "(III)V"⟩
abbrev cX7_needGuild : ByteArray := prog_1_method_42_code
def yX7_needGuild : MethodName := ⟨RX7, "needGuild", "(I)V"⟩
abbrev cX7_needNotOver : ByteArray := prog_1_method_43_code
def yX7_needNotOver : MethodName := ⟨RX7, "needNotOver", "(I)V"⟩
abbrev cX7_needStations : ByteArray := prog_1_method_45_code
def yX7_needStations : MethodName := ⟨RX7, "needStations", "()V"⟩
abbrev cX7_needDayPlayed : ByteArray := prog_1_method_46_code
def yX7_needDayPlayed : MethodName := ⟨RX7, "needDayPlayed", "()V"⟩
abbrev cX7_typedSubject : ByteArray := prog_1_method_48_code
def yX7_typedSubject : MethodName := ⟨RX7, "typedSubject", "()I"⟩
abbrev cX7_takesPart : ByteArray := prog_1_method_50_code
def yX7_takesPart : MethodName := ⟨RX7, "takesPart", "(I)Z"⟩
abbrev cX7_placeOf : ByteArray := prog_1_method_52_code
def yX7_placeOf : MethodName := ⟨RX7, "placeOf", "(I)I"⟩
abbrev cX7_plan : ByteArray := prog_1_method_54_code
def yX7_plan : MethodName := ⟨RX7, "plan", "(LWagonplay$Plan;[II)V"⟩
abbrev cX7_charge : ByteArray := prog_1_method_59_code
def yX7_charge : MethodName := ⟨RX7, "charge", "(LWagonplay$Guild;I)V"⟩
abbrev cX7_settle : ByteArray := prog_1_method_60_code
def yX7_settle : MethodName := ⟨RX7, "settle", "(LWagonplay$Show;)V"⟩
abbrev cX7_writeDown : ByteArray := prog_1_method_61_code
def yX7_writeDown : MethodName := ⟨RX7, "writeDown", "(LWagonplay$Show;LWagonplay$Play;)V"⟩
abbrev cX7_takeRents : ByteArray := prog_1_method_62_code
def yX7_takeRents : MethodName := ⟨RX7, "takeRents", "()V"⟩
abbrev cX7_isMoneySound : ByteArray := prog_1_method_63_code
def yX7_isMoneySound : MethodName := ⟨RX7, "isMoneySound", "()Z"⟩
abbrev cX7_isOrderSound : ByteArray := prog_1_method_64_code
def yX7_isOrderSound : MethodName := ⟨RX7, "isOrderSound", "()Z"⟩
def RX8 : String := "WagonplayModel$Day"
def TX8 : u_T := fun k => match k with
  | _ => ("", "", "", false)
def tyX8 : Nat → FieldType := fun k => match k with
  | _ => .int
abbrev wsX80 : List Cond := u_ws RX8 TX8 0
theorem nmX8 : ∀ a, a < 0 → ∀ b, b < 0 → a ≠ b → (TX8 a).2.1 ≠ (TX8 b).2.1 := by decide +kernel
theorem tyX8_ok : ∀ k, k < 0 → parseFieldDescriptor (TX8 k).2.2.1 = some (tyX8 k) := by decide +kernel
def RX9 : String := "WagonplayModel$Guild"
def TX9 : u_T := fun k => match k with
  | _ => ("", "", "", false)
def tyX9 : Nat → FieldType := fun k => match k with
  | _ => .int
abbrev wsX90 : List Cond := u_ws RX9 TX9 0
theorem nmX9 : ∀ a, a < 0 → ∀ b, b < 0 → a ≠ b → (TX9 a).2.1 ≠ (TX9 b).2.1 := by decide +kernel
theorem tyX9_ok : ∀ k, k < 0 → parseFieldDescriptor (TX9 k).2.2.1 = some (tyX9 k) := by decide +kernel
def RX10 : String := "WagonplayModel$Station"
def TX10 : u_T := fun k => match k with
  | _ => ("", "", "", false)
def tyX10 : Nat → FieldType := fun k => match k with
  | _ => .int
abbrev wsX100 : List Cond := u_ws RX10 TX10 0
theorem nmX10 : ∀ a, a < 0 → ∀ b, b < 0 → a ≠ b → (TX10 a).2.1 ≠ (TX10 b).2.1 := by decide +kernel
theorem tyX10_ok : ∀ k, k < 0 → parseFieldDescriptor (TX10 k).2.2.1 = some (tyX10 k) := by decide +kernel
def RX11 : String := "WagonplayModel"
def TX11 : u_T := fun k => match k with
  | _ => ("", "", "", false)
def tyX11 : Nat → FieldType := fun k => match k with
  | _ => .int
abbrev wsX110 : List Cond := u_ws RX11 TX11 0
theorem nmX11 : ∀ a, a < 0 → ∀ b, b < 0 → a ≠ b → (TX11 a).2.1 ≠ (TX11 b).2.1 := by decide +kernel
theorem tyX11_ok : ∀ k, k < 0 → parseFieldDescriptor (TX11 k).2.2.1 = some (tyX11 k) := by decide +kernel
def RJx145de : String := "java/io/Serializable"
def TJx145de : u_T := fun k => match k with
  | _ => ("", "", "", false)
def tyJx145de : Nat → FieldType := fun k => match k with
  | _ => .int
abbrev wsJx145de0 : List Cond := u_ws RJx145de TJx145de 0
theorem nmJx145de : ∀ a, a < 0 → ∀ b, b < 0 → a ≠ b → (TJx145de a).2.1 ≠ (TJx145de b).2.1 := by decide +kernel
theorem tyJx145de_ok : ∀ k, k < 0 → parseFieldDescriptor (TJx145de k).2.2.1 = some (tyJx145de k) := by decide +kernel
def RJx00060 : String := "java/lang/ArrayIndexOutOfBoundsException"
def TJx00060 : u_T := fun k => match k with
  | 0 => ("java/lang/Throwable", "backtrace", "Ljava/lang/Object;", false)
  | 1 => ("java/lang/Throwable", "detailMessage", "Ljava/lang/String;", false)
  | 2 => ("java/lang/Throwable", "cause", "Ljava/lang/Throwable;", false)
  | 3 => ("java/lang/Throwable", "stackTrace", "[Ljava/lang/StackTraceElement;", false)
  | 4 => ("java/lang/Throwable", "depth", "I", false)
  | _ => ("java/lang/Throwable", "suppressedExceptions", "Ljava/util/List;", false)
def tyJx00060 : Nat → FieldType := fun k => match k with
  | 0 => .object "java/lang/Object"
  | 1 => .object "java/lang/String"
  | 2 => .object "java/lang/Throwable"
  | 3 => .array (.object "java/lang/StackTraceElement")
  | 4 => .int
  | _ => .object "java/util/List"
abbrev wsJx000600 : List Cond := u_ws RJx00060 TJx00060 6
theorem nmJx00060 : ∀ a, a < 6 → ∀ b, b < 6 → a ≠ b → (TJx00060 a).2.1 ≠ (TJx00060 b).2.1 := by decide +kernel
theorem tyJx00060_ok : ∀ k, k < 6 → parseFieldDescriptor (TJx00060 k).2.2.1 = some (tyJx00060 k) := by decide +kernel
abbrev cJx00060_init_a7421 : ByteArray := prog_14_method_2_code
def yJx00060_init_a7421 : MethodName := ⟨RJx00060, "<init>", "(Ljava/lang/String;)V"⟩
def RJx9f9b0 : String := "java/lang/CharSequence"
def TJx9f9b0 : u_T := fun k => match k with
  | _ => ("", "", "", false)
def tyJx9f9b0 : Nat → FieldType := fun k => match k with
  | _ => .int
abbrev wsJx9f9b00 : List Cond := u_ws RJx9f9b0 TJx9f9b0 0
theorem nmJx9f9b0 : ∀ a, a < 0 → ∀ b, b < 0 → a ≠ b → (TJx9f9b0 a).2.1 ≠ (TJx9f9b0 b).2.1 := by decide +kernel
theorem tyJx9f9b0_ok : ∀ k, k < 0 → parseFieldDescriptor (TJx9f9b0 k).2.2.1 = some (tyJx9f9b0 k) := by decide +kernel
def RJxb160c : String := "java/lang/Comparable"
def TJxb160c : u_T := fun k => match k with
  | _ => ("", "", "", false)
def tyJxb160c : Nat → FieldType := fun k => match k with
  | _ => .int
abbrev wsJxb160c0 : List Cond := u_ws RJxb160c TJxb160c 0
theorem nmJxb160c : ∀ a, a < 0 → ∀ b, b < 0 → a ≠ b → (TJxb160c a).2.1 ≠ (TJxb160c b).2.1 := by decide +kernel
theorem tyJxb160c_ok : ∀ k, k < 0 → parseFieldDescriptor (TJxb160c k).2.2.1 = some (tyJxb160c k) := by decide +kernel
def RJ9 : String := "java/lang/Math"
def TJ9 : u_T := fun k => match k with
  | _ => ("", "", "", false)
def tyJ9 : Nat → FieldType := fun k => match k with
  | _ => .int
abbrev wsJ90 : List Cond := u_ws RJ9 TJ9 0
theorem nmJ9 : ∀ a, a < 0 → ∀ b, b < 0 → a ≠ b → (TJ9 a).2.1 ≠ (TJ9 b).2.1 := by decide +kernel
theorem tyJ9_ok : ∀ k, k < 0 → parseFieldDescriptor (TJ9 k).2.2.1 = some (tyJ9 k) := by decide +kernel
abbrev cJ9_floorDiv_7cf53 : ByteArray := prog_19_method_47_code
def yJ9_floorDiv_7cf53 : MethodName := ⟨RJ9, "floorDiv", "(II)I"⟩
abbrev cJ9_floorMod_7cf53 : ByteArray := prog_19_method_50_code
def yJ9_floorMod_7cf53 : MethodName := ⟨RJ9, "floorMod", "(II)I"⟩
abbrev cJ9_max_7cf53 : ByteArray := prog_19_method_65_code
def yJ9_max_7cf53 : MethodName := ⟨RJ9, "max", "(II)I"⟩
abbrev cJ9_min_7cf53 : ByteArray := prog_19_method_69_code
def yJ9_min_7cf53 : MethodName := ⟨RJ9, "min", "(II)I"⟩
def RJ0 : String := "java/lang/String"
def TJ0 : u_T := fun k => match k with
  | 0 => ("java/lang/String", "value", "[B", true)
  | _ => ("java/lang/String", "coder", "B", true)
def tyJ0 : Nat → FieldType := fun k => match k with
  | 0 => .array .byte
  | _ => .byte
abbrev wsJ00 : List Cond := u_ws RJ0 TJ0 2
theorem nmJ0 : ∀ a, a < 2 → ∀ b, b < 2 → a ≠ b → (TJ0 a).2.1 ≠ (TJ0 b).2.1 := by decide +kernel
theorem tyJ0_ok : ∀ k, k < 2 → parseFieldDescriptor (TJ0 k).2.2.1 = some (tyJ0 k) := by decide +kernel
abbrev cJ0_length_8abf5 : ByteArray := prog_21_method_54_code
def yJ0_length_8abf5 : MethodName := ⟨RJ0, "length", "()I"⟩
abbrev cJ0_charAt_5068e : ByteArray := prog_21_method_56_code
def yJ0_charAt_5068e : MethodName := ⟨RJ0, "charAt", "(I)C"⟩
abbrev cJ0_coder_7d493 : ByteArray := prog_21_method_152_code
def yJ0_coder_7d493 : MethodName := ⟨RJ0, "coder", "()B"⟩
abbrev cJ0_isLatin1_aae02 : ByteArray := prog_21_method_154_code
def yJ0_isLatin1_aae02 : MethodName := ⟨RJ0, "isLatin1", "()Z"⟩
abbrev cJ0_checkIndex_df160 : ByteArray := prog_21_method_155_code
def yJ0_checkIndex_df160 : MethodName := ⟨RJ0, "checkIndex", "(II)V"⟩
def RJ1 : String := "java/lang/StringLatin1"
def TJ1 : u_T := fun k => match k with
  | _ => ("", "", "", false)
def tyJ1 : Nat → FieldType := fun k => match k with
  | _ => .int
abbrev wsJ10 : List Cond := u_ws RJ1 TJ1 0
theorem nmJ1 : ∀ a, a < 0 → ∀ b, b < 0 → a ≠ b → (TJ1 a).2.1 ≠ (TJ1 b).2.1 := by decide +kernel
theorem tyJ1_ok : ∀ k, k < 0 → parseFieldDescriptor (TJ1 k).2.2.1 = some (tyJ1 k) := by decide +kernel
abbrev cJ1_charAt_3b067 : ByteArray := prog_22_method_2_code
def yJ1_charAt_3b067 : MethodName := ⟨RJ1, "charAt", "([BI)C"⟩
def RJ2 : String := "java/lang/StringUTF16"
def TJ2 : u_T := fun k => match k with
  | _ => ("", "", "", false)
def tyJ2 : Nat → FieldType := fun k => match k with
  | _ => .int
abbrev wsJ20 : List Cond := u_ws RJ2 TJ2 0
theorem nmJ2 : ∀ a, a < 0 → ∀ b, b < 0 → a ≠ b → (TJ2 a).2.1 ≠ (TJ2 b).2.1 := by decide +kernel
theorem tyJ2_ok : ∀ k, k < 0 → parseFieldDescriptor (TJ2 k).2.2.1 = some (tyJ2 k) := by decide +kernel
abbrev cJ2_getChar_3b067 : ByteArray := prog_23_method_5_code
def yJ2_getChar_3b067 : MethodName := ⟨RJ2, "getChar", "([BI)C"⟩
abbrev cJ2_length_9d52b : ByteArray := prog_23_method_6_code
def yJ2_length_9d52b : MethodName := ⟨RJ2, "length", "([B)I"⟩
abbrev cJ2_charAt_3b067 : ByteArray := prog_23_method_83_code
def yJ2_charAt_3b067 : MethodName := ⟨RJ2, "charAt", "([BI)C"⟩
abbrev cJ2_checkIndex_2214a : ByteArray := prog_23_method_91_code
def yJ2_checkIndex_2214a : MethodName := ⟨RJ2, "checkIndex", "(I[B)V"⟩
def RJxfd54e : String := "java/lang/constant/Constable"
def TJxfd54e : u_T := fun k => match k with
  | _ => ("", "", "", false)
def tyJxfd54e : Nat → FieldType := fun k => match k with
  | _ => .int
abbrev wsJxfd54e0 : List Cond := u_ws RJxfd54e TJxfd54e 0
theorem nmJxfd54e : ∀ a, a < 0 → ∀ b, b < 0 → a ≠ b → (TJxfd54e a).2.1 ≠ (TJxfd54e b).2.1 := by decide +kernel
theorem tyJxfd54e_ok : ∀ k, k < 0 → parseFieldDescriptor (TJxfd54e k).2.2.1 = some (tyJxfd54e k) := by decide +kernel
def RJx3cf43 : String := "java/lang/constant/ConstantDesc"
def TJx3cf43 : u_T := fun k => match k with
  | _ => ("", "", "", false)
def tyJx3cf43 : Nat → FieldType := fun k => match k with
  | _ => .int
abbrev wsJx3cf430 : List Cond := u_ws RJx3cf43 TJx3cf43 0
theorem nmJx3cf43 : ∀ a, a < 0 → ∀ b, b < 0 → a ≠ b → (TJx3cf43 a).2.1 ≠ (TJx3cf43 b).2.1 := by decide +kernel
theorem tyJx3cf43_ok : ∀ k, k < 0 → parseFieldDescriptor (TJx3cf43 k).2.2.1 = some (tyJx3cf43 k) := by decide +kernel
def RJ3 : String := "jdk/internal/util/Preconditions"
def TJ3 : u_T := fun k => match k with
  | _ => ("", "", "", false)
def tyJ3 : Nat → FieldType := fun k => match k with
  | _ => .int
abbrev wsJ30 : List Cond := u_ws RJ3 TJ3 0
theorem nmJ3 : ∀ a, a < 0 → ∀ b, b < 0 → a ≠ b → (TJ3 a).2.1 ≠ (TJ3 b).2.1 := by decide +kernel
theorem tyJ3_ok : ∀ k, k < 0 → parseFieldDescriptor (TJ3 k).2.2.1 = some (tyJ3 k) := by decide +kernel
abbrev cJ3_checkIndex_8e157 : ByteArray := prog_26_method_11_code
def yJ3_checkIndex_8e157 : MethodName := ⟨RJ3, "checkIndex", "(IILjava/util/function/BiFunction;)I"⟩
def RL : String := "WagonplayLaw"
abbrev cL_cell : ByteArray := method_2_code
def yL_cell : MethodName := ⟨RL, "cell", "([II)I"⟩
abbrev cL_addGuild : ByteArray := method_3_code
def yL_addGuild : MethodName := ⟨RL, "addGuild", "(LWagonplay;III)I"⟩
abbrev cL_merge : ByteArray := method_4_code
def yL_merge : MethodName := ⟨RL, "merge", "(LWagonplay;II)I"⟩
abbrev cL_of : ByteArray := method_5_code
def yL_of : MethodName := ⟨RL, "of", "(LWagonplay;IC)I"⟩
abbrev cL_type : ByteArray := method_6_code
def yL_type : MethodName := ⟨RL, "type", "(LWagonplay;C)I"⟩
abbrev cL_subject : ByteArray := method_7_code
def yL_subject : MethodName := ⟨RL, "subject", "(LWagonplay;I)I"⟩
abbrev cL_learn : ByteArray := method_8_code
def yL_learn : MethodName := ⟨RL, "learn", "(LWagonplay;II)I"⟩
abbrev cL_cast : ByteArray := method_9_code
def yL_cast : MethodName := ⟨RL, "cast", "(LWagonplay;III)I"⟩
abbrev cL_wagon : ByteArray := method_10_code
def yL_wagon : MethodName := ⟨RL, "wagon", "(LWagonplay;III)I"⟩
abbrev cL_mend : ByteArray := method_11_code
def yL_mend : MethodName := ⟨RL, "mend", "(LWagonplay;II)I"⟩
abbrev cL_put : ByteArray := method_12_code
def yL_put : MethodName := ⟨RL, "put", "(LWagonplay;II)I"⟩
abbrev cL_place : ByteArray := method_13_code
def yL_place : MethodName := ⟨RL, "place", "(LWagonplay;I)I"⟩
abbrev cL_add : ByteArray := method_14_code
def yL_add : MethodName := ⟨RL, "add", "(LWagonplay;II)I"⟩
abbrev cL_day : ByteArray := method_15_code
def yL_day : MethodName := ⟨RL, "day", "(LWagonplay;)I"⟩
abbrev cL_end : ByteArray := method_16_code
def yL_end : MethodName := ⟨RL, "end", "(LWagonplay;)I"⟩
abbrev cL_foresee : ByteArray := method_17_code
def yL_foresee : MethodName := ⟨RL, "foresee", "(LWagonplay;)I"⟩
abbrev cL_leaves : ByteArray := method_18_code
def yL_leaves : MethodName := ⟨RL, "leaves", "(LWagonplay;I)I"⟩
abbrev cL_known : ByteArray := method_19_code
def yL_known : MethodName := ⟨RL, "known", "(LWagonplay;I)I"⟩
abbrev cL_year : ByteArray := method_20_code
def yL_year : MethodName := ⟨RL, "year", "(LWagonplay;)I"⟩
abbrev cL_isOver : ByteArray := method_21_code
def yL_isOver : MethodName := ⟨RL, "isOver", "(LWagonplay;I)I"⟩
abbrev cL_strike : ByteArray := method_22_code
def yL_strike : MethodName := ⟨RL, "strike", "(LWagonplay;Z)I"⟩
abbrev cL_lose : ByteArray := method_23_code
def yL_lose : MethodName := ⟨RL, "lose", "(LWagonplay;II)I"⟩
abbrev cL_in : ByteArray := method_24_code
def yL_in : MethodName := ⟨RL, "in", "([III)I"⟩
abbrev cL_types : ByteArray := method_25_code
def yL_types : MethodName := ⟨RL, "types", "(LWagonplay;Ljava/lang/String;)Z"⟩
abbrev cL_word : ByteArray := method_26_code
def yL_word : MethodName := ⟨RL, "word", "(I)Ljava/lang/String;"⟩
abbrev cL_law : ByteArray := code
def yL_law : MethodName := ⟨RL, "law", "([I)Z"⟩
abbrev vwCl : List vw_C := [(RJ0, TJ0, 2), (RJx00060, TJx00060, 6), (RX0, TX0, 3), (RX1, TX1, 7), (RX2, TX2, 2), (RX3, TX3, 3), (RX4, TX4, 7), (RX5, TX5, 8), (RX6, TX6, 7), (RX7, TX7, 16)]
