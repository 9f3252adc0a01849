def RX0 : String := "StudioAirtime$Airing"
def TX0 : u_T := fun k => match k with
  | 0 => ("StudioAirtime$Airing", "starts", "[I", true)
  | 1 => ("StudioAirtime$Airing", "minutes", "[I", true)
  | 2 => ("StudioAirtime$Airing", "delays", "[I", true)
  | 3 => ("StudioAirtime$Airing", "cuts", "[Z", true)
  | _ => ("StudioAirtime$Airing", "clocks", "[I", true)
def tyX0 : Nat → FieldType := fun k => match k with
  | 0 => .array .int
  | 1 => .array .int
  | 2 => .array .int
  | 3 => .array .boolean
  | _ => .array .int
abbrev wsX00 : List Cond := u_ws RX0 TX0 5
theorem nmX0 : ∀ a, a < 5 → ∀ b, b < 5 → a ≠ b → (TX0 a).2.1 ≠ (TX0 b).2.1 := by decide +kernel
theorem tyX0_ok : ∀ k, k < 5 → parseFieldDescriptor (TX0 k).2.2.1 = some (tyX0 k) := by decide +kernel
abbrev cX0_init : ByteArray := prog_2_method_1_code
def yX0_init : MethodName := ⟨RX0, "<init>", "()V"⟩
abbrev cX0_play : ByteArray := prog_2_method_2_code
def yX0_play : MethodName := ⟨RX0, "play", "(LStudioAirtime$Plan;)V"⟩
abbrev cX0_playWith : ByteArray := prog_2_method_3_code
def yX0_playWith : MethodName := ⟨RX0, "playWith", "(LStudioAirtime$Plan;II)V"⟩
abbrev cX0_playShow : ByteArray := prog_2_method_4_code
def yX0_playShow : MethodName := ⟨RX0, "playShow", "(LStudioAirtime$Plan;II)V"⟩
abbrev cX0_isDropped : ByteArray := prog_2_method_5_code
def yX0_isDropped : MethodName := ⟨RX0, "isDropped", "(I)Z"⟩
abbrev cX0_isDelayed : ByteArray := prog_2_method_6_code
def yX0_isDelayed : MethodName := ⟨RX0, "isDelayed", "(I)Z"⟩
abbrev cX0_fate : ByteArray := prog_2_method_7_code
def yX0_fate : MethodName := ⟨RX0, "fate", "(I)I"⟩
abbrev cX0_worthOfGroup : ByteArray := prog_2_method_8_code
def yX0_worthOfGroup : MethodName := ⟨RX0, "worthOfGroup", "(LStudioAirtime$Plan;I)I"⟩
abbrev cX0_sponsorsInHour : ByteArray := prog_2_method_9_code
def yX0_sponsorsInHour : MethodName := ⟨RX0, "sponsorsInHour", "(LStudioAirtime$Plan;II)I"⟩
abbrev cX0_dayProperty : ByteArray := prog_2_method_10_code
def yX0_dayProperty : MethodName := ⟨RX0, "dayProperty", "(LStudioAirtime$Plan;II)I"⟩
abbrev cX0_minutesOfWeek : ByteArray := prog_2_method_11_code
def yX0_minutesOfWeek : MethodName := ⟨RX0, "minutesOfWeek", "(LStudioAirtime$Plan;)I"⟩
abbrev cX0_delayedShows : ByteArray := prog_2_method_12_code
def yX0_delayedShows : MethodName := ⟨RX0, "delayedShows", "(LStudioAirtime$Plan;)I"⟩
abbrev cX0_droppedShows : ByteArray := prog_2_method_13_code
def yX0_droppedShows : MethodName := ⟨RX0, "droppedShows", "(LStudioAirtime$Plan;)I"⟩
abbrev cX0_sumOverWeek : ByteArray := prog_2_method_14_code
def yX0_sumOverWeek : MethodName := ⟨RX0, "sumOverWeek", "(LStudioAirtime$Plan;I)I"⟩
abbrev cX0_partOfDay : ByteArray := prog_2_method_15_code
def yX0_partOfDay : MethodName := ⟨RX0, "partOfDay", "(LStudioAirtime$Plan;II)I"⟩
abbrev cX0_hoursAboveLimit : ByteArray := prog_2_method_16_code
def yX0_hoursAboveLimit : MethodName := ⟨RX0, "hoursAboveLimit", "(LStudioAirtime$Plan;I)I"⟩
def RX1 : String := "StudioAirtime$Hash"
def TX1 : u_T := fun k => match k with
  | _ => ("", "", "", false)
def tyX1 : Nat → FieldType := fun k => match k with
  | _ => .int
abbrev wsX10 : List Cond := u_ws RX1 TX1 0
theorem nmX1 : ∀ a, a < 0 → ∀ b, b < 0 → a ≠ b → (TX1 a).2.1 ≠ (TX1 b).2.1 := by decide +kernel
theorem tyX1_ok : ∀ k, k < 0 → parseFieldDescriptor (TX1 k).2.2.1 = some (tyX1 k) := by decide +kernel
def RX2 : String := "StudioAirtime$History"
def TX2 : u_T := fun k => match k with
  | 0 => ("StudioAirtime$History", "plans", "[LStudioAirtime$Plan;", true)
  | 1 => ("StudioAirtime$History", "oldest", "I", false)
  | _ => ("StudioAirtime$History", "size", "I", false)
def tyX2 : Nat → FieldType := fun k => match k with
  | 0 => .array (.object "StudioAirtime$Plan")
  | 1 => .int
  | _ => .int
abbrev wsX20 : List Cond := u_ws RX2 TX2 3
theorem nmX2 : ∀ a, a < 3 → ∀ b, b < 3 → a ≠ b → (TX2 a).2.1 ≠ (TX2 b).2.1 := by decide +kernel
theorem tyX2_ok : ∀ k, k < 3 → parseFieldDescriptor (TX2 k).2.2.1 = some (tyX2 k) := by decide +kernel
abbrev cX2_init : ByteArray := prog_4_method_1_code
def yX2_init : MethodName := ⟨RX2, "<init>", "()V"⟩
abbrev cX2_save : ByteArray := prog_4_method_2_code
def yX2_save : MethodName := ⟨RX2, "save", "(LStudioAirtime$Plan;)V"⟩
abbrev cX2_restore : ByteArray := prog_4_method_3_code
def yX2_restore : MethodName := ⟨RX2, "restore", "(LStudioAirtime$Plan;)V"⟩
def RX3 : String := "StudioAirtime$Plan"
def TX3 : u_T := fun k => match k with
  | 0 => ("StudioAirtime$Plan", "settings", "[I", true)
  | 1 => ("StudioAirtime$Plan", "quotas", "[I", true)
  | 2 => ("StudioAirtime$Plan", "carried", "[I", true)
  | 3 => ("StudioAirtime$Plan", "closedQuotas", "[I", true)
  | 4 => ("StudioAirtime$Plan", "closedMinutes", "[I", true)
  | 5 => ("StudioAirtime$Plan", "lost", "[I", true)
  | 6 => ("StudioAirtime$Plan", "week", "I", false)
  | 7 => ("StudioAirtime$Plan", "size", "I", false)
  | 8 => ("StudioAirtime$Plan", "kinds", "[I", true)
  | 9 => ("StudioAirtime$Plan", "groups", "[I", true)
  | 10 => ("StudioAirtime$Plan", "days", "[I", true)
  | 11 => ("StudioAirtime$Plan", "starts", "[I", true)
  | 12 => ("StudioAirtime$Plan", "lengths", "[I", true)
  | 13 => ("StudioAirtime$Plan", "sponsors", "[I", true)
  | 14 => ("StudioAirtime$Plan", "overruns", "[I", true)
  | _ => ("StudioAirtime$Plan", "originals", "[I", true)
def tyX3 : Nat → FieldType := fun k => match k with
  | 0 => .array .int
  | 1 => .array .int
  | 2 => .array .int
  | 3 => .array .int
  | 4 => .array .int
  | 5 => .array .int
  | 6 => .int
  | 7 => .int
  | 8 => .array .int
  | 9 => .array .int
  | 10 => .array .int
  | 11 => .array .int
  | 12 => .array .int
  | 13 => .array .int
  | 14 => .array .int
  | _ => .array .int
abbrev wsX30 : List Cond := u_ws RX3 TX3 16
theorem nmX3 : ∀ a, a < 16 → ∀ b, b < 16 → a ≠ b → (TX3 a).2.1 ≠ (TX3 b).2.1 := by decide +kernel
theorem tyX3_ok : ∀ k, k < 16 → parseFieldDescriptor (TX3 k).2.2.1 = some (tyX3 k) := by decide +kernel
abbrev cX3_init : ByteArray := prog_5_method_1_code
def yX3_init : MethodName := ⟨RX3, "<init>", "()V"⟩
abbrev cX3_copyFrom : ByteArray := prog_5_method_2_code
def yX3_copyFrom : MethodName := ⟨RX3, "copyFrom", "(LStudioAirtime$Plan;)V"⟩
abbrev cX3_hasShow : ByteArray := prog_5_method_3_code
def yX3_hasShow : MethodName := ⟨RX3, "hasShow", "(I)Z"⟩
abbrev cX3_allowance : ByteArray := prog_5_method_4_code
def yX3_allowance : MethodName := ⟨RX3, "allowance", "(I)I"⟩
abbrev cX3_worth : ByteArray := prog_5_method_5_code
def yX3_worth : MethodName := ⟨RX3, "worth", "(II)I"⟩
abbrev cX3_worthOfLengths : ByteArray := prog_5_method_6_code
def yX3_worthOfLengths : MethodName := ⟨RX3, "worthOfLengths", "(I)I"⟩
abbrev cX3_showsOfGroup : ByteArray := prog_5_method_7_code
def yX3_showsOfGroup : MethodName := ⟨RX3, "showsOfGroup", "(I)I"⟩
abbrev cX3_showsOfKind : ByteArray := prog_5_method_8_code
def yX3_showsOfKind : MethodName := ⟨RX3, "showsOfKind", "(I)I"⟩
abbrev cX3_plannedSponsors : ByteArray := prog_5_method_9_code
def yX3_plannedSponsors : MethodName := ⟨RX3, "plannedSponsors", "(II)I"⟩
abbrev cX3_patience : ByteArray := prog_5_method_10_code
def yX3_patience : MethodName := ⟨RX3, "patience", "(I)I"⟩
abbrev cX3_inheritFromOriginal : ByteArray := prog_5_method_11_code
def yX3_inheritFromOriginal : MethodName := ⟨RX3, "inheritFromOriginal", "(LStudioAirtime$Proposal;)Z"⟩
abbrev cX3_refusal : ByteArray := prog_5_method_12_code
def yX3_refusal : MethodName := ⟨RX3, "refusal", "(LStudioAirtime$Proposal;)I"⟩
abbrev cX3_showInTheWay : ByteArray := prog_5_method_13_code
def yX3_showInTheWay : MethodName := ⟨RX3, "showInTheWay", "(III)I"⟩
abbrev cX3_earliestRepeat : ByteArray := prog_5_method_14_code
def yX3_earliestRepeat : MethodName := ⟨RX3, "earliestRepeat", "(I)I"⟩
abbrev cX3_exceedsAllowance : ByteArray := prog_5_method_15_code
def yX3_exceedsAllowance : MethodName := ⟨RX3, "exceedsAllowance", "(II)Z"⟩
abbrev cX3_exceedsSponsorLimit : ByteArray := prog_5_method_16_code
def yX3_exceedsSponsorLimit : MethodName := ⟨RX3, "exceedsSponsorLimit", "(III)Z"⟩
abbrev cX3_firstTapeTime : ByteArray := prog_5_method_17_code
def yX3_firstTapeTime : MethodName := ⟨RX3, "firstTapeTime", "(III)I"⟩
abbrev cX3_firstRepeatTime : ByteArray := prog_5_method_18_code
def yX3_firstRepeatTime : MethodName := ⟨RX3, "firstRepeatTime", "(I)I"⟩
abbrev cX3_firstFreeStart : ByteArray := prog_5_method_19_code
def yX3_firstFreeStart : MethodName := ⟨RX3, "firstFreeStart", "(III)I"⟩
abbrev cX3_nextTimeStep : ByteArray := prog_5_method_20_code
def yX3_nextTimeStep : MethodName := ⟨RX3, "nextTimeStep", "(I)I"⟩
abbrev cX3_insert : ByteArray := prog_5_method_21_code
def yX3_insert : MethodName := ⟨RX3, "insert", "(LStudioAirtime$Proposal;)I"⟩
abbrev cX3_numberFor : ByteArray := prog_5_method_22_code
def yX3_numberFor : MethodName := ⟨RX3, "numberFor", "(II)I"⟩
abbrev cX3_takeOutWithRepeats : ByteArray := prog_5_method_23_code
def yX3_takeOutWithRepeats : MethodName := ⟨RX3, "takeOutWithRepeats", "(I)I"⟩
abbrev cX3_takeOut : ByteArray := prog_5_method_24_code
def yX3_takeOut : MethodName := ⟨RX3, "takeOut", "(I)V"⟩
abbrev cX3_moveShow : ByteArray := prog_5_method_25_code
def yX3_moveShow : MethodName := ⟨RX3, "moveShow", "(II)V"⟩
abbrev cX3_closeGroup : ByteArray := prog_5_method_26_code
def yX3_closeGroup : MethodName := ⟨RX3, "closeGroup", "(II)V"⟩
abbrev cX3_beginNextWeek : ByteArray := prog_5_method_27_code
def yX3_beginNextWeek : MethodName := ⟨RX3, "beginNextWeek", "()V"⟩
def RX4 : String := "StudioAirtime$Proposal"
def TX4 : u_T := fun k => match k with
  | 0 => ("StudioAirtime$Proposal", "kind", "I", false)
  | 1 => ("StudioAirtime$Proposal", "group", "I", false)
  | 2 => ("StudioAirtime$Proposal", "day", "I", false)
  | 3 => ("StudioAirtime$Proposal", "start", "I", false)
  | 4 => ("StudioAirtime$Proposal", "length", "I", false)
  | 5 => ("StudioAirtime$Proposal", "sponsors", "I", false)
  | _ => ("StudioAirtime$Proposal", "original", "I", false)
def tyX4 : Nat → FieldType := fun k => match k with
  | 0 => .int
  | 1 => .int
  | 2 => .int
  | 3 => .int
  | 4 => .int
  | 5 => .int
  | _ => .int
abbrev wsX40 : List Cond := u_ws RX4 TX4 7
theorem nmX4 : ∀ a, a < 7 → ∀ b, b < 7 → a ≠ b → (TX4 a).2.1 ≠ (TX4 b).2.1 := by decide +kernel
theorem tyX4_ok : ∀ k, k < 7 → parseFieldDescriptor (TX4 k).2.2.1 = some (tyX4 k) := by decide +kernel
abbrev cX4_init : ByteArray := prog_6_method_1_code
def yX4_init : MethodName := ⟨RX4, "<init>", "()V"⟩
abbrev cX4_become : ByteArray := prog_6_method_2_code
def yX4_become : MethodName := ⟨RX4, "become", "(IIIIII)V"⟩
abbrev cX4_becomeRepeat : ByteArray := prog_6_method_3_code
def yX4_becomeRepeat : MethodName := ⟨RX4, "becomeRepeat", "(III)V"⟩
abbrev cX4_isInRange : ByteArray := prog_6_method_4_code
def yX4_isInRange : MethodName := ⟨RX4, "isInRange", "()Z"⟩
def RX5 : String := "StudioAirtime$Text"
def TX5 : u_T := fun k => match k with
  | 0 => ("StudioAirtime$Text", "signs", "[I", true)
  | 1 => ("StudioAirtime$Text", "length", "I", false)
  | 2 => ("StudioAirtime$Text", "at", "I", false)
  | _ => ("StudioAirtime$Text", "number", "I", false)
def tyX5 : Nat → FieldType := fun k => match k with
  | 0 => .array .int
  | 1 => .int
  | 2 => .int
  | _ => .int
abbrev wsX50 : List Cond := u_ws RX5 TX5 4
theorem nmX5 : ∀ a, a < 4 → ∀ b, b < 4 → a ≠ b → (TX5 a).2.1 ≠ (TX5 b).2.1 := by decide +kernel
theorem tyX5_ok : ∀ k, k < 4 → parseFieldDescriptor (TX5 k).2.2.1 = some (tyX5 k) := by decide +kernel
abbrev cX5_init : ByteArray := prog_7_method_1_code
def yX5_init : MethodName := ⟨RX5, "<init>", "()V"⟩
def RX6 : String := "StudioAirtime"
def TX6 : u_T := fun k => match k with
  | 0 => ("StudioAirtime", "now", "LStudioAirtime$Plan;", true)
  | 1 => ("StudioAirtime", "history", "LStudioAirtime$History;", true)
  | 2 => ("StudioAirtime", "text", "LStudioAirtime$Text;", true)
  | 3 => ("StudioAirtime", "proposal", "LStudioAirtime$Proposal;", true)
  | 4 => ("StudioAirtime", "air", "LStudioAirtime$Airing;", true)
  | 5 => ("StudioAirtime", "trial", "LStudioAirtime$Airing;", true)
  | _ => ("StudioAirtime", "latestReason", "I", false)
def tyX6 : Nat → FieldType := fun k => match k with
  | 0 => .object "StudioAirtime$Plan"
  | 1 => .object "StudioAirtime$History"
  | 2 => .object "StudioAirtime$Text"
  | 3 => .object "StudioAirtime$Proposal"
  | 4 => .object "StudioAirtime$Airing"
  | 5 => .object "StudioAirtime$Airing"
  | _ => .int
abbrev wsX60 : List Cond := u_ws RX6 TX6 7
theorem nmX6 : ∀ a, a < 7 → ∀ b, b < 7 → a ≠ b → (TX6 a).2.1 ≠ (TX6 b).2.1 := by decide +kernel
theorem tyX6_ok : ∀ k, k < 7 → parseFieldDescriptor (TX6 k).2.2.1 = some (tyX6 k) := by decide +kernel
abbrev cX6_init : ByteArray := prog_1_method_1_code
def yX6_init : MethodName := ⟨RX6, "<init>", "()V"⟩
abbrev cX6_set : ByteArray := prog_1_method_2_code
def yX6_set : MethodName := ⟨RX6, "set", "(II)I"⟩
abbrev cX6_setQuota : ByteArray := prog_1_method_3_code
def yX6_setQuota : MethodName := ⟨RX6, "setQuota", "(II)I"⟩
abbrev cX6_add : ByteArray := prog_1_method_4_code
def yX6_add : MethodName := ⟨RX6, "add", "(ZIIIII)I"⟩
abbrev cX6_repeat : ByteArray := prog_1_method_5_code
def yX6_repeat : MethodName := ⟨RX6, "repeat", "(III)I"⟩
abbrev cX6_remove : ByteArray := prog_1_method_6_code
def yX6_remove : MethodName := ⟨RX6, "remove", "(I)I"⟩
abbrev cX6_overrun : ByteArray := prog_1_method_7_code
def yX6_overrun : MethodName := ⟨RX6, "overrun", "(II)I"⟩
abbrev cX6_closeWeek : ByteArray := prog_1_method_8_code
def yX6_closeWeek : MethodName := ⟨RX6, "closeWeek", "()I"⟩
abbrev cX6_undo : ByteArray := prog_1_method_13_code
def yX6_undo : MethodName := ⟨RX6, "undo", "()I"⟩
abbrev cX6_reason : ByteArray := prog_1_method_14_code
def yX6_reason : MethodName := ⟨RX6, "reason", "()I"⟩
abbrev cX6_show : ByteArray := prog_1_method_15_code
def yX6_show : MethodName := ⟨RX6, "show", "(II)I"⟩
abbrev cX6_group : ByteArray := prog_1_method_16_code
def yX6_group : MethodName := ⟨RX6, "group", "(II)I"⟩
abbrev cX6_sponsors : ByteArray := prog_1_method_17_code
def yX6_sponsors : MethodName := ⟨RX6, "sponsors", "(IIZ)I"⟩
abbrev cX6_day : ByteArray := prog_1_method_18_code
def yX6_day : MethodName := ⟨RX6, "day", "(II)I"⟩
abbrev cX6_count : ByteArray := prog_1_method_19_code
def yX6_count : MethodName := ⟨RX6, "count", "(I)I"⟩
abbrev cX6_setting : ByteArray := prog_1_method_20_code
def yX6_setting : MethodName := ⟨RX6, "setting", "(I)I"⟩
abbrev cX6_why : ByteArray := prog_1_method_21_code
def yX6_why : MethodName := ⟨RX6, "why", "(IIII)I"⟩
abbrev cX6_firstTime : ByteArray := prog_1_method_22_code
def yX6_firstTime : MethodName := ⟨RX6, "firstTime", "(III)I"⟩
abbrev cX6_firstRepeat : ByteArray := prog_1_method_23_code
def yX6_firstRepeat : MethodName := ⟨RX6, "firstRepeat", "(I)I"⟩
abbrev cX6_ifOverrun : ByteArray := prog_1_method_24_code
def yX6_ifOverrun : MethodName := ⟨RX6, "ifOverrun", "(III)I"⟩
abbrev cX6_greatestOverrun : ByteArray := prog_1_method_25_code
def yX6_greatestOverrun : MethodName := ⟨RX6, "greatestOverrun", "(I)I"⟩
abbrev cX6_share : ByteArray := prog_1_method_26_code
def yX6_share : MethodName := ⟨RX6, "share", "()D"⟩
abbrev cX6_isWithin : ByteArray := prog_1_method_28_code
def yX6_isWithin : MethodName := ⟨RX6, "isWithin", "(III)Z"⟩
abbrev cX6_minutesInHour : ByteArray := prog_1_method_29_code
def yX6_minutesInHour : MethodName := ⟨RX6, "minutesInHour", "(III)I"⟩
abbrev cX6_enterProposal : ByteArray := prog_1_method_30_code
def yX6_enterProposal : MethodName := ⟨RX6, "enterProposal", "()I"⟩
abbrev cX6_showProperty : ByteArray := prog_1_method_32_code
def yX6_showProperty : MethodName := ⟨RX6, "showProperty", "(II)I"⟩
abbrev cX6_groupProperty : ByteArray := prog_1_method_33_code
def yX6_groupProperty : MethodName := ⟨RX6, "groupProperty", "(II)I"⟩
abbrev cX6_countOf : ByteArray := prog_1_method_34_code
def yX6_countOf : MethodName := ⟨RX6, "countOf", "(I)I"⟩
abbrev cX6_greatestHarmlessOverrun : ByteArray := prog_1_method_35_code
def yX6_greatestHarmlessOverrun : MethodName := ⟨RX6, "greatestHarmlessOverrun", "(I)I"⟩
abbrev cX6_isHarmless : ByteArray := prog_1_method_36_code
def yX6_isHarmless : MethodName := ⟨RX6, "isHarmless", "(II)Z"⟩
abbrev cX6_shareOnAir : ByteArray := prog_1_method_37_code
def yX6_shareOnAir : MethodName := ⟨RX6, "shareOnAir", "()D"⟩
def RX7 : String := "StudioAirtimeModel"
def TX7 : u_T := fun k => match k with
  | _ => ("", "", "", false)
def tyX7 : Nat → FieldType := fun k => match k with
  | _ => .int
abbrev wsX70 : List Cond := u_ws RX7 TX7 0
theorem nmX7 : ∀ a, a < 0 → ∀ b, b < 0 → a ≠ b → (TX7 a).2.1 ≠ (TX7 b).2.1 := by decide +kernel
theorem tyX7_ok : ∀ k, k < 0 → parseFieldDescriptor (TX7 k).2.2.1 = some (tyX7 k) := by decide +kernel
def RJ9 : String := "java/lang/Math"
def TJ9 : u_T := fun k => match k with
  | _ => ("", "", "", false)
def tyJ9 : Nat → FieldType := fun k => match k with
  | _ => .int
abbrev wsJ90 : List Cond := u_ws RJ9 TJ9 0
theorem nmJ9 : ∀ a, a < 0 → ∀ b, b < 0 → a ≠ b → (TJ9 a).2.1 ≠ (TJ9 b).2.1 := by decide +kernel
theorem tyJ9_ok : ∀ k, k < 0 → parseFieldDescriptor (TJ9 k).2.2.1 = some (tyJ9 k) := by decide +kernel
abbrev cJ9_max_7cf53 : ByteArray := prog_14_method_65_code
def yJ9_max_7cf53 : MethodName := ⟨RJ9, "max", "(II)I"⟩
abbrev cJ9_min_7cf53 : ByteArray := prog_14_method_69_code
def yJ9_min_7cf53 : MethodName := ⟨RJ9, "min", "(II)I"⟩
def RJ0 : String := "java/lang/String"
def TJ0 : u_T := fun k => match k with
  | _ => ("", "", "", false)
def tyJ0 : Nat → FieldType := fun k => match k with
  | _ => .int
abbrev wsJ00 : List Cond := u_ws RJ0 TJ0 0
theorem nmJ0 : ∀ a, a < 0 → ∀ b, b < 0 → a ≠ b → (TJ0 a).2.1 ≠ (TJ0 b).2.1 := by decide +kernel
theorem tyJ0_ok : ∀ k, k < 0 → parseFieldDescriptor (TJ0 k).2.2.1 = some (tyJ0 k) := by decide +kernel
def RJ10 : String := "java/lang/System"
def TJ10 : u_T := fun k => match k with
  | _ => ("", "", "", false)
def tyJ10 : Nat → FieldType := fun k => match k with
  | _ => .int
abbrev wsJ100 : List Cond := u_ws RJ10 TJ10 0
theorem nmJ10 : ∀ a, a < 0 → ∀ b, b < 0 → a ≠ b → (TJ10 a).2.1 ≠ (TJ10 b).2.1 := by decide +kernel
theorem tyJ10_ok : ∀ k, k < 0 → parseFieldDescriptor (TJ10 k).2.2.1 = some (tyJ10 k) := by decide +kernel
def RL : String := "StudioAirtimeLaw"
abbrev cL_cell : ByteArray := method_2_code
def yL_cell : MethodName := ⟨RL, "cell", "([II)I"⟩
abbrev cL_at : ByteArray := method_3_code
def yL_at : MethodName := ⟨RL, "at", "(II)I"⟩
abbrev cL_worth : ByteArray := method_4_code
def yL_worth : MethodName := ⟨RL, "worth", "(II[I)I"⟩
abbrev cL_allowance : ByteArray := method_5_code
def yL_allowance : MethodName := ⟨RL, "allowance", "(I[I)I"⟩
abbrev cL_byId : ByteArray := method_6_code
def yL_byId : MethodName := ⟨RL, "byId", "(I[I[I)I"⟩
abbrev cL_taken : ByteArray := method_7_code
def yL_taken : MethodName := ⟨RL, "taken", "(II[I[I)Z"⟩
abbrev cL_planned : ByteArray := method_8_code
def yL_planned : MethodName := ⟨RL, "planned", "(II[I[I)I"⟩
abbrev cL_why : ByteArray := method_9_code
def yL_why : MethodName := ⟨RL, "why", "([I[I[I[I)I"⟩
abbrev cL_sink : ByteArray := method_10_code
def yL_sink : MethodName := ⟨RL, "sink", "([I[I)I"⟩
abbrev cL_clock : ByteArray := method_11_code
def yL_clock : MethodName := ⟨RL, "clock", "(I[I[I[I[I)I"⟩
abbrev cL_aired : ByteArray := method_12_code
def yL_aired : MethodName := ⟨RL, "aired", "(II[I[I[I)I"⟩
abbrev cL_dayPart : ByteArray := method_13_code
def yL_dayPart : MethodName := ⟨RL, "dayPart", "(II[I[I[I)I"⟩
abbrev cL_told : ByteArray := method_14_code
def yL_told : MethodName := ⟨RL, "told", "(LStudioAirtime;I[I[I[I[I)Z"⟩
abbrev cL_lay : ByteArray := method_15_code
def yL_lay : MethodName := ⟨RL, "lay", "(IIIIIIII[I[I)V"⟩
abbrev cL_ahead : ByteArray := method_16_code
def yL_ahead : MethodName := ⟨RL, "ahead", "(LStudioAirtime;II[I[I[I[I)Z"⟩
abbrev cL_act : ByteArray := method_17_code
def yL_act : MethodName := ⟨RL, "act", "(LStudioAirtime;IIII[I[I[I[I)Z"⟩
abbrev cL_law : ByteArray := code
def yL_law : MethodName := ⟨RL, "law", "([I)Z"⟩
abbrev vwCl : List vw_C := [(RX0, TX0, 5), (RX0, TX0, 5), (RX2, TX2, 3), (RX3, TX3, 16), (RX4, TX4, 7), (RX5, TX5, 4), (RX6, TX6, 7), (RX0, TX0, 5)]
/-! ===== BEGIN words of one list among another's, by their places ===== -/
theorem goodIn_r {big : List Cond} (ws : List Cond) (ps : List Nat) (hp : ws = ps.filterMap (fun i => big[i]?)) (h : ws.all goodWord = true) : GoodIn big ws := by
  intro w hw
  have h1 := List.all_eq_true.mp h w hw
  rw [hp] at hw
  obtain ⟨i, -, hi⟩ := List.mem_filterMap.mp hw
  have hm : w ∈ big := by first | exact List.mem_of_getElem? hi | exact List.getElem?_mem hi
  exact ⟨hm, good_of_word h1⟩
theorem goodIn_app {big a b : List Cond} (ha : GoodIn big a) (hb : GoodIn big b) : GoodIn big (a ++ b) := fun w h => (List.mem_append.mp h).elim (ha w) (hb w)
theorem goodIn_ca {big a b : List Cond} {c : Cond} (ha : GoodIn big (c :: a)) (hb : GoodIn big b) : GoodIn big (c :: (a ++ b)) := fun w h => (List.mem_cons.mp h).elim (fun e => ha w (List.mem_cons.mpr (Or.inl e))) (fun h => (List.mem_append.mp h).elim (fun h => ha w (List.mem_cons.mpr (Or.inr h))) (hb w))
theorem goodIn_sub {big ws : List Cond} (hm : ∀ w ∈ ws, w ∈ big) (h : ws.all goodWord = true) : GoodIn big ws := fun w hw => ⟨hm w hw, good_of_word (List.all_eq_true.mp h w hw)⟩
/-! ===== END ===== -/
