def RX0 : String := "HourRehearsal$Piece"
def TX0 : u_T := fun k => match k with
  | 0 => ("HourRehearsal$Piece", "places", "[LHourRehearsal$Place;", true)
  | 1 => ("HourRehearsal$Piece", "readings", "LHourRehearsal$Readings;", true)
  | 2 => ("HourRehearsal$Piece", "placeCount", "I", false)
  | _ => ("HourRehearsal$Piece", "minutesThere", "I", false)
def tyX0 : Nat → FieldType := fun k => match k with
  | 0 => .array (.object "HourRehearsal$Place")
  | 1 => .object "HourRehearsal$Readings"
  | 2 => .int
  | _ => .int
abbrev wsX00 : List Cond := u_ws RX0 TX0 4
theorem nmX0 : ∀ a, a < 4 → ∀ b, b < 4 → a ≠ b → (TX0 a).2.1 ≠ (TX0 b).2.1 := by decide +kernel
theorem tyX0_ok : ∀ k, k < 4 → parseFieldDescriptor (TX0 k).2.2.1 = some (tyX0 k) := by decide +kernel
abbrev cX0_init : ByteArray := prog_2_method_1_code
def yX0_init : MethodName := ⟨RX0, "<init>", "()V"⟩
abbrev cX0_isMissing : ByteArray := prog_2_method_2_code
def yX0_isMissing : MethodName := ⟨RX0, "isMissing", "()Z"⟩
abbrev cX0_hasPlace : ByteArray := prog_2_method_3_code
def yX0_hasPlace : MethodName := ⟨RX0, "hasPlace", "(I)Z"⟩
abbrev cX0_joinCount : ByteArray := prog_2_method_4_code
def yX0_joinCount : MethodName := ⟨RX0, "joinCount", "()I"⟩
abbrev cX0_hasJoin : ByteArray := prog_2_method_5_code
def yX0_hasJoin : MethodName := ⟨RX0, "hasJoin", "(I)Z"⟩
abbrev cX0_hasStep : ByteArray := prog_2_method_6_code
def yX0_hasStep : MethodName := ⟨RX0, "hasStep", "(I)Z"⟩
abbrev cX0_minutesOf : ByteArray := prog_2_method_7_code
def yX0_minutesOf : MethodName := ⟨RX0, "minutesOf", "(I)I"⟩
abbrev cX0_allLengths : ByteArray := prog_2_method_8_code
def yX0_allLengths : MethodName := ⟨RX0, "allLengths", "()I"⟩
abbrev cX0_wholeParts : ByteArray := prog_2_method_9_code
def yX0_wholeParts : MethodName := ⟨RX0, "wholeParts", "()J"⟩
abbrev cX0_isOfPlace : ByteArray := prog_2_method_10_code
def yX0_isOfPlace : MethodName := ⟨RX0, "isOfPlace", "(I)Z"⟩
abbrev cX0_isSlow : ByteArray := prog_2_method_11_code
def yX0_isSlow : MethodName := ⟨RX0, "isSlow", "(I)Z"⟩
abbrev cX0_placeOf : ByteArray := prog_2_method_12_code
def yX0_placeOf : MethodName := ⟨RX0, "placeOf", "(I)I"⟩
def RX1 : String := "HourRehearsal$Place"
def TX1 : u_T := fun k => match k with
  | 0 => ("HourRehearsal$Place", "kind", "I", false)
  | 1 => ("HourRehearsal$Place", "sureAtFirst", "I", false)
  | 2 => ("HourRehearsal$Place", "length", "I", false)
  | 3 => ("HourRehearsal$Place", "lips", "I", false)
  | _ => ("HourRehearsal$Place", "from", "I", false)
def tyX1 : Nat → FieldType := fun k => match k with
  | 0 => .int
  | 1 => .int
  | 2 => .int
  | 3 => .int
  | _ => .int
abbrev wsX10 : List Cond := u_ws RX1 TX1 5
theorem nmX1 : ∀ a, a < 5 → ∀ b, b < 5 → a ≠ b → (TX1 a).2.1 ≠ (TX1 b).2.1 := by decide +kernel
theorem tyX1_ok : ∀ k, k < 5 → parseFieldDescriptor (TX1 k).2.2.1 = some (tyX1 k) := by decide +kernel
abbrev cX1_init : ByteArray := prog_3_method_1_code
def yX1_init : MethodName := ⟨RX1, "<init>", "()V"⟩
abbrev cX1_gains : ByteArray := prog_3_method_2_code
def yX1_gains : MethodName := ⟨RX1, "gains", "()I"⟩
abbrev cX1_isAlso : ByteArray := prog_3_method_3_code
def yX1_isAlso : MethodName := ⟨RX1, "isAlso", "(I)Z"⟩
def RX2 : String := "HourRehearsal$Plan"
def TX2 : u_T := fun k => match k with
  | 0 => ("HourRehearsal$Plan", "steps", "[I", true)
  | _ => ("HourRehearsal$Plan", "count", "I", false)
def tyX2 : Nat → FieldType := fun k => match k with
  | 0 => .array .int
  | _ => .int
abbrev wsX20 : List Cond := u_ws RX2 TX2 2
theorem nmX2 : ∀ a, a < 2 → ∀ b, b < 2 → a ≠ b → (TX2 a).2.1 ≠ (TX2 b).2.1 := by decide +kernel
theorem tyX2_ok : ∀ k, k < 2 → parseFieldDescriptor (TX2 k).2.2.1 = some (tyX2 k) := by decide +kernel
abbrev cX2_init : ByteArray := prog_4_method_1_code
def yX2_init : MethodName := ⟨RX2, "<init>", "()V"⟩
def RX3 : String := "HourRehearsal$Playing"
def TX3 : u_T := fun k => match k with
  | 0 => ("HourRehearsal$Playing", "sureNow", "[I", true)
  | 1 => ("HourRehearsal$Playing", "joinNow", "[I", true)
  | 2 => ("HourRehearsal$Playing", "timesPlayed", "[I", true)
  | 3 => ("HourRehearsal$Playing", "minute", "I", false)
  | 4 => ("HourRehearsal$Playing", "restedAt", "I", false)
  | _ => ("HourRehearsal$Playing", "firstWorse", "I", false)
def tyX3 : Nat → FieldType := fun k => match k with
  | 0 => .array .int
  | 1 => .array .int
  | 2 => .array .int
  | 3 => .int
  | 4 => .int
  | _ => .int
abbrev wsX30 : List Cond := u_ws RX3 TX3 6
theorem nmX3 : ∀ a, a < 6 → ∀ b, b < 6 → a ≠ b → (TX3 a).2.1 ≠ (TX3 b).2.1 := by decide +kernel
theorem tyX3_ok : ∀ k, k < 6 → parseFieldDescriptor (TX3 k).2.2.1 = some (tyX3 k) := by decide +kernel
abbrev cX3_init : ByteArray := prog_5_method_1_code
def yX3_init : MethodName := ⟨RX3, "<init>", "()V"⟩
abbrev cX3_begin : ByteArray := prog_5_method_2_code
def yX3_begin : MethodName := ⟨RX3, "begin", "(LHourRehearsal$Piece;)V"⟩
abbrev cX3_becomeLike : ByteArray := prog_5_method_3_code
def yX3_becomeLike : MethodName := ⟨RX3, "becomeLike", "(LHourRehearsal$Playing;)V"⟩
abbrev cX3_playPlan : ByteArray := prog_5_method_4_code
def yX3_playPlan : MethodName := ⟨RX3, "playPlan", "(LHourRehearsal$Piece;LHourRehearsal$Plan;I)I"⟩
abbrev cX3_canBe : ByteArray := prog_5_method_5_code
def yX3_canBe : MethodName := ⟨RX3, "canBe", "(LHourRehearsal$Piece;I)Z"⟩
abbrev cX3_playStep : ByteArray := prog_5_method_6_code
def yX3_playStep : MethodName := ⟨RX3, "playStep", "(LHourRehearsal$Piece;I)Z"⟩
abbrev cX3_runThrough : ByteArray := prog_5_method_7_code
def yX3_runThrough : MethodName := ⟨RX3, "runThrough", "(Z)V"⟩
abbrev cX3_playPlace : ByteArray := prog_5_method_8_code
def yX3_playPlace : MethodName := ⟨RX3, "playPlace", "(LHourRehearsal$Piece;IZ)Z"⟩
abbrev cX3_rightParts : ByteArray := prog_5_method_9_code
def yX3_rightParts : MethodName := ⟨RX3, "rightParts", "(LHourRehearsal$Piece;)J"⟩
def RX4 : String := "HourRehearsal$Readings"
def TX4 : u_T := fun k => match k with
  | 0 => ("HourRehearsal$Readings", "placeOf", "[I", true)
  | 1 => ("HourRehearsal$Readings", "sureOf", "[I", true)
  | _ => ("HourRehearsal$Readings", "count", "I", false)
def tyX4 : Nat → FieldType := fun k => match k with
  | 0 => .array .int
  | 1 => .array .int
  | _ => .int
abbrev wsX40 : List Cond := u_ws RX4 TX4 3
theorem nmX4 : ∀ a, a < 3 → ∀ b, b < 3 → a ≠ b → (TX4 a).2.1 ≠ (TX4 b).2.1 := by decide +kernel
theorem tyX4_ok : ∀ k, k < 3 → parseFieldDescriptor (TX4 k).2.2.1 = some (tyX4 k) := by decide +kernel
abbrev cX4_init : ByteArray := prog_6_method_1_code
def yX4_init : MethodName := ⟨RX4, "<init>", "()V"⟩
abbrev cX4_add : ByteArray := prog_6_method_2_code
def yX4_add : MethodName := ⟨RX4, "add", "(II)V"⟩
abbrev cX4_areSo : ByteArray := prog_6_method_3_code
def yX4_areSo : MethodName := ⟨RX4, "areSo", "(LHourRehearsal$Playing;)Z"⟩
def RX5 : String := "HourRehearsal$Search"
def TX5 : u_T := fun k => match k with
  | 0 => ("HourRehearsal$Search", "after", "[LHourRehearsal$Playing;", true)
  | 1 => ("HourRehearsal$Search", "tried", "[I", true)
  | 2 => ("HourRehearsal$Search", "kept", "[I", true)
  | 3 => ("HourRehearsal$Search", "keptCount", "I", false)
  | 4 => ("HourRehearsal$Search", "isForBest", "Z", false)
  | 5 => ("HourRehearsal$Search", "least", "I", false)
  | 6 => ("HourRehearsal$Search", "mostParts", "J", false)
  | _ => ("HourRehearsal$Search", "soMany", "I", false)
def tyX5 : Nat → FieldType := fun k => match k with
  | 0 => .array (.object "HourRehearsal$Playing")
  | 1 => .array .int
  | 2 => .array .int
  | 3 => .int
  | 4 => .boolean
  | 5 => .int
  | 6 => .long
  | _ => .int
abbrev wsX50 : List Cond := u_ws RX5 TX5 8
theorem nmX5 : ∀ a, a < 8 → ∀ b, b < 8 → a ≠ b → (TX5 a).2.1 ≠ (TX5 b).2.1 := by decide +kernel
theorem tyX5_ok : ∀ k, k < 8 → parseFieldDescriptor (TX5 k).2.2.1 = some (tyX5 k) := by decide +kernel
abbrev cX5_init : ByteArray := prog_7_method_1_code
def yX5_init : MethodName := ⟨RX5, "<init>", "()V"⟩
abbrev cX5_lookForBest : ByteArray := prog_7_method_2_code
def yX5_lookForBest : MethodName := ⟨RX5, "lookForBest", "(LHourRehearsal$Piece;I)V"⟩
abbrev cX5_lookForSeen : ByteArray := prog_7_method_3_code
def yX5_lookForSeen : MethodName := ⟨RX5, "lookForSeen", "(LHourRehearsal$Piece;I)V"⟩
abbrev cX5_keptStep : ByteArray := prog_7_method_4_code
def yX5_keptStep : MethodName := ⟨RX5, "keptStep", "(I)I"⟩
abbrev cX5_lookThrough : ByteArray := prog_7_method_5_code
def yX5_lookThrough : MethodName := ⟨RX5, "lookThrough", "(LHourRehearsal$Piece;I)V"⟩
abbrev cX5_tryFrom : ByteArray := prog_7_method_6_code
def yX5_tryFrom : MethodName := ⟨RX5, "tryFrom", "(LHourRehearsal$Piece;II)V"⟩
abbrev cX5_weighBest : ByteArray := prog_7_method_7_code
def yX5_weighBest : MethodName := ⟨RX5, "weighBest", "(LHourRehearsal$Piece;I)V"⟩
abbrev cX5_weighSeen : ByteArray := prog_7_method_8_code
def yX5_weighSeen : MethodName := ⟨RX5, "weighSeen", "(LHourRehearsal$Piece;I)V"⟩
abbrev cX5_keep : ByteArray := prog_7_method_9_code
def yX5_keep : MethodName := ⟨RX5, "keep", "(I)V"⟩
abbrev cX5_leastMinutes : ByteArray := prog_7_method_10_code
def yX5_leastMinutes : MethodName := ⟨RX5, "leastMinutes", "(LHourRehearsal$Piece;II)I"⟩
abbrev cX5_trySoonest : ByteArray := prog_7_method_11_code
def yX5_trySoonest : MethodName := ⟨RX5, "trySoonest", "(LHourRehearsal$Piece;III)V"⟩
def RX6 : String := "HourRehearsal$Sheet"
def TX6 : u_T := fun k => match k with
  | 0 => ("HourRehearsal$Sheet", "cells", "[I", true)
  | 1 => ("HourRehearsal$Sheet", "hasRow", "Z", false)
  | 2 => ("HourRehearsal$Sheet", "lane", "I", false)
  | _ => ("HourRehearsal$Sheet", "length", "I", false)
def tyX6 : Nat → FieldType := fun k => match k with
  | 0 => .array .int
  | 1 => .boolean
  | 2 => .int
  | _ => .int
abbrev wsX60 : List Cond := u_ws RX6 TX6 4
theorem nmX6 : ∀ a, a < 4 → ∀ b, b < 4 → a ≠ b → (TX6 a).2.1 ≠ (TX6 b).2.1 := by decide +kernel
theorem tyX6_ok : ∀ k, k < 4 → parseFieldDescriptor (TX6 k).2.2.1 = some (tyX6 k) := by decide +kernel
abbrev cX6_init : ByteArray := prog_8_method_1_code
def yX6_init : MethodName := ⟨RX6, "<init>", "()V"⟩
abbrev cX6_renew : ByteArray := prog_8_method_2_code
def yX6_renew : MethodName := ⟨RX6, "renew", "(II)V"⟩
abbrev cX6_faultTakenAs : ByteArray := prog_8_method_3_code
def yX6_faultTakenAs : MethodName := ⟨RX6, "faultTakenAs", "(I)I"⟩
abbrev cX6_faultOfCells : ByteArray := prog_8_method_4_code
def yX6_faultOfCells : MethodName := ⟨RX6, "faultOfCells", "(III)I"⟩
abbrev cX6_hasCell : ByteArray := prog_8_method_5_code
def yX6_hasCell : MethodName := ⟨RX6, "hasCell", "(I)Z"⟩
abbrev cX6_holds : ByteArray := prog_8_method_6_code
def yX6_holds : MethodName := ⟨RX6, "holds", "(II)Z"⟩
abbrev cX6_cut : ByteArray := prog_8_method_7_code
def yX6_cut : MethodName := ⟨RX6, "cut", "(I)I"⟩
def RX7 : String := "HourRehearsal$Text"
def TX7 : u_T := fun k => match k with
  | _ => ("", "", "", false)
def tyX7 : Nat → FieldType := fun k => match k with
  | _ => .int
abbrev wsX70 : List Cond := u_ws RX7 TX7 0
theorem nmX7 : ∀ a, a < 0 → ∀ b, b < 0 → a ≠ b → (TX7 a).2.1 ≠ (TX7 b).2.1 := by decide +kernel
theorem tyX7_ok : ∀ k, k < 0 → parseFieldDescriptor (TX7 k).2.2.1 = some (tyX7 k) := by decide +kernel
abbrev cX7_firstFault : ByteArray := prog_9_method_2_code
def yX7_firstFault : MethodName := ⟨RX7, "firstFault", "([III)I"⟩
abbrev cX7_goesOn : ByteArray := prog_9_method_3_code
def yX7_goesOn : MethodName := ⟨RX7, "goesOn", "(III)Z"⟩
abbrev cX7_goesOnInPlace : ByteArray := prog_9_method_4_code
def yX7_goesOnInPlace : MethodName := ⟨RX7, "goesOnInPlace", "(II)Z"⟩
abbrev cX7_endsMinutes : ByteArray := prog_9_method_5_code
def yX7_endsMinutes : MethodName := ⟨RX7, "endsMinutes", "(II)Z"⟩
abbrev cX7_isDigit : ByteArray := prog_9_method_6_code
def yX7_isDigit : MethodName := ⟨RX7, "isDigit", "(III)Z"⟩
abbrev cX7_digit : ByteArray := prog_9_method_7_code
def yX7_digit : MethodName := ⟨RX7, "digit", "(I)I"⟩
abbrev cX7_kindBy : ByteArray := prog_9_method_8_code
def yX7_kindBy : MethodName := ⟨RX7, "kindBy", "(I)I"⟩
abbrev cX7_fill : ByteArray := prog_9_method_9_code
def yX7_fill : MethodName := ⟨RX7, "fill", "(LHourRehearsal$Piece;[III)V"⟩
def RX8 : String := "HourRehearsal"
def TX8 : u_T := fun k => match k with
  | 0 => ("HourRehearsal", "sheets", "[LHourRehearsal$Sheet;", true)
  | 1 => ("HourRehearsal", "heldPiece", "LHourRehearsal$Piece;", true)
  | 2 => ("HourRehearsal", "toldPlan", "LHourRehearsal$Plan;", true)
  | 3 => ("HourRehearsal", "played", "LHourRehearsal$Playing;", true)
  | 4 => ("HourRehearsal", "search", "LHourRehearsal$Search;", true)
  | 5 => ("HourRehearsal", "traced", "I", false)
  | _ => ("HourRehearsal", "lastFault", "I", false)
def tyX8 : Nat → FieldType := fun k => match k with
  | 0 => .array (.object "HourRehearsal$Sheet")
  | 1 => .object "HourRehearsal$Piece"
  | 2 => .object "HourRehearsal$Plan"
  | 3 => .object "HourRehearsal$Playing"
  | 4 => .object "HourRehearsal$Search"
  | 5 => .int
  | _ => .int
abbrev wsX80 : List Cond := u_ws RX8 TX8 7
theorem nmX8 : ∀ a, a < 7 → ∀ b, b < 7 → a ≠ b → (TX8 a).2.1 ≠ (TX8 b).2.1 := by decide +kernel
theorem tyX8_ok : ∀ k, k < 7 → parseFieldDescriptor (TX8 k).2.2.1 = some (tyX8 k) := by decide +kernel
abbrev cX8_init : ByteArray := prog_1_method_1_code
def yX8_init : MethodName := ⟨RX8, "<init>", "()V"⟩
abbrev cX8_piece : ByteArray := prog_1_method_2_code
def yX8_piece : MethodName := ⟨RX8, "piece", "(IIII)I"⟩
abbrev cX8_ofPlace : ByteArray := prog_1_method_3_code
def yX8_ofPlace : MethodName := ⟨RX8, "ofPlace", "(II)I"⟩
abbrev cX8_sure : ByteArray := prog_1_method_4_code
def yX8_sure : MethodName := ⟨RX8, "sure", "(II)I"⟩
abbrev cX8_minutes : ByteArray := prog_1_method_5_code
def yX8_minutes : MethodName := ⟨RX8, "minutes", "(I)I"⟩
abbrev cX8_plan : ByteArray := prog_1_method_6_code
def yX8_plan : MethodName := ⟨RX8, "plan", "(IIIII)I"⟩
abbrev cX8_right : ByteArray := prog_1_method_7_code
def yX8_right : MethodName := ⟨RX8, "right", "(IIIII)J"⟩
abbrev cX8_worse : ByteArray := prog_1_method_8_code
def yX8_worse : MethodName := ⟨RX8, "worse", "(IIII)I"⟩
abbrev cX8_worth : ByteArray := prog_1_method_9_code
def yX8_worth : MethodName := ⟨RX8, "worth", "(IIIII)J"⟩
abbrev cX8_best : ByteArray := prog_1_method_10_code
def yX8_best : MethodName := ⟨RX8, "best", "(II)I"⟩
abbrev cX8_top : ByteArray := prog_1_method_11_code
def yX8_top : MethodName := ⟨RX8, "top", "(II)J"⟩
abbrev cX8_soonest : ByteArray := prog_1_method_12_code
def yX8_soonest : MethodName := ⟨RX8, "soonest", "(II)I"⟩
abbrev cX8_luck : ByteArray := prog_1_method_13_code
def yX8_luck : MethodName := ⟨RX8, "luck", "(III)J"⟩
abbrev cX8_reading : ByteArray := prog_1_method_14_code
def yX8_reading : MethodName := ⟨RX8, "reading", "(II)I"⟩
abbrev cX8_back : ByteArray := prog_1_method_15_code
def yX8_back : MethodName := ⟨RX8, "back", "(I)I"⟩
abbrev cX8_plans : ByteArray := prog_1_method_16_code
def yX8_plans : MethodName := ⟨RX8, "plans", "(II)I"⟩
abbrev cX8_kinds : ByteArray := prog_1_method_17_code
def yX8_kinds : MethodName := ⟨RX8, "kinds", "(IIIII)I"⟩
abbrev cX8_sheet : ByteArray := prog_1_method_18_code
def yX8_sheet : MethodName := ⟨RX8, "sheet", "(III)I"⟩
abbrev cX8_lose : ByteArray := prog_1_method_19_code
def yX8_lose : MethodName := ⟨RX8, "lose", "(I)I"⟩
abbrev cX8_put : ByteArray := prog_1_method_20_code
def yX8_put : MethodName := ⟨RX8, "put", "(III)I"⟩
abbrev cX8_cell : ByteArray := prog_1_method_21_code
def yX8_cell : MethodName := ⟨RX8, "cell", "(III)J"⟩
abbrev cX8_copy : ByteArray := prog_1_method_22_code
def yX8_copy : MethodName := ⟨RX8, "copy", "(IIIII)I"⟩
abbrev cX8_tell : ByteArray := prog_1_method_23_code
def yX8_tell : MethodName := ⟨RX8, "tell", "(I)I"⟩
abbrev cX8_hum : ByteArray := prog_1_method_24_code
def yX8_hum : MethodName := ⟨RX8, "hum", "(I)I"⟩
abbrev cX8_as : ByteArray := prog_1_method_25_code
def yX8_as : MethodName := ⟨RX8, "as", "(II)I"⟩
abbrev cX8_trace : ByteArray := prog_1_method_26_code
def yX8_trace : MethodName := ⟨RX8, "trace", "()I"⟩
abbrev cX8_fault : ByteArray := prog_1_method_27_code
def yX8_fault : MethodName := ⟨RX8, "fault", "()I"⟩
abbrev cX8_many : ByteArray := prog_1_method_28_code
def yX8_many : MethodName := ⟨RX8, "many", "(I)I"⟩
abbrev cX8_isSheet : ByteArray := prog_1_method_29_code
def yX8_isSheet : MethodName := ⟨RX8, "isSheet", "(I)Z"⟩
abbrev cX8_isLane : ByteArray := prog_1_method_30_code
def yX8_isLane : MethodName := ⟨RX8, "isLane", "(I)Z"⟩
abbrev cX8_isSureness : ByteArray := prog_1_method_31_code
def yX8_isSureness : MethodName := ⟨RX8, "isSureness", "(I)Z"⟩
abbrev cX8_isHalfOfShare : ByteArray := prog_1_method_32_code
def yX8_isHalfOfShare : MethodName := ⟨RX8, "isHalfOfShare", "(I)Z"⟩
abbrev cX8_isTimesOfLuck : ByteArray := prog_1_method_33_code
def yX8_isTimesOfLuck : MethodName := ⟨RX8, "isTimesOfLuck", "(I)Z"⟩
abbrev cX8_isAskedOfPlan : ByteArray := prog_1_method_34_code
def yX8_isAskedOfPlan : MethodName := ⟨RX8, "isAskedOfPlan", "(I)Z"⟩
abbrev cX8_failed : ByteArray := prog_1_method_35_code
def yX8_failed : MethodName := ⟨RX8, "failed", "(I)I"⟩
abbrev cX8_takePlan : ByteArray := prog_1_method_36_code
def yX8_takePlan : MethodName := ⟨RX8, "takePlan", "(IIIIZ)I"⟩
abbrev cX8_kindsThatFit : ByteArray := prog_1_method_37_code
def yX8_kindsThatFit : MethodName := ⟨RX8, "kindsThatFit", "(LHourRehearsal$Place;)I"⟩
abbrev cX8_leaveTrace : ByteArray := prog_1_method_38_code
def yX8_leaveTrace : MethodName := ⟨RX8, "leaveTrace", "(I)V"⟩
abbrev cX8_toldAsPlain : ByteArray := prog_1_method_39_code
def yX8_toldAsPlain : MethodName := ⟨RX8, "toldAsPlain", "(LHourRehearsal$Place;)I"⟩
abbrev cX8_toldAsKnotty : ByteArray := prog_1_method_40_code
def yX8_toldAsKnotty : MethodName := ⟨RX8, "toldAsKnotty", "(LHourRehearsal$Place;)I"⟩
abbrev cX8_toldAsHigh : ByteArray := prog_1_method_41_code
def yX8_toldAsHigh : MethodName := ⟨RX8, "toldAsHigh", "(LHourRehearsal$Place;)I"⟩
abbrev cX8_shareOf : ByteArray := prog_1_method_42_code
def yX8_shareOf : MethodName := ⟨RX8, "shareOf", "(JJI)J"⟩
abbrev cX8_commonDivisor : ByteArray := prog_1_method_43_code
def yX8_commonDivisor : MethodName := ⟨RX8, "commonDivisor", "(JJ)J"⟩
abbrev cX8_power : ByteArray := prog_1_method_44_code
def yX8_power : MethodName := ⟨RX8, "power", "(II)J"⟩
def RX9 : String := "HourRehearsalModel"
def TX9 : u_T := fun k => match k with
  | 0 => ("HourRehearsalModel", "fault", "I", false)
  | 1 => ("HourRehearsalModel", "trace", "I", false)
  | 2 => ("HourRehearsalModel", "sorts", "[I", true)
  | 3 => ("HourRehearsalModel", "sheetLong", "[I", true)
  | 4 => ("HourRehearsalModel", "cells", "[I", true)
  | 5 => ("HourRehearsalModel", "minutes", "I", false)
  | 6 => ("HourRehearsalModel", "places", "I", false)
  | 7 => ("HourRehearsalModel", "kind", "[I", true)
  | 8 => ("HourRehearsalModel", "sureAt", "[I", true)
  | 9 => ("HourRehearsalModel", "far", "[I", true)
  | 10 => ("HourRehearsalModel", "lips", "[I", true)
  | 11 => ("HourRehearsalModel", "from", "[I", true)
  | 12 => ("HourRehearsalModel", "at", "I", false)
  | 13 => ("HourRehearsalModel", "readMinutes", "I", false)
  | 14 => ("HourRehearsalModel", "readMany", "I", false)
  | 15 => ("HourRehearsalModel", "read", "[I", true)
  | 16 => ("HourRehearsalModel", "now", "I", false)
  | 17 => ("HourRehearsalModel", "rested", "I", false)
  | 18 => ("HourRehearsalModel", "sureNow", "[I", true)
  | 19 => ("HourRehearsalModel", "joinNow", "[I", true)
  | 20 => ("HourRehearsalModel", "played", "[I", true)
  | 21 => ("HourRehearsalModel", "isWorse", "Z", false)
  | 22 => ("HourRehearsalModel", "isFree", "Z", false)
  | 23 => ("HourRehearsalModel", "planLong", "I", false)
  | 24 => ("HourRehearsalModel", "plan", "[I", true)
  | 25 => ("HourRehearsalModel", "bestLong", "I", false)
  | 26 => ("HourRehearsalModel", "bestNumber", "I", false)
  | 27 => ("HourRehearsalModel", "bestRight", "J", false)
  | 28 => ("HourRehearsalModel", "readings", "I", false)
  | 29 => ("HourRehearsalModel", "readPlaceOf", "[I", true)
  | _ => ("HourRehearsalModel", "readSure", "[I", true)
def tyX9 : Nat → FieldType := fun k => match k with
  | 0 => .int
  | 1 => .int
  | 2 => .array .int
  | 3 => .array .int
  | 4 => .array .int
  | 5 => .int
  | 6 => .int
  | 7 => .array .int
  | 8 => .array .int
  | 9 => .array .int
  | 10 => .array .int
  | 11 => .array .int
  | 12 => .int
  | 13 => .int
  | 14 => .int
  | 15 => .array .int
  | 16 => .int
  | 17 => .int
  | 18 => .array .int
  | 19 => .array .int
  | 20 => .array .int
  | 21 => .boolean
  | 22 => .boolean
  | 23 => .int
  | 24 => .array .int
  | 25 => .int
  | 26 => .int
  | 27 => .long
  | 28 => .int
  | 29 => .array .int
  | _ => .array .int
abbrev wsX90 : List Cond := u_ws RX9 TX9 31
theorem nmX9 : ∀ a, a < 31 → ∀ b, b < 31 → a ≠ b → (TX9 a).2.1 ≠ (TX9 b).2.1 := by decide +kernel
theorem tyX9_ok : ∀ k, k < 31 → parseFieldDescriptor (TX9 k).2.2.1 = some (tyX9 k) := by decide +kernel
abbrev cX9_init : ByteArray := prog_11_method_1_code
def yX9_init : MethodName := ⟨RX9, "<init>", "()V"⟩
abbrev cX9_fails : ByteArray := prog_11_method_3_code
def yX9_fails : MethodName := ⟨RX9, "fails", "(I)I"⟩
abbrev cX9_lost : ByteArray := prog_11_method_4_code
def yX9_lost : MethodName := ⟨RX9, "lost", "(I)J"⟩
abbrev cX9_within : ByteArray := prog_11_method_5_code
def yX9_within : MethodName := ⟨RX9, "within", "(III)Z"⟩
abbrev cX9_isSheet : ByteArray := prog_11_method_6_code
def yX9_isSheet : MethodName := ⟨RX9, "isSheet", "(I)Z"⟩
abbrev cX9_isSort : ByteArray := prog_11_method_7_code
def yX9_isSort : MethodName := ⟨RX9, "isSort", "(I)Z"⟩
abbrev cX9_against : ByteArray := prog_11_method_8_code
def yX9_against : MethodName := ⟨RX9, "against", "(IIII)I"⟩
abbrev cX9_isPlace : ByteArray := prog_11_method_9_code
def yX9_isPlace : MethodName := ⟨RX9, "isPlace", "(I)Z"⟩
abbrev cX9_joins : ByteArray := prog_11_method_10_code
def yX9_joins : MethodName := ⟨RX9, "joins", "()I"⟩
abbrev cX9_digit : ByteArray := prog_11_method_11_code
def yX9_digit : MethodName := ⟨RX9, "digit", "(III)I"⟩
abbrev cX9_isSign : ByteArray := prog_11_method_12_code
def yX9_isSign : MethodName := ⟨RX9, "isSign", "(II)Z"⟩
abbrev cX9_piece : ByteArray := prog_11_method_13_code
def yX9_piece : MethodName := ⟨RX9, "piece", "(IIII)I"⟩
abbrev cX9_readPiece : ByteArray := prog_11_method_14_code
def yX9_readPiece : MethodName := ⟨RX9, "readPiece", "(I)Z"⟩
abbrev cX9_readPlace : ByteArray := prog_11_method_15_code
def yX9_readPlace : MethodName := ⟨RX9, "readPlace", "(I)Z"⟩
abbrev cX9_gains : ByteArray := prog_11_method_16_code
def yX9_gains : MethodName := ⟨RX9, "gains", "(I)I"⟩
abbrev cX9_ofPlace : ByteArray := prog_11_method_17_code
def yX9_ofPlace : MethodName := ⟨RX9, "ofPlace", "(II)I"⟩
abbrev cX9_sure : ByteArray := prog_11_method_18_code
def yX9_sure : MethodName := ⟨RX9, "sure", "(II)I"⟩
abbrev cX9_minutes : ByteArray := prog_11_method_19_code
def yX9_minutes : MethodName := ⟨RX9, "minutes", "(I)I"⟩
abbrev cX9_begin : ByteArray := prog_11_method_20_code
def yX9_begin : MethodName := ⟨RX9, "begin", "()V"⟩
abbrev cX9_isStep : ByteArray := prog_11_method_21_code
def yX9_isStep : MethodName := ⟨RX9, "isStep", "(I)Z"⟩
abbrev cX9_takes : ByteArray := prog_11_method_22_code
def yX9_takes : MethodName := ⟨RX9, "takes", "(I)I"⟩
abbrev cX9_mayStep : ByteArray := prog_11_method_23_code
def yX9_mayStep : MethodName := ⟨RX9, "mayStep", "(I)Z"⟩
abbrev cX9_cut : ByteArray := prog_11_method_24_code
def yX9_cut : MethodName := ⟨RX9, "cut", "(I)I"⟩
abbrev cX9_play : ByteArray := prog_11_method_25_code
def yX9_play : MethodName := ⟨RX9, "play", "(IIZ)V"⟩
abbrev cX9_step : ByteArray := prog_11_method_26_code
def yX9_step : MethodName := ⟨RX9, "step", "(I)Z"⟩
abbrev cX9_go : ByteArray := prog_11_method_27_code
def yX9_go : MethodName := ⟨RX9, "go", "(I)I"⟩
abbrev cX9_layPlan : ByteArray := prog_11_method_28_code
def yX9_layPlan : MethodName := ⟨RX9, "layPlan", "(IIII)I"⟩
abbrev cX9_isPlan : ByteArray := prog_11_method_29_code
def yX9_isPlan : MethodName := ⟨RX9, "isPlan", "(II)Z"⟩
abbrev cX9_isAsked : ByteArray := prog_11_method_30_code
def yX9_isAsked : MethodName := ⟨RX9, "isAsked", "(I)Z"⟩
abbrev cX9_plan : ByteArray := prog_11_method_31_code
def yX9_plan : MethodName := ⟨RX9, "plan", "(IIIII)I"⟩
abbrev cX9_rightNow : ByteArray := prog_11_method_32_code
def yX9_rightNow : MethodName := ⟨RX9, "rightNow", "()J"⟩
abbrev cX9_parts : ByteArray := prog_11_method_33_code
def yX9_parts : MethodName := ⟨RX9, "parts", "()J"⟩
abbrev cX9_inLeastTerms : ByteArray := prog_11_method_34_code
def yX9_inLeastTerms : MethodName := ⟨RX9, "inLeastTerms", "(JJI)J"⟩
abbrev cX9_right : ByteArray := prog_11_method_35_code
def yX9_right : MethodName := ⟨RX9, "right", "(IIIII)J"⟩
abbrev cX9_worse : ByteArray := prog_11_method_36_code
def yX9_worse : MethodName := ⟨RX9, "worse", "(IIII)I"⟩
abbrev cX9_worth : ByteArray := prog_11_method_37_code
def yX9_worth : MethodName := ⟨RX9, "worth", "(IIIII)J"⟩
abbrev cX9_steps : ByteArray := prog_11_method_38_code
def yX9_steps : MethodName := ⟨RX9, "steps", "()I"⟩
abbrev cX9_stepOf : ByteArray := prog_11_method_39_code
def yX9_stepOf : MethodName := ⟨RX9, "stepOf", "(I)I"⟩
abbrev cX9_rows : ByteArray := prog_11_method_40_code
def yX9_rows : MethodName := ⟨RX9, "rows", "(I)I"⟩
abbrev cX9_goesRow : ByteArray := prog_11_method_41_code
def yX9_goesRow : MethodName := ⟨RX9, "goesRow", "(II)Z"⟩
abbrev cX9_findBest : ByteArray := prog_11_method_42_code
def yX9_findBest : MethodName := ⟨RX9, "findBest", "(I)V"⟩
abbrev cX9_best : ByteArray := prog_11_method_43_code
def yX9_best : MethodName := ⟨RX9, "best", "(II)I"⟩
abbrev cX9_top : ByteArray := prog_11_method_44_code
def yX9_top : MethodName := ⟨RX9, "top", "(II)J"⟩
abbrev cX9_freeRow : ByteArray := prog_11_method_45_code
def yX9_freeRow : MethodName := ⟨RX9, "freeRow", "(IIII)I"⟩
abbrev cX9_soonest : ByteArray := prog_11_method_46_code
def yX9_soonest : MethodName := ⟨RX9, "soonest", "(II)I"⟩
abbrev cX9_power : ByteArray := prog_11_method_47_code
def yX9_power : MethodName := ⟨RX9, "power", "(JI)J"⟩
abbrev cX9_luck : ByteArray := prog_11_method_48_code
def yX9_luck : MethodName := ⟨RX9, "luck", "(III)J"⟩
abbrev cX9_reading : ByteArray := prog_11_method_49_code
def yX9_reading : MethodName := ⟨RX9, "reading", "(II)I"⟩
abbrev cX9_back : ByteArray := prog_11_method_50_code
def yX9_back : MethodName := ⟨RX9, "back", "(I)I"⟩
abbrev cX9_areSo : ByteArray := prog_11_method_51_code
def yX9_areSo : MethodName := ⟨RX9, "areSo", "()Z"⟩
abbrev cX9_plans : ByteArray := prog_11_method_52_code
def yX9_plans : MethodName := ⟨RX9, "plans", "(II)I"⟩
abbrev cX9_kinds : ByteArray := prog_11_method_53_code
def yX9_kinds : MethodName := ⟨RX9, "kinds", "(IIIII)I"⟩
abbrev cX9_sheet : ByteArray := prog_11_method_54_code
def yX9_sheet : MethodName := ⟨RX9, "sheet", "(III)I"⟩
abbrev cX9_lose : ByteArray := prog_11_method_55_code
def yX9_lose : MethodName := ⟨RX9, "lose", "(I)I"⟩
abbrev cX9_put : ByteArray := prog_11_method_56_code
def yX9_put : MethodName := ⟨RX9, "put", "(III)I"⟩
abbrev cX9_cell : ByteArray := prog_11_method_57_code
def yX9_cell : MethodName := ⟨RX9, "cell", "(III)J"⟩
abbrev cX9_copy : ByteArray := prog_11_method_58_code
def yX9_copy : MethodName := ⟨RX9, "copy", "(IIIII)I"⟩
abbrev cX9_begins : ByteArray := prog_11_method_59_code
def yX9_begins : MethodName := ⟨RX9, "begins", "(I)V"⟩
abbrev cX9_tell : ByteArray := prog_11_method_60_code
def yX9_tell : MethodName := ⟨RX9, "tell", "(I)I"⟩
abbrev cX9_hum : ByteArray := prog_11_method_61_code
def yX9_hum : MethodName := ⟨RX9, "hum", "(I)I"⟩
abbrev cX9_as : ByteArray := prog_11_method_62_code
def yX9_as : MethodName := ⟨RX9, "as", "(II)I"⟩
abbrev cX9_trace : ByteArray := prog_11_method_63_code
def yX9_trace : MethodName := ⟨RX9, "trace", "()I"⟩
abbrev cX9_fault : ByteArray := prog_11_method_64_code
def yX9_fault : MethodName := ⟨RX9, "fault", "()I"⟩
abbrev cX9_many : ByteArray := prog_11_method_65_code
def yX9_many : MethodName := ⟨RX9, "many", "(I)I"⟩
def RJ9 : String := "java/lang/Math"
def TJ9 : u_T := fun k => match k with
  | _ => ("", "", "", false)
def tyJ9 : Nat → FieldType := fun k => match k with
  | _ => .int
abbrev wsJ90 : List Cond := u_ws RJ9 TJ9 0
theorem nmJ9 : ∀ a, a < 0 → ∀ b, b < 0 → a ≠ b → (TJ9 a).2.1 ≠ (TJ9 b).2.1 := by decide +kernel
theorem tyJ9_ok : ∀ k, k < 0 → parseFieldDescriptor (TJ9 k).2.2.1 = some (tyJ9 k) := by decide +kernel
abbrev cJ9_max_7cf53 : ByteArray := prog_12_method_65_code
def yJ9_max_7cf53 : MethodName := ⟨RJ9, "max", "(II)I"⟩
abbrev cJ9_min_7cf53 : ByteArray := prog_12_method_69_code
def yJ9_min_7cf53 : MethodName := ⟨RJ9, "min", "(II)I"⟩
def RJ10 : String := "java/lang/System"
def TJ10 : u_T := fun k => match k with
  | _ => ("", "", "", false)
def tyJ10 : Nat → FieldType := fun k => match k with
  | _ => .int
abbrev wsJ100 : List Cond := u_ws RJ10 TJ10 0
theorem nmJ10 : ∀ a, a < 0 → ∀ b, b < 0 → a ≠ b → (TJ10 a).2.1 ≠ (TJ10 b).2.1 := by decide +kernel
theorem tyJ10_ok : ∀ k, k < 0 → parseFieldDescriptor (TJ10 k).2.2.1 = some (tyJ10 k) := by decide +kernel
def RJ7 : String := "java/util/Arrays"
def TJ7 : u_T := fun k => match k with
  | _ => ("", "", "", false)
def tyJ7 : Nat → FieldType := fun k => match k with
  | _ => .int
abbrev wsJ70 : List Cond := u_ws RJ7 TJ7 0
theorem nmJ7 : ∀ a, a < 0 → ∀ b, b < 0 → a ≠ b → (TJ7 a).2.1 ≠ (TJ7 b).2.1 := by decide +kernel
theorem tyJ7_ok : ∀ k, k < 0 → parseFieldDescriptor (TJ7 k).2.2.1 = some (tyJ7 k) := by decide +kernel
abbrev cJ7_fill_53178 : ByteArray := prog_14_method_103_code
def yJ7_fill_53178 : MethodName := ⟨RJ7, "fill", "([II)V"⟩
def RL : String := "HourRehearsalLaw"
abbrev cL_law : ByteArray := code
def yL_law : MethodName := ⟨RL, "law", "([I)Z"⟩
abbrev vwCl : List vw_C := [(RX0, TX0, 4), (RX1, TX1, 5), (RX2, TX2, 2), (RX3, TX3, 6), (RX4, TX4, 3), (RX5, TX5, 8), (RX6, TX6, 4), (RX8, TX8, 7), (RX9, TX9, 31)]
def zTg : List (List Nat) := [[2, 2, 0, 0], [0, 0, 0, 0, 0], [2, 0], [2, 2, 2, 0, 0, 0], [2, 2, 0], [2, 2, 2, 0, 0, 0, 1, 0], [2, 0, 0, 0], [2, 2, 2, 2, 2, 0, 0], [0, 0, 2, 2, 2, 0, 0, 2, 2, 2, 2, 2, 0, 0, 0, 2, 0, 0, 2, 2, 2, 0, 0, 0, 2, 0, 0, 1, 0, 2, 2]]
def zMi : List (MethodName × ByteArray × Nat × Option FieldType) := [(yJ7_fill_53178, cJ7_fill_53178, 4, none),
  (yX1_gains, cX1_gains, 3, (some .int)),
  (yX1_isAlso, cX1_isAlso, 2, (some .boolean)),
  (yX4_add, cX4_add, 3, none),
  (yX4_areSo, cX4_areSo, 3, (some .boolean)),
  (yX6_renew, cX6_renew, 3, none),
  (yX6_faultTakenAs, cX6_faultTakenAs, 2, (some .int)),
  (yX6_faultOfCells, cX6_faultOfCells, 5, (some .int)),
  (yX6_hasCell, cX6_hasCell, 2, (some .boolean)),
  (yX6_holds, cX6_holds, 3, (some .boolean)),
  (yX6_cut, cX6_cut, 2, (some .int)),
  (yX7_firstFault, cX7_firstFault, 5, (some .int)),
  (yX7_goesOn, cX7_goesOn, 3, (some .boolean)),
  (yX7_goesOnInPlace, cX7_goesOnInPlace, 2, (some .boolean)),
  (yX7_endsMinutes, cX7_endsMinutes, 3, (some .boolean)),
  (yX7_isDigit, cX7_isDigit, 3, (some .boolean)),
  (yX7_digit, cX7_digit, 1, (some .int)),
  (yX7_kindBy, cX7_kindBy, 1, (some .int)),
  (yX7_fill, cX7_fill, 7, none),
  (yX0_isMissing, cX0_isMissing, 1, (some .boolean)),
  (yX0_hasPlace, cX0_hasPlace, 2, (some .boolean)),
  (yX0_joinCount, cX0_joinCount, 1, (some .int)),
  (yX0_hasJoin, cX0_hasJoin, 2, (some .boolean)),
  (yX0_hasStep, cX0_hasStep, 2, (some .boolean)),
  (yX0_minutesOf, cX0_minutesOf, 3, (some .int)),
  (yX0_allLengths, cX0_allLengths, 3, (some .int)),
  (yX0_wholeParts, cX0_wholeParts, 1, (some .long)),
  (yX0_isOfPlace, cX0_isOfPlace, 1, (some .boolean)),
  (yX0_isSlow, cX0_isSlow, 1, (some .boolean)),
  (yX0_placeOf, cX0_placeOf, 1, (some .int)),
  (yX3_begin, cX3_begin, 3, none),
  (yX3_becomeLike, cX3_becomeLike, 2, none),
  (yX3_playPlan, cX3_playPlan, 6, (some .int)),
  (yX3_canBe, cX3_canBe, 3, (some .boolean)),
  (yX3_playStep, cX3_playStep, 6, (some .boolean)),
  (yX3_runThrough, cX3_runThrough, 3, none),
  (yX3_playPlace, cX3_playPlace, 8, (some .boolean)),
  (yX3_rightParts, cX3_rightParts, 5, (some .long)),
  (yX5_lookForBest, cX5_lookForBest, 3, none),
  (yX5_lookForSeen, cX5_lookForSeen, 3, none),
  (yX5_keptStep, cX5_keptStep, 2, (some .int)),
  (yX5_lookThrough, cX5_lookThrough, 3, none),
  (yX5_tryFrom, cX5_tryFrom, 8, none),
  (yX5_weighBest, cX5_weighBest, 5, none),
  (yX5_weighSeen, cX5_weighSeen, 3, none),
  (yX5_keep, cX5_keep, 2, none),
  (yX5_leastMinutes, cX5_leastMinutes, 4, (some .int)),
  (yX5_trySoonest, cX5_trySoonest, 8, none),
  (yX8_piece, cX8_piece, 8, (some .int)),
  (yX8_ofPlace, cX8_ofPlace, 4, (some .int)),
  (yX8_sure, cX8_sure, 4, (some .int)),
  (yX8_minutes, cX8_minutes, 3, (some .int)),
  (yX8_plan, cX8_plan, 8, (some .int)),
  (yX8_right, cX8_right, 6, (some .long)),
  (yX8_worse, cX8_worse, 7, (some .int)),
  (yX8_worth, cX8_worth, 8, (some .long)),
  (yX8_best, cX8_best, 3, (some .int)),
  (yX8_top, cX8_top, 3, (some .long)),
  (yX8_soonest, cX8_soonest, 3, (some .int)),
  (yX8_luck, cX8_luck, 11, (some .long)),
  (yX8_reading, cX8_reading, 4, (some .int)),
  (yX8_back, cX8_back, 3, (some .int)),
  (yX8_plans, cX8_plans, 3, (some .int)),
  (yX8_kinds, cX8_kinds, 8, (some .int)),
  (yX8_sheet, cX8_sheet, 4, (some .int)),
  (yX8_lose, cX8_lose, 3, (some .int)),
  (yX8_put, cX8_put, 5, (some .int)),
  (yX8_cell, cX8_cell, 6, (some .long)),
  (yX8_copy, cX8_copy, 8, (some .int)),
  (yX8_tell, cX8_tell, 3, (some .int)),
  (yX8_hum, cX8_hum, 2, (some .int)),
  (yX8_as, cX8_as, 3, (some .int)),
  (yX8_trace, cX8_trace, 1, (some .int)),
  (yX8_fault, cX8_fault, 1, (some .int)),
  (yX8_many, cX8_many, 2, (some .int)),
  (yX8_isSheet, cX8_isSheet, 1, (some .boolean)),
  (yX8_isLane, cX8_isLane, 1, (some .boolean)),
  (yX8_isSureness, cX8_isSureness, 1, (some .boolean)),
  (yX8_isHalfOfShare, cX8_isHalfOfShare, 1, (some .boolean)),
  (yX8_isTimesOfLuck, cX8_isTimesOfLuck, 1, (some .boolean)),
  (yX8_isAskedOfPlan, cX8_isAskedOfPlan, 1, (some .boolean)),
  (yX8_failed, cX8_failed, 2, (some .int)),
  (yX8_takePlan, cX8_takePlan, 9, (some .int)),
  (yX8_kindsThatFit, cX8_kindsThatFit, 5, (some .int)),
  (yX8_leaveTrace, cX8_leaveTrace, 2, none),
  (yX8_toldAsPlain, cX8_toldAsPlain, 2, (some .int)),
  (yX8_toldAsKnotty, cX8_toldAsKnotty, 2, (some .int)),
  (yX8_toldAsHigh, cX8_toldAsHigh, 3, (some .int)),
  (yX8_shareOf, cX8_shareOf, 7, (some .long)),
  (yX8_commonDivisor, cX8_commonDivisor, 11, (some .long)),
  (yX8_power, cX8_power, 5, (some .long)),
  (yX9_fails, cX9_fails, 2, (some .int)),
  (yX9_lost, cX9_lost, 2, (some .long)),
  (yX9_within, cX9_within, 3, (some .boolean)),
  (yX9_isSheet, cX9_isSheet, 1, (some .boolean)),
  (yX9_isSort, cX9_isSort, 1, (some .boolean)),
  (yX9_against, cX9_against, 5, (some .int)),
  (yX9_isPlace, cX9_isPlace, 2, (some .boolean)),
  (yX9_joins, cX9_joins, 1, (some .int)),
  (yX9_digit, cX9_digit, 4, (some .int)),
  (yX9_isSign, cX9_isSign, 3, (some .boolean)),
  (yX9_piece, cX9_piece, 8, (some .int)),
  (yX9_readPiece, cX9_readPiece, 4, (some .boolean)),
  (yX9_readPlace, cX9_readPlace, 5, (some .boolean)),
  (yX9_gains, cX9_gains, 2, (some .int)),
  (yX9_ofPlace, cX9_ofPlace, 3, (some .int)),
  (yX9_sure, cX9_sure, 4, (some .int)),
  (yX9_minutes, cX9_minutes, 3, (some .int)),
  (yX9_begin, cX9_begin, 2, none),
  (yX9_isStep, cX9_isStep, 2, (some .boolean)),
  (yX9_takes, cX9_takes, 4, (some .int)),
  (yX9_mayStep, cX9_mayStep, 3, (some .boolean)),
  (yX9_cut, cX9_cut, 1, (some .int)),
  (yX9_play, cX9_play, 5, none),
  (yX9_step, cX9_step, 4, (some .boolean)),
  (yX9_go, cX9_go, 4, (some .int)),
  (yX9_layPlan, cX9_layPlan, 8, (some .int)),
  (yX9_isPlan, cX9_isPlan, 2, (some .boolean)),
  (yX9_isAsked, cX9_isAsked, 1, (some .boolean)),
  (yX9_plan, cX9_plan, 8, (some .int)),
  (yX9_rightNow, cX9_rightNow, 4, (some .long)),
  (yX9_parts, cX9_parts, 4, (some .long)),
  (yX9_inLeastTerms, cX9_inLeastTerms, 11, (some .long)),
  (yX9_right, cX9_right, 6, (some .long)),
  (yX9_worse, cX9_worse, 8, (some .int)),
  (yX9_worth, cX9_worth, 8, (some .long)),
  (yX9_steps, cX9_steps, 1, (some .int)),
  (yX9_stepOf, cX9_stepOf, 2, (some .int)),
  (yX9_rows, cX9_rows, 4, (some .int)),
  (yX9_goesRow, cX9_goesRow, 5, (some .boolean)),
  (yX9_findBest, cX9_findBest, 5, none),
  (yX9_best, cX9_best, 3, (some .int)),
  (yX9_top, cX9_top, 3, (some .long)),
  (yX9_freeRow, cX9_freeRow, 8, (some .int)),
  (yX9_soonest, cX9_soonest, 8, (some .int)),
  (yX9_power, cX9_power, 6, (some .long)),
  (yX9_luck, cX9_luck, 11, (some .long)),
  (yX9_reading, cX9_reading, 3, (some .int)),
  (yX9_back, cX9_back, 2, (some .int)),
  (yX9_areSo, cX9_areSo, 2, (some .boolean)),
  (yX9_plans, cX9_plans, 9, (some .int)),
  (yX9_kinds, cX9_kinds, 11, (some .int)),
  (yX9_sheet, cX9_sheet, 5, (some .int)),
  (yX9_lose, cX9_lose, 3, (some .int)),
  (yX9_put, cX9_put, 4, (some .int)),
  (yX9_cell, cX9_cell, 4, (some .long)),
  (yX9_copy, cX9_copy, 10, (some .int)),
  (yX9_begins, cX9_begins, 2, none),
  (yX9_tell, cX9_tell, 3, (some .int)),
  (yX9_hum, cX9_hum, 2, (some .int)),
  (yX9_as, cX9_as, 3, (some .int)),
  (yX9_trace, cX9_trace, 1, (some .int)),
  (yX9_fault, cX9_fault, 1, (some .int)),
  (yX9_many, cX9_many, 2, (some .int)),
  (yL_law, cL_law, 4, (some .boolean))]
def zLv : List Nat := [1, 1, 1, 1, 1, 2, 1, 2, 1, 1, 1, 4, 3, 2, 2, 1, 1, 1, 2, 1, 1, 1, 2, 2, 2, 1, 2, 1, 1, 1, 2, 1, 4, 3, 3, 1, 2, 2, 6, 6, 1, 5, 4, 3, 2, 1, 5, 4, 5, 2, 2, 2, 5, 5, 5, 5, 7, 7, 6, 3, 2, 1, 7, 6, 3, 2, 2, 2, 2, 5, 2, 2, 1, 1, 2, 1, 1, 1, 1, 1, 1, 1, 3, 5, 1, 2, 3, 4, 2, 1, 1, 1, 1, 1, 2, 2, 1, 1, 1, 2, 1, 5, 4, 3, 1, 2, 2, 2, 2, 2, 1, 2, 1, 2, 3, 4, 3, 3, 2, 5, 2, 2, 1, 5, 4, 5, 1, 1, 2, 5, 6, 7, 7, 4, 5, 1, 2, 2, 2, 1, 6, 5, 3, 3, 3, 3, 3, 1, 2, 2, 2, 1, 1, 2, 8]
/-- the words that stay good -/
def zGt : List Cond := lw_tbl.filter goodWord
def zNw : List Cond := [.methodLinkNest "HourRehearsal$Piece" 56 yX8_power "HourRehearsal", .fieldLinkNest "HourRehearsal$Search" 66 "HourRehearsal" "STEPS" "[I" "HourRehearsal"]
