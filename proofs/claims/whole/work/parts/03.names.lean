/-! ===== BEGIN printed: names, fields, word lists, decode rows ===== -/
def RX0 : String := "NightRiders$Chain"
def TX0 : u_T := fun k => match k with
  | 0 => ("NightRiders$Chain", "riders", "[I", true)
  | 1 => ("NightRiders$Chain", "froms", "[I", true)
  | 2 => ("NightRiders$Chain", "tos", "[I", true)
  | 3 => ("NightRiders$Chain", "starts", "[I", true)
  | 4 => ("NightRiders$Chain", "ends", "[I", true)
  | 5 => ("NightRiders$Chain", "length", "I", false)
  | 6 => ("NightRiders$Chain", "kind", "I", false)
  | _ => ("NightRiders$Chain", "goal", "I", false)
def tyX0 : Nat → FieldType := fun k => match k with
  | 0 => .array .int
  | 1 => .array .int
  | 2 => .array .int
  | 3 => .array .int
  | 4 => .array .int
  | 5 => .int
  | 6 => .int
  | _ => .int
abbrev wsX00 : List Cond := u_ws RX0 TX0 8
theorem nmX0 : ∀ a, a < 8 → ∀ b, b < 8 → a ≠ b → (TX0 a).2.1 ≠ (TX0 b).2.1 := by decide +kernel
theorem tyX0_ok : ∀ k, k < 8 → parseFieldDescriptor (TX0 k).2.2.1 = some (tyX0 k) := by decide +kernel
abbrev cX0_init : ByteArray := prog_2_method_1_code
def yX0_init : MethodName := ⟨RX0, "<init>", "()V"⟩
abbrev cX0_open : ByteArray := prog_2_method_2_code
def yX0_open : MethodName := ⟨RX0, "open", "(IIII)V"⟩
abbrev cX0_close : ByteArray := prog_2_method_3_code
def yX0_close : MethodName := ⟨RX0, "close", "(III)V"⟩
abbrev cX0_isRiddenBy : ByteArray := prog_2_method_4_code
def yX0_isRiddenBy : MethodName := ⟨RX0, "isRiddenBy", "(II)Z"⟩
abbrev cX0_comesFrom : ByteArray := prog_2_method_5_code
def yX0_comesFrom : MethodName := ⟨RX0, "comesFrom", "(II)Z"⟩
abbrev cX0_fromOf : ByteArray := prog_2_method_6_code
def yX0_fromOf : MethodName := ⟨RX0, "fromOf", "(I)I"⟩
abbrev cX0_lastEnd : ByteArray := prog_2_method_7_code
def yX0_lastEnd : MethodName := ⟨RX0, "lastEnd", "()I"⟩
abbrev cX0_handsOn : ByteArray := prog_2_method_8_code
def yX0_handsOn : MethodName := ⟨RX0, "handsOn", "(I)I"⟩
abbrev cX0_take : ByteArray := prog_2_method_9_code
def yX0_take : MethodName := ⟨RX0, "take", "(LNightRiders$Chain;)V"⟩
def RX1 : String := "NightRiders$Leg"
def TX1 : u_T := fun k => match k with
  | 0 => ("NightRiders$Leg", "rider", "I", true)
  | 1 => ("NightRiders$Leg", "from", "I", true)
  | 2 => ("NightRiders$Leg", "starts", "I", true)
  | 3 => ("NightRiders$Leg", "atAhead", "I", true)
  | 4 => ("NightRiders$Leg", "freeAhead", "I", true)
  | 5 => ("NightRiders$Leg", "to", "I", false)
  | 6 => ("NightRiders$Leg", "ends", "I", false)
  | _ => ("NightRiders$Leg", "failed", "Z", false)
def tyX1 : Nat → FieldType := fun k => match k with
  | 0 => .int
  | 1 => .int
  | 2 => .int
  | 3 => .int
  | 4 => .int
  | 5 => .int
  | 6 => .int
  | _ => .boolean
abbrev wsX10 : List Cond := u_ws RX1 TX1 8
theorem nmX1 : ∀ a, a < 8 → ∀ b, b < 8 → a ≠ b → (TX1 a).2.1 ≠ (TX1 b).2.1 := by decide +kernel
theorem tyX1_ok : ∀ k, k < 8 → parseFieldDescriptor (TX1 k).2.2.1 = some (tyX1 k) := by decide +kernel
abbrev cX1_init : ByteArray := prog_3_method_1_code
def yX1_init : MethodName := ⟨RX1, "<init>", "(IIIIIII)V"⟩
def RX2 : String := "NightRiders$Request"
def TX2 : u_T := fun k => match k with
  | 0 => ("NightRiders$Request", "kind", "I", true)
  | 1 => ("NightRiders$Request", "from", "I", true)
  | 2 => ("NightRiders$Request", "to", "I", true)
  | 3 => ("NightRiders$Request", "ready", "I", true)
  | 4 => ("NightRiders$Request", "cold", "I", true)
  | 5 => ("NightRiders$Request", "legs", "[LNightRiders$Leg;", true)
  | 6 => ("NightRiders$Request", "legCount", "I", false)
  | 7 => ("NightRiders$Request", "sent", "Z", false)
  | _ => ("NightRiders$Request", "lost", "Z", false)
def tyX2 : Nat → FieldType := fun k => match k with
  | 0 => .int
  | 1 => .int
  | 2 => .int
  | 3 => .int
  | 4 => .int
  | 5 => .array (.object "NightRiders$Leg")
  | 6 => .int
  | 7 => .boolean
  | _ => .boolean
abbrev wsX20 : List Cond := u_ws RX2 TX2 9
theorem nmX2 : ∀ a, a < 9 → ∀ b, b < 9 → a ≠ b → (TX2 a).2.1 ≠ (TX2 b).2.1 := by decide +kernel
theorem tyX2_ok : ∀ k, k < 9 → parseFieldDescriptor (TX2 k).2.2.1 = some (tyX2 k) := by decide +kernel
abbrev cX2_init : ByteArray := prog_4_method_1_code
def yX2_init : MethodName := ⟨RX2, "<init>", "(IIIII)V"⟩
abbrev cX2_legAt : ByteArray := prog_4_method_2_code
def yX2_legAt : MethodName := ⟨RX2, "legAt", "(I)LNightRiders$Leg;"⟩
abbrev cX2_addLeg : ByteArray := prog_4_method_3_code
def yX2_addLeg : MethodName := ⟨RX2, "addLeg", "(LNightRiders$Leg;)V"⟩
abbrev cX2_lastEnd : ByteArray := prog_4_method_4_code
def yX2_lastEnd : MethodName := ⟨RX2, "lastEnd", "()I"⟩
abbrev cX2_cameWarm : ByteArray := prog_4_method_5_code
def yX2_cameWarm : MethodName := ⟨RX2, "cameWarm", "()Z"⟩
def RX3 : String := "NightRiders$Rider"
def TX3 : u_T := fun k => match k with
  | 0 => ("NightRiders$Rider", "home", "I", true)
  | 1 => ("NightRiders$Rider", "area", "I", true)
  | 2 => ("NightRiders$Rider", "dutyFrom", "I", true)
  | 3 => ("NightRiders$Rider", "dutyTo", "I", true)
  | 4 => ("NightRiders$Rider", "kinds", "I", true)
  | 5 => ("NightRiders$Rider", "ways", "[I", true)
  | 6 => ("NightRiders$Rider", "at", "I", false)
  | 7 => ("NightRiders$Rider", "free", "I", false)
  | 8 => ("NightRiders$Rider", "legsRidden", "I", false)
  | 9 => ("NightRiders$Rider", "boxMinutes", "I", false)
  | _ => ("NightRiders$Rider", "failed", "Z", false)
def tyX3 : Nat → FieldType := fun k => match k with
  | 0 => .int
  | 1 => .int
  | 2 => .int
  | 3 => .int
  | 4 => .int
  | 5 => .array .int
  | 6 => .int
  | 7 => .int
  | 8 => .int
  | 9 => .int
  | _ => .boolean
abbrev wsX30 : List Cond := u_ws RX3 TX3 11
theorem nmX3 : ∀ a, a < 11 → ∀ b, b < 11 → a ≠ b → (TX3 a).2.1 ≠ (TX3 b).2.1 := by decide +kernel
theorem tyX3_ok : ∀ k, k < 11 → parseFieldDescriptor (TX3 k).2.2.1 = some (tyX3 k) := by decide +kernel
abbrev cX3_init : ByteArray := prog_5_method_1_code
def yX3_init : MethodName := ⟨RX3, "<init>", "(IIIII)V"⟩
abbrev cX3_carries : ByteArray := prog_5_method_2_code
def yX3_carries : MethodName := ⟨RX3, "carries", "(I)Z"⟩
abbrev cX3_isOnDuty : ByteArray := prog_5_method_3_code
def yX3_isOnDuty : MethodName := ⟨RX3, "isOnDuty", "(I)Z"⟩
abbrev cX3_shortenWays : ByteArray := prog_5_method_4_code
def yX3_shortenWays : MethodName := ⟨RX3, "shortenWays", "()V"⟩
def RX4 : String := "NightRiders"
def TX4 : u_T := fun k => match k with
  | 0 => ("NightRiders", "roads", "[I", true)
  | 1 => ("NightRiders", "riders", "[LNightRiders$Rider;", true)
  | 2 => ("NightRiders", "requests", "[LNightRiders$Request;", true)
  | 3 => ("NightRiders", "trial", "LNightRiders$Chain;", true)
  | 4 => ("NightRiders", "chosen", "LNightRiders$Chain;", true)
  | 5 => ("NightRiders", "placeCount", "I", false)
  | 6 => ("NightRiders", "riderCount", "I", false)
  | 7 => ("NightRiders", "requestCount", "I", false)
  | 8 => ("NightRiders", "resting", "I", false)
  | _ => ("NightRiders", "lastSent", "I", false)
def tyX4 : Nat → FieldType := fun k => match k with
  | 0 => .array .int
  | 1 => .array (.object "NightRiders$Rider")
  | 2 => .array (.object "NightRiders$Request")
  | 3 => .object "NightRiders$Chain"
  | 4 => .object "NightRiders$Chain"
  | 5 => .int
  | 6 => .int
  | 7 => .int
  | 8 => .int
  | _ => .int
abbrev wsX40 : List Cond := u_ws RX4 TX4 10
theorem nmX4 : ∀ a, a < 10 → ∀ b, b < 10 → a ≠ b → (TX4 a).2.1 ≠ (TX4 b).2.1 := by decide +kernel
theorem tyX4_ok : ∀ k, k < 10 → parseFieldDescriptor (TX4 k).2.2.1 = some (tyX4 k) := by decide +kernel
abbrev cX4_init : ByteArray := prog_1_method_1_code
def yX4_init : MethodName := ⟨RX4, "<init>", "()V"⟩
abbrev cX4_place : ByteArray := prog_1_method_2_code
def yX4_place : MethodName := ⟨RX4, "place", "()I"⟩
abbrev cX4_road : ByteArray := prog_1_method_3_code
def yX4_road : MethodName := ⟨RX4, "road", "(III)Z"⟩
abbrev cX4_rider : ByteArray := prog_1_method_4_code
def yX4_rider : MethodName := ⟨RX4, "rider", "(IIIII)I"⟩
abbrev cX4_rest : ByteArray := prog_1_method_5_code
def yX4_rest : MethodName := ⟨RX4, "rest", "(I)I"⟩
abbrev cX4_count : ByteArray := prog_1_method_6_code
def yX4_count : MethodName := ⟨RX4, "count", "(I)I"⟩
abbrev cX4_way : ByteArray := prog_1_method_7_code
def yX4_way : MethodName := ⟨RX4, "way", "(III)I"⟩
abbrev cX4_of : ByteArray := prog_1_method_8_code
def yX4_of : MethodName := ⟨RX4, "of", "(II)I"⟩
abbrev cX4_duty : ByteArray := prog_1_method_9_code
def yX4_duty : MethodName := ⟨RX4, "duty", "(II)I"⟩
abbrev cX4_bare : ByteArray := prog_1_method_10_code
def yX4_bare : MethodName := ⟨RX4, "bare", "(II)I"⟩
abbrev cX4_call : ByteArray := prog_1_method_11_code
def yX4_call : MethodName := ⟨RX4, "call", "(IIIII)I"⟩
abbrev cX4_best : ByteArray := prog_1_method_12_code
def yX4_best : MethodName := ⟨RX4, "best", "(I)I"⟩
abbrev cX4_send : ByteArray := prog_1_method_13_code
def yX4_send : MethodName := ⟨RX4, "send", "(I)I"⟩
abbrev cX4_told : ByteArray := prog_1_method_14_code
def yX4_told : MethodName := ⟨RX4, "told", "(II)I"⟩
abbrev cX4_leg : ByteArray := prog_1_method_15_code
def yX4_leg : MethodName := ⟨RX4, "leg", "(III)I"⟩
abbrev cX4_hand : ByteArray := prog_1_method_16_code
def yX4_hand : MethodName := ⟨RX4, "hand", "(II)I"⟩
abbrev cX4_fail : ByteArray := prog_1_method_17_code
def yX4_fail : MethodName := ⟨RX4, "fail", "(III)I"⟩
abbrev cX4_next : ByteArray := prog_1_method_18_code
def yX4_next : MethodName := ⟨RX4, "next", "(II)I"⟩
abbrev cX4_isMinute : ByteArray := prog_1_method_19_code
def yX4_isMinute : MethodName := ⟨RX4, "isMinute", "(I)Z"⟩
abbrev cX4_isKind : ByteArray := prog_1_method_20_code
def yX4_isKind : MethodName := ⟨RX4, "isKind", "(I)Z"⟩
abbrev cX4_isPlace : ByteArray := prog_1_method_21_code
def yX4_isPlace : MethodName := ⟨RX4, "isPlace", "(I)Z"⟩
abbrev cX4_areBits : ByteArray := prog_1_method_22_code
def yX4_areBits : MethodName := ⟨RX4, "areBits", "(II)Z"⟩
abbrev cX4_hasBit : ByteArray := prog_1_method_23_code
def yX4_hasBit : MethodName := ⟨RX4, "hasBit", "(II)Z"⟩
abbrev cX4_riderAt : ByteArray := prog_1_method_24_code
def yX4_riderAt : MethodName := ⟨RX4, "riderAt", "(I)LNightRiders$Rider;"⟩
abbrev cX4_requestAt : ByteArray := prog_1_method_25_code
def yX4_requestAt : MethodName := ⟨RX4, "requestAt", "(I)LNightRiders$Request;"⟩
abbrev cX4_wayOf : ByteArray := prog_1_method_26_code
def yX4_wayOf : MethodName := ⟨RX4, "wayOf", "(LNightRiders$Rider;II)I"⟩
abbrev cX4_settleWays : ByteArray := prog_1_method_27_code
def yX4_settleWays : MethodName := ⟨RX4, "settleWays", "(LNightRiders$Rider;)V"⟩
abbrev cX4_roadWithin : ByteArray := prog_1_method_28_code
def yX4_roadWithin : MethodName := ⟨RX4, "roadWithin", "(III)I"⟩
abbrev cX4_thereFrom : ByteArray := prog_1_method_29_code
def yX4_thereFrom : MethodName := ⟨RX4, "thereFrom", "(LNightRiders$Rider;I)I"⟩
abbrev cX4_countRequests : ByteArray := prog_1_method_30_code
def yX4_countRequests : MethodName := ⟨RX4, "countRequests", "(I)I"⟩
abbrev cX4_isCounted : ByteArray := prog_1_method_31_code
def yX4_isCounted : MethodName := ⟨RX4, "isCounted", "(LNightRiders$Request;I)Z"⟩
abbrev cX4_lastOnDuty : ByteArray := prog_1_method_32_code
def yX4_lastOnDuty : MethodName := ⟨RX4, "lastOnDuty", "(II)I"⟩
abbrev cX4_findChain : ByteArray := prog_1_method_33_code
def yX4_findChain : MethodName := ⟨RX4, "findChain", "(LNightRiders$Request;II)Z"⟩
abbrev cX4_tryRiders : ByteArray := prog_1_method_34_code
def yX4_tryRiders : MethodName := ⟨RX4, "tryRiders", "(III)V"⟩
abbrev cX4_isTooLate : ByteArray := prog_1_method_35_code
def yX4_isTooLate : MethodName := ⟨RX4, "isTooLate", "(I)Z"⟩
abbrev cX4_waitsUntil : ByteArray := prog_1_method_36_code
def yX4_waitsUntil : MethodName := ⟨RX4, "waitsUntil", "(II)Z"⟩
abbrev cX4_tryEnds : ByteArray := prog_1_method_37_code
def yX4_tryEnds : MethodName := ⟨RX4, "tryEnds", "(ILNightRiders$Rider;I)V"⟩
abbrev cX4_tryEnd : ByteArray := prog_1_method_38_code
def yX4_tryEnd : MethodName := ⟨RX4, "tryEnd", "(ILNightRiders$Rider;II)V"⟩
abbrev cX4_keepIfBetter : ByteArray := prog_1_method_39_code
def yX4_keepIfBetter : MethodName := ⟨RX4, "keepIfBetter", "()V"⟩
abbrev cX4_rideChosen : ByteArray := prog_1_method_40_code
def yX4_rideChosen : MethodName := ⟨RX4, "rideChosen", "(LNightRiders$Request;)V"⟩
abbrev cX4_mayFail : ByteArray := prog_1_method_41_code
def yX4_mayFail : MethodName := ⟨RX4, "mayFail", "(LNightRiders$Request;II)Z"⟩
abbrev cX4_dropLegsBehind : ByteArray := prog_1_method_42_code
def yX4_dropLegsBehind : MethodName := ⟨RX4, "dropLegsBehind", "(LNightRiders$Request;I)V"⟩
abbrev cX4_failLeg : ByteArray := prog_1_method_43_code
def yX4_failLeg : MethodName := ⟨RX4, "failLeg", "(LNightRiders$Leg;I)V"⟩
def RX5 : String := "NightRidersModel"
def TX5 : u_T := fun k => match k with
  | 0 => ("NightRidersModel", "roads", "[I", true)
  | 1 => ("NightRidersModel", "places", "I", false)
  | 2 => ("NightRidersModel", "home", "[I", true)
  | 3 => ("NightRidersModel", "area", "[I", true)
  | 4 => ("NightRidersModel", "dutyFrom", "[I", true)
  | 5 => ("NightRidersModel", "dutyTo", "[I", true)
  | 6 => ("NightRidersModel", "kinds", "[I", true)
  | 7 => ("NightRidersModel", "at", "[I", true)
  | 8 => ("NightRidersModel", "free", "[I", true)
  | 9 => ("NightRidersModel", "failed", "[Z", true)
  | 10 => ("NightRidersModel", "rode", "[I", true)
  | 11 => ("NightRidersModel", "minutes", "[I", true)
  | 12 => ("NightRidersModel", "riders", "I", false)
  | 13 => ("NightRidersModel", "rest", "I", false)
  | 14 => ("NightRidersModel", "kind", "[I", true)
  | 15 => ("NightRidersModel", "from", "[I", true)
  | 16 => ("NightRidersModel", "to", "[I", true)
  | 17 => ("NightRidersModel", "ready", "[I", true)
  | 18 => ("NightRidersModel", "cold", "[I", true)
  | 19 => ("NightRidersModel", "state", "[I", true)
  | 20 => ("NightRidersModel", "calls", "I", false)
  | 21 => ("NightRidersModel", "latest", "I", false)
  | 22 => ("NightRidersModel", "legs", "[I", true)
  | 23 => ("NightRidersModel", "legMany", "[I", true)
  | 24 => ("NightRidersModel", "thrown", "I", false)
  | 25 => ("NightRidersModel", "far", "[I", true)
  | 26 => ("NightRidersModel", "tryRider", "[I", true)
  | 27 => ("NightRidersModel", "tryPlace", "[I", true)
  | 28 => ("NightRidersModel", "tryStart", "[I", true)
  | 29 => ("NightRidersModel", "tryEnd", "[I", true)
  | 30 => ("NightRidersModel", "bestRider", "[I", true)
  | 31 => ("NightRidersModel", "bestPlace", "[I", true)
  | 32 => ("NightRidersModel", "bestStart", "[I", true)
  | 33 => ("NightRidersModel", "bestEnd", "[I", true)
  | _ => ("NightRidersModel", "bestMany", "I", false)
def tyX5 : Nat → FieldType := fun k => match k with
  | 0 => .array .int
  | 1 => .int
  | 2 => .array .int
  | 3 => .array .int
  | 4 => .array .int
  | 5 => .array .int
  | 6 => .array .int
  | 7 => .array .int
  | 8 => .array .int
  | 9 => .array .boolean
  | 10 => .array .int
  | 11 => .array .int
  | 12 => .int
  | 13 => .int
  | 14 => .array .int
  | 15 => .array .int
  | 16 => .array .int
  | 17 => .array .int
  | 18 => .array .int
  | 19 => .array .int
  | 20 => .int
  | 21 => .int
  | 22 => .array .int
  | 23 => .array .int
  | 24 => .int
  | 25 => .array .int
  | 26 => .array .int
  | 27 => .array .int
  | 28 => .array .int
  | 29 => .array .int
  | 30 => .array .int
  | 31 => .array .int
  | 32 => .array .int
  | 33 => .array .int
  | _ => .int
abbrev wsX50 : List Cond := u_ws RX5 TX5 35
theorem nmX5 : ∀ a, a < 35 → ∀ b, b < 35 → a ≠ b → (TX5 a).2.1 ≠ (TX5 b).2.1 := by decide +kernel
theorem tyX5_ok : ∀ k, k < 35 → parseFieldDescriptor (TX5 k).2.2.1 = some (tyX5 k) := by decide +kernel
abbrev cX5_init : ByteArray := prog_7_method_1_code
def yX5_init : MethodName := ⟨RX5, "<init>", "()V"⟩
abbrev cX5_thrown : ByteArray := prog_7_method_2_code
def yX5_thrown : MethodName := ⟨RX5, "thrown", "()I"⟩
abbrev cX5_in : ByteArray := prog_7_method_3_code
def yX5_in : MethodName := ⟨RX5, "in", "(III)Z"⟩
abbrev cX5_isPlace : ByteArray := prog_7_method_4_code
def yX5_isPlace : MethodName := ⟨RX5, "isPlace", "(I)Z"⟩
abbrev cX5_isRider : ByteArray := prog_7_method_5_code
def yX5_isRider : MethodName := ⟨RX5, "isRider", "(I)Z"⟩
abbrev cX5_isCall : ByteArray := prog_7_method_6_code
def yX5_isCall : MethodName := ⟨RX5, "isCall", "(I)Z"⟩
abbrev cX5_place : ByteArray := prog_7_method_7_code
def yX5_place : MethodName := ⟨RX5, "place", "()I"⟩
abbrev cX5_road : ByteArray := prog_7_method_8_code
def yX5_road : MethodName := ⟨RX5, "road", "(III)Z"⟩
abbrev cX5_rider : ByteArray := prog_7_method_9_code
def yX5_rider : MethodName := ⟨RX5, "rider", "(IIIII)I"⟩
abbrev cX5_rest : ByteArray := prog_7_method_10_code
def yX5_rest : MethodName := ⟨RX5, "rest", "(I)I"⟩
abbrev cX5_wayOf : ByteArray := prog_7_method_11_code
def yX5_wayOf : MethodName := ⟨RX5, "wayOf", "(III)I"⟩
abbrev cX5_way : ByteArray := prog_7_method_12_code
def yX5_way : MethodName := ⟨RX5, "way", "(III)I"⟩
abbrev cX5_endOf : ByteArray := prog_7_method_13_code
def yX5_endOf : MethodName := ⟨RX5, "endOf", "(I)I"⟩
abbrev cX5_count : ByteArray := prog_7_method_14_code
def yX5_count : MethodName := ⟨RX5, "count", "(I)I"⟩
abbrev cX5_of : ByteArray := prog_7_method_15_code
def yX5_of : MethodName := ⟨RX5, "of", "(II)I"⟩
abbrev cX5_mayCarry : ByteArray := prog_7_method_16_code
def yX5_mayCarry : MethodName := ⟨RX5, "mayCarry", "(II)Z"⟩
abbrev cX5_onDuty : ByteArray := prog_7_method_17_code
def yX5_onDuty : MethodName := ⟨RX5, "onDuty", "(II)I"⟩
abbrev cX5_duty : ByteArray := prog_7_method_18_code
def yX5_duty : MethodName := ⟨RX5, "duty", "(II)I"⟩
abbrev cX5_bare : ByteArray := prog_7_method_19_code
def yX5_bare : MethodName := ⟨RX5, "bare", "(II)I"⟩
abbrev cX5_isBetter : ByteArray := prog_7_method_20_code
def yX5_isBetter : MethodName := ⟨RX5, "isBetter", "(I)Z"⟩
abbrev cX5_tryLeg : ByteArray := prog_7_method_21_code
def yX5_tryLeg : MethodName := ⟨RX5, "tryLeg", "(IIIIII)V"⟩
abbrev cX5_findBest : ByteArray := prog_7_method_22_code
def yX5_findBest : MethodName := ⟨RX5, "findBest", "(IIII)Z"⟩
abbrev cX5_ride : ByteArray := prog_7_method_23_code
def yX5_ride : MethodName := ⟨RX5, "ride", "(II)V"⟩
abbrev cX5_call : ByteArray := prog_7_method_24_code
def yX5_call : MethodName := ⟨RX5, "call", "(IIIII)I"⟩
abbrev cX5_best : ByteArray := prog_7_method_25_code
def yX5_best : MethodName := ⟨RX5, "best", "(I)I"⟩
abbrev cX5_send : ByteArray := prog_7_method_26_code
def yX5_send : MethodName := ⟨RX5, "send", "(I)I"⟩
abbrev cX5_told : ByteArray := prog_7_method_27_code
def yX5_told : MethodName := ⟨RX5, "told", "(II)I"⟩
abbrev cX5_leg : ByteArray := prog_7_method_28_code
def yX5_leg : MethodName := ⟨RX5, "leg", "(III)I"⟩
abbrev cX5_hand : ByteArray := prog_7_method_29_code
def yX5_hand : MethodName := ⟨RX5, "hand", "(II)I"⟩
abbrev cX5_fail : ByteArray := prog_7_method_30_code
def yX5_fail : MethodName := ⟨RX5, "fail", "(III)I"⟩
abbrev cX5_next : ByteArray := prog_7_method_31_code
def yX5_next : MethodName := ⟨RX5, "next", "(II)I"⟩
def RJx145de : String := "java/io/Serializable"
def TJx145de : u_T := fun k => match k with
  | _ => ("", "", "", false)
def tyJx145de : Nat → FieldType := fun k => match k with
  | _ => .int
abbrev wsJx145de0 : List Cond := u_ws RJx145de TJx145de 0
theorem nmJx145de : ∀ a, a < 0 → ∀ b, b < 0 → a ≠ b → (TJx145de a).2.1 ≠ (TJx145de b).2.1 := by decide +kernel
theorem tyJx145de_ok : ∀ k, k < 0 → parseFieldDescriptor (TJx145de k).2.2.1 = some (tyJx145de k) := by decide +kernel
def RJ9 : String := "java/lang/Math"
def TJ9 : u_T := fun k => match k with
  | _ => ("", "", "", false)
def tyJ9 : Nat → FieldType := fun k => match k with
  | _ => .int
abbrev wsJ90 : List Cond := u_ws RJ9 TJ9 0
theorem nmJ9 : ∀ a, a < 0 → ∀ b, b < 0 → a ≠ b → (TJ9 a).2.1 ≠ (TJ9 b).2.1 := by decide +kernel
theorem tyJ9_ok : ∀ k, k < 0 → parseFieldDescriptor (TJ9 k).2.2.1 = some (tyJ9 k) := by decide +kernel
abbrev cJ9_max_7cf53 : ByteArray := prog_10_method_65_code
def yJ9_max_7cf53 : MethodName := ⟨RJ9, "max", "(II)I"⟩
def RJ0 : String := "java/lang/String"
def TJ0 : u_T := fun k => match k with
  | _ => ("", "", "", false)
def tyJ0 : Nat → FieldType := fun k => match k with
  | _ => .int
abbrev wsJ00 : List Cond := u_ws RJ0 TJ0 0
theorem nmJ0 : ∀ a, a < 0 → ∀ b, b < 0 → a ≠ b → (TJ0 a).2.1 ≠ (TJ0 b).2.1 := by decide +kernel
theorem tyJ0_ok : ∀ k, k < 0 → parseFieldDescriptor (TJ0 k).2.2.1 = some (tyJ0 k) := by decide +kernel
def RL : String := "NightRidersLaw"
abbrev cL_of : ByteArray := method_3_code
def yL_of : MethodName := ⟨RL, "of", "(LNightRiders;II[J)I"⟩
abbrev cL_law : ByteArray := code
def yL_law : MethodName := ⟨RL, "law", "([I)Z"⟩
def wsX0_init : List Cond := .code yX0_init cX0_init 1 none :: ([.methodLink RX0 3 objectInit, .instanceMethod objectInit, .code objectInit ⟨#[0xb1]⟩ 1 none, .arrayClass .int, .fieldLink RX0 9 "NightRiders$Chain" "riders" "[I", .fieldLink RX0 15 "NightRiders$Chain" "froms" "[I", .fieldLink RX0 18 "NightRiders$Chain" "tos" "[I", .fieldLink RX0 21 "NightRiders$Chain" "starts" "[I", .fieldLink RX0 24 "NightRiders$Chain" "ends" "[I", .fieldLink RX0 27 "NightRiders$Chain" "length" "I", .fieldLink RX0 31 "NightRiders$Chain" "kind" "I", .fieldLink RX0 34 "NightRiders$Chain" "goal" "I"] ++ wsX00)
def wsX0_open : List Cond := .code yX0_open cX0_open 5 none :: ([.fieldLink RX0 9 "NightRiders$Chain" "riders" "[I", .fieldLink RX0 15 "NightRiders$Chain" "froms" "[I", .fieldLink RX0 21 "NightRiders$Chain" "starts" "[I"] ++ wsX00)
def wsX0_close : List Cond := .code yX0_close cX0_close 4 none :: ([.fieldLink RX0 18 "NightRiders$Chain" "tos" "[I", .fieldLink RX0 24 "NightRiders$Chain" "ends" "[I", .fieldLink RX0 27 "NightRiders$Chain" "length" "I"] ++ wsX00)
def wsX0_isRiddenBy : List Cond := .code yX0_isRiddenBy cX0_isRiddenBy 4 (some .boolean) :: ([.fieldLink RX0 9 "NightRiders$Chain" "riders" "[I"] ++ wsX00)
def wsX0_comesFrom : List Cond := .code yX0_comesFrom cX0_comesFrom 4 (some .boolean) :: ([.fieldLink RX0 15 "NightRiders$Chain" "froms" "[I"] ++ wsX00)
def wsX0_fromOf : List Cond := .code yX0_fromOf cX0_fromOf 2 (some .int) :: ([.fieldLink RX0 15 "NightRiders$Chain" "froms" "[I"] ++ wsX00)
def wsX0_lastEnd : List Cond := .code yX0_lastEnd cX0_lastEnd 1 (some .int) :: ([.fieldLink RX0 27 "NightRiders$Chain" "length" "I", .fieldLink RX0 24 "NightRiders$Chain" "ends" "[I"] ++ wsX00)
def wsX0_handsOn : List Cond := .code yX0_handsOn cX0_handsOn 2 (some .int) :: ([.fieldLink RX0 27 "NightRiders$Chain" "length" "I", .fieldLink RX0 21 "NightRiders$Chain" "starts" "[I", .methodLink RX0 37 yX0_lastEnd, .instanceMethod yX0_lastEnd, .selects RX0 yX0_lastEnd yX0_lastEnd, .initialized RX0, .code yX0_lastEnd cX0_lastEnd 1 (some .int), .fieldLink RX0 24 "NightRiders$Chain" "ends" "[I"] ++ wsX00)
def wsX0_take : List Cond := .code yX0_take cX0_take 3 none :: ([.fieldLink RX0 9 "NightRiders$Chain" "riders" "[I", .fieldLink RX0 15 "NightRiders$Chain" "froms" "[I", .fieldLink RX0 18 "NightRiders$Chain" "tos" "[I", .fieldLink RX0 21 "NightRiders$Chain" "starts" "[I", .fieldLink RX0 24 "NightRiders$Chain" "ends" "[I", .fieldLink RX0 27 "NightRiders$Chain" "length" "I"] ++ wsX00)
def wsX1_init : List Cond := .code yX1_init cX1_init 8 none :: ([.methodLink RX1 1 objectInit, .instanceMethod objectInit, .code objectInit ⟨#[0xb1]⟩ 1 none, .fieldLink RX1 7 "NightRiders$Leg" "failed" "Z", .fieldLink RX1 13 "NightRiders$Leg" "rider" "I", .fieldLink RX1 17 "NightRiders$Leg" "from" "I", .fieldLink RX1 20 "NightRiders$Leg" "to" "I", .fieldLink RX1 23 "NightRiders$Leg" "starts" "I", .fieldLink RX1 26 "NightRiders$Leg" "ends" "I", .fieldLink RX1 29 "NightRiders$Leg" "atAhead" "I", .fieldLink RX1 32 "NightRiders$Leg" "freeAhead" "I"] ++ wsX10)
def wsX2_init : List Cond := .code yX2_init cX2_init 6 none :: ([.methodLink RX2 3 objectInit, .instanceMethod objectInit, .code objectInit ⟨#[0xb1]⟩ 1 none, .classLink RX2 9 RX1, .fieldLink RX2 11 "NightRiders$Request" "legs" "[LNightRiders$Leg;", .fieldLink RX2 17 "NightRiders$Request" "legCount" "I", .fieldLink RX2 21 "NightRiders$Request" "sent" "Z", .fieldLink RX2 25 "NightRiders$Request" "lost" "Z", .fieldLink RX2 28 "NightRiders$Request" "kind" "I", .fieldLink RX2 31 "NightRiders$Request" "from" "I", .fieldLink RX2 34 "NightRiders$Request" "to" "I", .fieldLink RX2 37 "NightRiders$Request" "ready" "I", .fieldLink RX2 40 "NightRiders$Request" "cold" "I"] ++ wsX20)
def wsX2_legAt : List Cond := .code yX2_legAt cX2_legAt 2 (some (.object "NightRiders$Leg")) :: ([.fieldLink RX2 17 "NightRiders$Request" "legCount" "I", .fieldLink RX2 11 "NightRiders$Request" "legs" "[LNightRiders$Leg;"] ++ wsX20)
def wsX2_addLeg : List Cond := .code yX2_addLeg cX2_addLeg 2 none :: ([.fieldLink RX2 17 "NightRiders$Request" "legCount" "I", .fieldLink RX2 11 "NightRiders$Request" "legs" "[LNightRiders$Leg;"] ++ wsX20)
def wsX2_lastEnd : List Cond := .code yX2_lastEnd cX2_lastEnd 2 (some .int) :: ([.fieldLink RX2 17 "NightRiders$Request" "legCount" "I", .fieldLink RX2 47 "NightRiders$Leg" "ends" "I", .methodLink RX2 43 yX2_legAt, .instanceMethod yX2_legAt, .selects RX2 yX2_legAt yX2_legAt, .initialized RX2, .code yX2_legAt cX2_legAt 2 (some (.object "NightRiders$Leg")), .fieldLink RX2 11 "NightRiders$Request" "legs" "[LNightRiders$Leg;"] ++ wsX20 ++ wsX10)
def wsX2_cameWarm : List Cond := .code yX2_cameWarm cX2_cameWarm 1 (some .boolean) :: ([.fieldLink RX2 21 "NightRiders$Request" "sent" "Z", .fieldLink RX2 25 "NightRiders$Request" "lost" "Z", .fieldLink RX2 37 "NightRiders$Request" "ready" "I", .fieldLink RX2 40 "NightRiders$Request" "cold" "I", .methodLink RX2 50 yX2_lastEnd, .instanceMethod yX2_lastEnd, .selects RX2 yX2_lastEnd yX2_lastEnd, .initialized RX2, .code yX2_lastEnd cX2_lastEnd 2 (some .int), .fieldLink RX2 17 "NightRiders$Request" "legCount" "I", .fieldLink RX2 47 "NightRiders$Leg" "ends" "I", .methodLink RX2 43 yX2_legAt, .instanceMethod yX2_legAt, .selects RX2 yX2_legAt yX2_legAt, .code yX2_legAt cX2_legAt 2 (some (.object "NightRiders$Leg")), .fieldLink RX2 11 "NightRiders$Request" "legs" "[LNightRiders$Leg;"] ++ wsX20 ++ wsX10)
def wsX3_init : List Cond := .code yX3_init cX3_init 6 none :: ([.methodLink RX3 3 objectInit, .instanceMethod objectInit, .code objectInit ⟨#[0xb1]⟩ 1 none, .arrayClass .int, .fieldLink RX3 9 "NightRiders$Rider" "ways" "[I", .fieldLink RX3 15 "NightRiders$Rider" "legsRidden" "I", .fieldLink RX3 19 "NightRiders$Rider" "boxMinutes" "I", .fieldLink RX3 22 "NightRiders$Rider" "failed" "Z", .fieldLink RX3 26 "NightRiders$Rider" "home" "I", .fieldLink RX3 29 "NightRiders$Rider" "area" "I", .fieldLink RX3 32 "NightRiders$Rider" "dutyFrom" "I", .fieldLink RX3 35 "NightRiders$Rider" "dutyTo" "I", .fieldLink RX3 38 "NightRiders$Rider" "kinds" "I", .fieldLink RX3 41 "NightRiders$Rider" "at" "I", .fieldLink RX3 44 "NightRiders$Rider" "free" "I"] ++ wsX30)
def wsX4_hasBit : List Cond := .code yX4_hasBit cX4_hasBit 2 (some .boolean) :: ([])
def wsX3_carries : List Cond := .code yX3_carries cX3_carries 2 (some .boolean) :: ([.fieldLink RX3 22 "NightRiders$Rider" "failed" "Z", .fieldLink RX3 38 "NightRiders$Rider" "kinds" "I", .static yX4_hasBit, .initialized RX4, .code yX4_hasBit cX4_hasBit 2 (some .boolean)] ++ wsX30)
def wsX3_isOnDuty : List Cond := .code yX3_isOnDuty cX3_isOnDuty 2 (some .boolean) :: ([.fieldLink RX3 32 "NightRiders$Rider" "dutyFrom" "I", .fieldLink RX3 35 "NightRiders$Rider" "dutyTo" "I"] ++ wsX30)
def wsX3_shortenWays : List Cond := .code yX3_shortenWays cX3_shortenWays 7 none :: ([.fieldLink RX3 9 "NightRiders$Rider" "ways" "[I"] ++ wsX30)
def wsX4_init_r1 : List Cond := [Cond.methodLink RX4 3 objectInit, Cond.instanceMethod objectInit, Cond.code objectInit ⟨#[0xb1]⟩ 1 none, Cond.arrayClass .int, Cond.fieldLink RX4 9 "NightRiders" "roads" "[I", Cond.classLink RX4 13 RX3, Cond.fieldLink RX4 15 "NightRiders" "riders" "[LNightRiders$Rider;", Cond.classLink RX4 19 RX2, Cond.fieldLink RX4 21 "NightRiders" "requests" "[LNightRiders$Request;", Cond.classLink RX4 25 RX0, Cond.instantiable RX0 8, Cond.initialized RX0, Cond.fieldLink RX4 28 "NightRiders" "trial" "LNightRiders$Chain;", Cond.fieldLink RX4 32 "NightRiders" "chosen" "LNightRiders$Chain;", Cond.fieldLink RX4 35 "NightRiders" "placeCount" "I", Cond.fieldLink RX4 39 "NightRiders" "riderCount" "I", Cond.fieldLink RX4 42 "NightRiders" "requestCount" "I", Cond.fieldLink RX4 45 "NightRiders" "resting" "I", Cond.fieldLink RX4 48 "NightRiders" "lastSent" "I", Cond.instanceMethod yX0_init, Cond.code yX0_init cX0_init 1 none, Cond.methodLink RX0 3 objectInit, Cond.fieldLink RX0 9 "NightRiders$Chain" "riders" "[I", Cond.fieldLink RX0 15 "NightRiders$Chain" "froms" "[I"]
def wsX4_init_r2 : List Cond := [Cond.fieldLink RX0 18 "NightRiders$Chain" "tos" "[I", Cond.fieldLink RX0 21 "NightRiders$Chain" "starts" "[I", Cond.fieldLink RX0 24 "NightRiders$Chain" "ends" "[I", Cond.fieldLink RX0 27 "NightRiders$Chain" "length" "I", Cond.fieldLink RX0 31 "NightRiders$Chain" "kind" "I", Cond.fieldLink RX0 34 "NightRiders$Chain" "goal" "I"]
def wsX4_init : List Cond := .code yX4_init cX4_init 1 none :: ((wsX4_init_r1 ++ wsX4_init_r2) ++ wsX40 ++ wsX00)
def wsX4_place : List Cond := .code yX4_place cX4_place 1 (some .int) :: ([.fieldLink RX4 35 "NightRiders" "placeCount" "I"] ++ wsX40)
def wsX4_isPlace : List Cond := .code yX4_isPlace cX4_isPlace 2 (some .boolean) :: ([.fieldLink RX4 35 "NightRiders" "placeCount" "I"] ++ wsX40)
def wsX4_riderAt : List Cond := .code yX4_riderAt cX4_riderAt 2 (some (.object "NightRiders$Rider")) :: ([.fieldLink RX4 39 "NightRiders" "riderCount" "I", .fieldLink RX4 15 "NightRiders" "riders" "[LNightRiders$Rider;"] ++ wsX40)
def wsX4_roadWithin : List Cond := .code yX4_roadWithin cX4_roadWithin 5 (some .int) :: ([.fieldLink RX4 9 "NightRiders" "roads" "[I", .methodLink RX4 51 yX4_isPlace, .instanceMethod yX4_isPlace, .selects RX4 yX4_isPlace yX4_isPlace, .initialized RX4, .code yX4_isPlace cX4_isPlace 2 (some .boolean), .fieldLink RX4 35 "NightRiders" "placeCount" "I", .methodLink RX4 67 yX4_hasBit, .static yX4_hasBit, .code yX4_hasBit cX4_hasBit 2 (some .boolean)] ++ wsX40)
def wsX4_settleWays : List Cond := .code yX4_settleWays cX4_settleWays 4 none :: ([.fieldLink RX4 214 "NightRiders$Rider" "ways" "[I", .fieldLink RX4 110 "NightRiders$Rider" "area" "I", .methodLink RX4 217 yX4_roadWithin, .instanceMethod yX4_roadWithin, .selects RX4 yX4_roadWithin yX4_roadWithin, .initialized RX4, .code yX4_roadWithin cX4_roadWithin 5 (some .int), .fieldLink RX4 9 "NightRiders" "roads" "[I", .methodLink RX4 51 yX4_isPlace, .instanceMethod yX4_isPlace, .selects RX4 yX4_isPlace yX4_isPlace, .code yX4_isPlace cX4_isPlace 2 (some .boolean), .fieldLink RX4 35 "NightRiders" "placeCount" "I", .methodLink RX4 67 yX4_hasBit, .static yX4_hasBit, .code yX4_hasBit cX4_hasBit 2 (some .boolean), .methodLink RX4 221 yX3_shortenWays, .instanceMethod yX3_shortenWays, .selects RX3 yX3_shortenWays yX3_shortenWays, .initialized RX3, .code yX3_shortenWays cX3_shortenWays 7 none, .fieldLink RX3 9 "NightRiders$Rider" "ways" "[I"] ++ wsX30 ++ wsX40)
def wsX4_road_r1 : List Cond := [Cond.fieldLink RX4 9 "NightRiders" "roads" "[I", Cond.fieldLink RX4 39 "NightRiders" "riderCount" "I", Cond.methodLink RX4 51 yX4_isPlace, Cond.instanceMethod yX4_isPlace, Cond.selects RX4 yX4_isPlace yX4_isPlace, Cond.initialized RX4, Cond.code yX4_isPlace cX4_isPlace 2 (some .boolean), Cond.fieldLink RX4 35 "NightRiders" "placeCount" "I", Cond.methodLink RX4 55 yX4_riderAt, Cond.instanceMethod yX4_riderAt, Cond.selects RX4 yX4_riderAt yX4_riderAt, Cond.code yX4_riderAt cX4_riderAt 2 (some (.object "NightRiders$Rider")), Cond.fieldLink RX4 15 "NightRiders" "riders" "[LNightRiders$Rider;", Cond.methodLink RX4 59 yX4_settleWays, Cond.instanceMethod yX4_settleWays, Cond.selects RX4 yX4_settleWays yX4_settleWays, Cond.code yX4_settleWays cX4_settleWays 4 none, Cond.fieldLink RX4 214 "NightRiders$Rider" "ways" "[I", Cond.fieldLink RX4 110 "NightRiders$Rider" "area" "I", Cond.methodLink RX4 217 yX4_roadWithin, Cond.instanceMethod yX4_roadWithin, Cond.selects RX4 yX4_roadWithin yX4_roadWithin, Cond.code yX4_roadWithin cX4_roadWithin 5 (some .int), Cond.methodLink RX4 67 yX4_hasBit]
def wsX4_road_r2 : List Cond := [Cond.static yX4_hasBit, Cond.code yX4_hasBit cX4_hasBit 2 (some .boolean), Cond.methodLink RX4 221 yX3_shortenWays, Cond.instanceMethod yX3_shortenWays, Cond.selects RX3 yX3_shortenWays yX3_shortenWays, Cond.initialized RX3, Cond.code yX3_shortenWays cX3_shortenWays 7 none, Cond.fieldLink RX3 9 "NightRiders$Rider" "ways" "[I"]
def wsX4_road : List Cond := .code yX4_road cX4_road 6 (some .boolean) :: ((wsX4_road_r1 ++ wsX4_road_r2) ++ wsX40 ++ wsX30)
def wsX4_areBits : List Cond := .code yX4_areBits cX4_areBits 2 (some .boolean) :: ([])
def wsX4_isMinute : List Cond := .code yX4_isMinute cX4_isMinute 1 (some .boolean) :: ([])
def wsX4_rider_r1 : List Cond := [Cond.fieldLink RX4 39 "NightRiders" "riderCount" "I", Cond.fieldLink RX4 35 "NightRiders" "placeCount" "I", Cond.classLink RX4 13 RX3, Cond.instantiable RX3 11, Cond.initialized RX3, Cond.fieldLink RX4 15 "NightRiders" "riders" "[LNightRiders$Rider;", Cond.methodLink RX4 51 yX4_isPlace, Cond.instanceMethod yX4_isPlace, Cond.selects RX4 yX4_isPlace yX4_isPlace, Cond.initialized RX4, Cond.code yX4_isPlace cX4_isPlace 2 (some .boolean), Cond.methodLink RX4 63 yX4_areBits, Cond.static yX4_areBits, Cond.code yX4_areBits cX4_areBits 2 (some .boolean), Cond.methodLink RX4 67 yX4_hasBit, Cond.static yX4_hasBit, Cond.code yX4_hasBit cX4_hasBit 2 (some .boolean), Cond.methodLink RX4 70 yX4_isMinute, Cond.static yX4_isMinute, Cond.code yX4_isMinute cX4_isMinute 1 (some .boolean), Cond.methodLink RX4 73 yX3_init, Cond.instanceMethod yX3_init, Cond.code yX3_init cX3_init 6 none, Cond.methodLink RX3 3 objectInit]
def wsX4_rider_r2 : List Cond := [Cond.instanceMethod objectInit, Cond.code objectInit ⟨#[0xb1]⟩ 1 none, Cond.arrayClass .int, Cond.fieldLink RX3 9 "NightRiders$Rider" "ways" "[I", Cond.fieldLink RX3 15 "NightRiders$Rider" "legsRidden" "I", Cond.fieldLink RX3 19 "NightRiders$Rider" "boxMinutes" "I", Cond.fieldLink RX3 22 "NightRiders$Rider" "failed" "Z", Cond.fieldLink RX3 26 "NightRiders$Rider" "home" "I", Cond.fieldLink RX3 29 "NightRiders$Rider" "area" "I", Cond.fieldLink RX3 32 "NightRiders$Rider" "dutyFrom" "I", Cond.fieldLink RX3 35 "NightRiders$Rider" "dutyTo" "I", Cond.fieldLink RX3 38 "NightRiders$Rider" "kinds" "I", Cond.fieldLink RX3 41 "NightRiders$Rider" "at" "I", Cond.fieldLink RX3 44 "NightRiders$Rider" "free" "I", Cond.methodLink RX4 59 yX4_settleWays, Cond.instanceMethod yX4_settleWays, Cond.selects RX4 yX4_settleWays yX4_settleWays, Cond.code yX4_settleWays cX4_settleWays 4 none, Cond.fieldLink RX4 214 "NightRiders$Rider" "ways" "[I", Cond.fieldLink RX4 110 "NightRiders$Rider" "area" "I", Cond.methodLink RX4 217 yX4_roadWithin, Cond.instanceMethod yX4_roadWithin, Cond.selects RX4 yX4_roadWithin yX4_roadWithin, Cond.code yX4_roadWithin cX4_roadWithin 5 (some .int)]
def wsX4_rider_r3 : List Cond := [Cond.fieldLink RX4 9 "NightRiders" "roads" "[I", Cond.methodLink RX4 221 yX3_shortenWays, Cond.instanceMethod yX3_shortenWays, Cond.selects RX3 yX3_shortenWays yX3_shortenWays, Cond.code yX3_shortenWays cX3_shortenWays 7 none]
def wsX4_rider : List Cond := .code yX4_rider cX4_rider 7 (some .int) :: ((wsX4_rider_r1 ++ (wsX4_rider_r2 ++ wsX4_rider_r3)) ++ wsX40 ++ wsX30)
def wsX4_rest : List Cond := .code yX4_rest cX4_rest 3 (some .int) :: ([.fieldLink RX4 45 "NightRiders" "resting" "I"] ++ wsX40)
def wsX4_requestAt : List Cond := .code yX4_requestAt cX4_requestAt 2 (some (.object "NightRiders$Request")) :: ([.fieldLink RX4 42 "NightRiders" "requestCount" "I", .fieldLink RX4 21 "NightRiders" "requests" "[LNightRiders$Request;"] ++ wsX40)
def wsX4_isCounted : List Cond := .code yX4_isCounted cX4_isCounted 2 (some .boolean) :: ([.fieldLink RX4 141 "NightRiders$Request" "sent" "Z", .fieldLink RX4 172 "NightRiders$Request" "lost" "Z", .methodLink RX4 231 yX2_cameWarm, .instanceMethod yX2_cameWarm, .selects RX2 yX2_cameWarm yX2_cameWarm, .initialized RX2, .code yX2_cameWarm cX2_cameWarm 1 (some .boolean), .fieldLink RX2 21 "NightRiders$Request" "sent" "Z", .fieldLink RX2 25 "NightRiders$Request" "lost" "Z", .fieldLink RX2 37 "NightRiders$Request" "ready" "I", .fieldLink RX2 40 "NightRiders$Request" "cold" "I", .methodLink RX2 50 yX2_lastEnd, .instanceMethod yX2_lastEnd, .selects RX2 yX2_lastEnd yX2_lastEnd, .code yX2_lastEnd cX2_lastEnd 2 (some .int), .fieldLink RX2 17 "NightRiders$Request" "legCount" "I", .fieldLink RX2 47 "NightRiders$Leg" "ends" "I", .methodLink RX2 43 yX2_legAt, .instanceMethod yX2_legAt, .selects RX2 yX2_legAt yX2_legAt, .code yX2_legAt cX2_legAt 2 (some (.object "NightRiders$Leg")), .fieldLink RX2 11 "NightRiders$Request" "legs" "[LNightRiders$Leg;"] ++ wsX20 ++ wsX10)
def wsX4_countRequests_r1 : List Cond := [Cond.fieldLink RX4 42 "NightRiders" "requestCount" "I", Cond.methodLink RX4 137 yX4_requestAt, Cond.instanceMethod yX4_requestAt, Cond.selects RX4 yX4_requestAt yX4_requestAt, Cond.initialized RX4, Cond.code yX4_requestAt cX4_requestAt 2 (some (.object "NightRiders$Request")), Cond.fieldLink RX4 21 "NightRiders" "requests" "[LNightRiders$Request;", Cond.methodLink RX4 227 yX4_isCounted, Cond.static yX4_isCounted, Cond.code yX4_isCounted cX4_isCounted 2 (some .boolean), Cond.fieldLink RX4 141 "NightRiders$Request" "sent" "Z", Cond.fieldLink RX4 172 "NightRiders$Request" "lost" "Z", Cond.methodLink RX4 231 yX2_cameWarm, Cond.instanceMethod yX2_cameWarm, Cond.selects RX2 yX2_cameWarm yX2_cameWarm, Cond.initialized RX2, Cond.code yX2_cameWarm cX2_cameWarm 1 (some .boolean), Cond.fieldLink RX2 21 "NightRiders$Request" "sent" "Z", Cond.fieldLink RX2 25 "NightRiders$Request" "lost" "Z", Cond.fieldLink RX2 37 "NightRiders$Request" "ready" "I", Cond.fieldLink RX2 40 "NightRiders$Request" "cold" "I", Cond.methodLink RX2 50 yX2_lastEnd, Cond.instanceMethod yX2_lastEnd, Cond.selects RX2 yX2_lastEnd yX2_lastEnd]
def wsX4_countRequests_r2 : List Cond := [Cond.code yX2_lastEnd cX2_lastEnd 2 (some .int), Cond.fieldLink RX2 17 "NightRiders$Request" "legCount" "I", Cond.fieldLink RX2 47 "NightRiders$Leg" "ends" "I", Cond.methodLink RX2 43 yX2_legAt, Cond.instanceMethod yX2_legAt, Cond.selects RX2 yX2_legAt yX2_legAt, Cond.code yX2_legAt cX2_legAt 2 (some (.object "NightRiders$Leg")), Cond.fieldLink RX2 11 "NightRiders$Request" "legs" "[LNightRiders$Leg;"]
def wsX4_countRequests : List Cond := .code yX4_countRequests cX4_countRequests 5 (some .int) :: ((wsX4_countRequests_r1 ++ wsX4_countRequests_r2) ++ wsX40 ++ wsX20 ++ wsX10)
def wsX4_count_r1 : List Cond := [Cond.fieldLink RX4 35 "NightRiders" "placeCount" "I", Cond.fieldLink RX4 39 "NightRiders" "riderCount" "I", Cond.fieldLink RX4 42 "NightRiders" "requestCount" "I", Cond.methodLink RX4 76 yX4_countRequests, Cond.instanceMethod yX4_countRequests, Cond.selects RX4 yX4_countRequests yX4_countRequests, Cond.initialized RX4, Cond.code yX4_countRequests cX4_countRequests 5 (some .int), Cond.methodLink RX4 137 yX4_requestAt, Cond.instanceMethod yX4_requestAt, Cond.selects RX4 yX4_requestAt yX4_requestAt, Cond.code yX4_requestAt cX4_requestAt 2 (some (.object "NightRiders$Request")), Cond.fieldLink RX4 21 "NightRiders" "requests" "[LNightRiders$Request;", Cond.methodLink RX4 227 yX4_isCounted, Cond.static yX4_isCounted, Cond.code yX4_isCounted cX4_isCounted 2 (some .boolean), Cond.fieldLink RX4 141 "NightRiders$Request" "sent" "Z", Cond.fieldLink RX4 172 "NightRiders$Request" "lost" "Z", Cond.methodLink RX4 231 yX2_cameWarm, Cond.instanceMethod yX2_cameWarm, Cond.selects RX2 yX2_cameWarm yX2_cameWarm, Cond.initialized RX2, Cond.code yX2_cameWarm cX2_cameWarm 1 (some .boolean), Cond.fieldLink RX2 21 "NightRiders$Request" "sent" "Z"]
def wsX4_count_r2 : List Cond := [Cond.fieldLink RX2 25 "NightRiders$Request" "lost" "Z", Cond.fieldLink RX2 37 "NightRiders$Request" "ready" "I", Cond.fieldLink RX2 40 "NightRiders$Request" "cold" "I", Cond.methodLink RX2 50 yX2_lastEnd, Cond.instanceMethod yX2_lastEnd, Cond.selects RX2 yX2_lastEnd yX2_lastEnd, Cond.code yX2_lastEnd cX2_lastEnd 2 (some .int), Cond.fieldLink RX2 17 "NightRiders$Request" "legCount" "I", Cond.fieldLink RX2 47 "NightRiders$Leg" "ends" "I", Cond.methodLink RX2 43 yX2_legAt, Cond.instanceMethod yX2_legAt, Cond.selects RX2 yX2_legAt yX2_legAt, Cond.code yX2_legAt cX2_legAt 2 (some (.object "NightRiders$Leg")), Cond.fieldLink RX2 11 "NightRiders$Request" "legs" "[LNightRiders$Leg;"]
def wsX4_count : List Cond := .code yX4_count cX4_count 2 (some .int) :: ((wsX4_count_r1 ++ wsX4_count_r2) ++ wsX40 ++ wsX20 ++ wsX10)
def wsX4_wayOf : List Cond := .code yX4_wayOf cX4_wayOf 4 (some .int) :: ([.fieldLink RX4 214 "NightRiders$Rider" "ways" "[I", .methodLink RX4 51 yX4_isPlace, .instanceMethod yX4_isPlace, .selects RX4 yX4_isPlace yX4_isPlace, .initialized RX4, .code yX4_isPlace cX4_isPlace 2 (some .boolean), .fieldLink RX4 35 "NightRiders" "placeCount" "I"] ++ wsX30 ++ wsX40)
def wsX4_way : List Cond := .code yX4_way cX4_way 5 (some .int) :: ([.methodLink RX4 55 yX4_riderAt, .instanceMethod yX4_riderAt, .selects RX4 yX4_riderAt yX4_riderAt, .initialized RX4, .code yX4_riderAt cX4_riderAt 2 (some (.object "NightRiders$Rider")), .fieldLink RX4 39 "NightRiders" "riderCount" "I", .fieldLink RX4 15 "NightRiders" "riders" "[LNightRiders$Rider;", .methodLink RX4 80 yX4_wayOf, .instanceMethod yX4_wayOf, .selects RX4 yX4_wayOf yX4_wayOf, .code yX4_wayOf cX4_wayOf 4 (some .int), .fieldLink RX4 214 "NightRiders$Rider" "ways" "[I", .methodLink RX4 51 yX4_isPlace, .instanceMethod yX4_isPlace, .selects RX4 yX4_isPlace yX4_isPlace, .code yX4_isPlace cX4_isPlace 2 (some .boolean), .fieldLink RX4 35 "NightRiders" "placeCount" "I"] ++ wsX40 ++ wsX30)
def wsX4_of : List Cond := .code yX4_of cX4_of 4 (some .int) :: ([.classLink RX4 84 "java/util/NoSuchElementException", .initialized "java/util/NoSuchElementException", .fieldLink RX4 91 "NightRiders$Rider" "home" "I", .fieldLink RX4 94 "NightRiders$Rider" "at" "I", .fieldLink RX4 97 "NightRiders$Rider" "failed" "Z", .fieldLink RX4 101 "NightRiders$Rider" "free" "I", .fieldLink RX4 104 "NightRiders$Rider" "legsRidden" "I", .fieldLink RX4 107 "NightRiders$Rider" "boxMinutes" "I", .fieldLink RX4 110 "NightRiders$Rider" "area" "I", .fieldLink RX4 113 "NightRiders$Rider" "kinds" "I", .methodLink RX4 55 yX4_riderAt, .instanceMethod yX4_riderAt, .selects RX4 yX4_riderAt yX4_riderAt, .initialized RX4, .code yX4_riderAt cX4_riderAt 2 (some (.object "NightRiders$Rider")), .fieldLink RX4 39 "NightRiders" "riderCount" "I", .fieldLink RX4 15 "NightRiders" "riders" "[LNightRiders$Rider;"] ++ wsX30 ++ wsX40 ++ (vx_atS RX4 88 "java/util/NoSuchElementException" ["java/lang/RuntimeException", "java/lang/Exception"]).filter goodWord)
def wsX4_isKind : List Cond := .code yX4_isKind cX4_isKind 1 (some .boolean) :: ([])
def wsX4_duty_r1 : List Cond := [Cond.fieldLink RX4 39 "NightRiders" "riderCount" "I", Cond.methodLink RX4 70 yX4_isMinute, Cond.static yX4_isMinute, Cond.initialized RX4, Cond.code yX4_isMinute cX4_isMinute 1 (some .boolean), Cond.methodLink RX4 118 yX4_isKind, Cond.static yX4_isKind, Cond.code yX4_isKind cX4_isKind 1 (some .boolean), Cond.methodLink RX4 55 yX4_riderAt, Cond.instanceMethod yX4_riderAt, Cond.selects RX4 yX4_riderAt yX4_riderAt, Cond.code yX4_riderAt cX4_riderAt 2 (some (.object "NightRiders$Rider")), Cond.fieldLink RX4 15 "NightRiders" "riders" "[LNightRiders$Rider;", Cond.methodLink RX4 121 yX3_carries, Cond.instanceMethod yX3_carries, Cond.selects RX3 yX3_carries yX3_carries, Cond.initialized RX3, Cond.code yX3_carries cX3_carries 2 (some .boolean), Cond.fieldLink RX3 22 "NightRiders$Rider" "failed" "Z", Cond.fieldLink RX3 38 "NightRiders$Rider" "kinds" "I", Cond.static yX4_hasBit, Cond.code yX4_hasBit cX4_hasBit 2 (some .boolean), Cond.methodLink RX4 124 yX3_isOnDuty, Cond.instanceMethod yX3_isOnDuty]
def wsX4_duty_r2 : List Cond := [Cond.selects RX3 yX3_isOnDuty yX3_isOnDuty, Cond.code yX3_isOnDuty cX3_isOnDuty 2 (some .boolean), Cond.fieldLink RX3 32 "NightRiders$Rider" "dutyFrom" "I", Cond.fieldLink RX3 35 "NightRiders$Rider" "dutyTo" "I"]
def wsX4_duty : List Cond := .code yX4_duty cX4_duty 6 (some .int) :: ((wsX4_duty_r1 ++ wsX4_duty_r2) ++ wsX40 ++ wsX30)
def wsX4_lastOnDuty_r1 : List Cond := [Cond.fieldLink RX4 39 "NightRiders" "riderCount" "I", Cond.fieldLink RX4 211 "NightRiders$Rider" "dutyTo" "I", Cond.methodLink RX4 131 Lib.Math.max.name, Cond.static Lib.Math.max.name, Cond.initialized "java/lang/Math", Cond.code Lib.Math.max.name Lib.Math.max.code 2 (some .int), Cond.methodLink RX4 55 yX4_riderAt, Cond.instanceMethod yX4_riderAt, Cond.selects RX4 yX4_riderAt yX4_riderAt, Cond.initialized RX4, Cond.code yX4_riderAt cX4_riderAt 2 (some (.object "NightRiders$Rider")), Cond.fieldLink RX4 15 "NightRiders" "riders" "[LNightRiders$Rider;", Cond.methodLink RX4 121 yX3_carries, Cond.instanceMethod yX3_carries, Cond.selects RX3 yX3_carries yX3_carries, Cond.initialized RX3, Cond.code yX3_carries cX3_carries 2 (some .boolean), Cond.fieldLink RX3 22 "NightRiders$Rider" "failed" "Z", Cond.fieldLink RX3 38 "NightRiders$Rider" "kinds" "I", Cond.static yX4_hasBit, Cond.code yX4_hasBit cX4_hasBit 2 (some .boolean), Cond.methodLink RX4 124 yX3_isOnDuty, Cond.instanceMethod yX3_isOnDuty, Cond.selects RX3 yX3_isOnDuty yX3_isOnDuty]
def wsX4_lastOnDuty_r2 : List Cond := [Cond.code yX3_isOnDuty cX3_isOnDuty 2 (some .boolean), Cond.fieldLink RX3 32 "NightRiders$Rider" "dutyFrom" "I", Cond.fieldLink RX3 35 "NightRiders$Rider" "dutyTo" "I"]
def wsX4_lastOnDuty : List Cond := .code yX4_lastOnDuty cX4_lastOnDuty 6 (some .int) :: ((wsX4_lastOnDuty_r1 ++ wsX4_lastOnDuty_r2) ++ wsX40 ++ wsX30)
def wsX4_bare_r1 : List Cond := [Cond.methodLink RX4 131 Lib.Math.max.name, Cond.static Lib.Math.max.name, Cond.initialized "java/lang/Math", Cond.code Lib.Math.max.name Lib.Math.max.code 2 (some .int), Cond.methodLink RX4 70 yX4_isMinute, Cond.static yX4_isMinute, Cond.initialized RX4, Cond.code yX4_isMinute cX4_isMinute 1 (some .boolean), Cond.methodLink RX4 118 yX4_isKind, Cond.static yX4_isKind, Cond.code yX4_isKind cX4_isKind 1 (some .boolean), Cond.methodLink RX4 127 yX4_lastOnDuty, Cond.instanceMethod yX4_lastOnDuty, Cond.selects RX4 yX4_lastOnDuty yX4_lastOnDuty, Cond.code yX4_lastOnDuty cX4_lastOnDuty 6 (some .int), Cond.fieldLink RX4 39 "NightRiders" "riderCount" "I", Cond.fieldLink RX4 211 "NightRiders$Rider" "dutyTo" "I", Cond.methodLink RX4 55 yX4_riderAt, Cond.instanceMethod yX4_riderAt, Cond.selects RX4 yX4_riderAt yX4_riderAt, Cond.code yX4_riderAt cX4_riderAt 2 (some (.object "NightRiders$Rider")), Cond.fieldLink RX4 15 "NightRiders" "riders" "[LNightRiders$Rider;", Cond.methodLink RX4 121 yX3_carries, Cond.instanceMethod yX3_carries]
def wsX4_bare_r2 : List Cond := [Cond.selects RX3 yX3_carries yX3_carries, Cond.initialized RX3, Cond.code yX3_carries cX3_carries 2 (some .boolean), Cond.fieldLink RX3 22 "NightRiders$Rider" "failed" "Z", Cond.fieldLink RX3 38 "NightRiders$Rider" "kinds" "I", Cond.static yX4_hasBit, Cond.code yX4_hasBit cX4_hasBit 2 (some .boolean), Cond.methodLink RX4 124 yX3_isOnDuty, Cond.instanceMethod yX3_isOnDuty, Cond.selects RX3 yX3_isOnDuty yX3_isOnDuty, Cond.code yX3_isOnDuty cX3_isOnDuty 2 (some .boolean), Cond.fieldLink RX3 32 "NightRiders$Rider" "dutyFrom" "I", Cond.fieldLink RX3 35 "NightRiders$Rider" "dutyTo" "I"]
def wsX4_bare : List Cond := .code yX4_bare cX4_bare 5 (some .int) :: ((wsX4_bare_r1 ++ wsX4_bare_r2) ++ wsX40 ++ wsX30)
def wsX4_call_r1 : List Cond := [Cond.fieldLink RX4 42 "NightRiders" "requestCount" "I", Cond.fieldLink RX4 21 "NightRiders" "requests" "[LNightRiders$Request;", Cond.classLink RX4 19 RX2, Cond.instantiable RX2 9, Cond.initialized RX2, Cond.methodLink RX4 118 yX4_isKind, Cond.static yX4_isKind, Cond.initialized RX4, Cond.code yX4_isKind cX4_isKind 1 (some .boolean), Cond.methodLink RX4 51 yX4_isPlace, Cond.instanceMethod yX4_isPlace, Cond.selects RX4 yX4_isPlace yX4_isPlace, Cond.code yX4_isPlace cX4_isPlace 2 (some .boolean), Cond.fieldLink RX4 35 "NightRiders" "placeCount" "I", Cond.methodLink RX4 70 yX4_isMinute, Cond.static yX4_isMinute, Cond.code yX4_isMinute cX4_isMinute 1 (some .boolean), Cond.methodLink RX4 136 yX2_init, Cond.instanceMethod yX2_init, Cond.code yX2_init cX2_init 6 none, Cond.methodLink RX2 3 objectInit, Cond.instanceMethod objectInit, Cond.code objectInit ⟨#[0xb1]⟩ 1 none, Cond.classLink RX2 9 RX1]
def wsX4_call_r2 : List Cond := [Cond.fieldLink RX2 11 "NightRiders$Request" "legs" "[LNightRiders$Leg;", Cond.fieldLink RX2 17 "NightRiders$Request" "legCount" "I", Cond.fieldLink RX2 21 "NightRiders$Request" "sent" "Z", Cond.fieldLink RX2 25 "NightRiders$Request" "lost" "Z", Cond.fieldLink RX2 28 "NightRiders$Request" "kind" "I", Cond.fieldLink RX2 31 "NightRiders$Request" "from" "I", Cond.fieldLink RX2 34 "NightRiders$Request" "to" "I", Cond.fieldLink RX2 37 "NightRiders$Request" "ready" "I", Cond.fieldLink RX2 40 "NightRiders$Request" "cold" "I"]
def wsX4_call : List Cond := .code yX4_call cX4_call 6 (some .int) :: ((wsX4_call_r1 ++ wsX4_call_r2) ++ wsX40 ++ wsX20)
def wsX4_keepIfBetter : List Cond := .code yX4_keepIfBetter cX4_keepIfBetter 3 none :: ([.fieldLink RX4 28 "NightRiders" "trial" "LNightRiders$Chain;", .fieldLink RX4 32 "NightRiders" "chosen" "LNightRiders$Chain;", .fieldLink RX4 239 "NightRiders$Chain" "length" "I", .methodLink RX4 154 yX0_lastEnd, .instanceMethod yX0_lastEnd, .selects RX0 yX0_lastEnd yX0_lastEnd, .initialized RX0, .code yX0_lastEnd cX0_lastEnd 1 (some .int), .fieldLink RX0 27 "NightRiders$Chain" "length" "I", .fieldLink RX0 24 "NightRiders$Chain" "ends" "[I", .methodLink RX4 281 yX0_take, .instanceMethod yX0_take, .selects RX0 yX0_take yX0_take, .code yX0_take cX0_take 3 none, .fieldLink RX0 9 "NightRiders$Chain" "riders" "[I", .fieldLink RX0 15 "NightRiders$Chain" "froms" "[I", .fieldLink RX0 18 "NightRiders$Chain" "tos" "[I", .fieldLink RX0 21 "NightRiders$Chain" "starts" "[I"] ++ wsX40 ++ wsX00)
def wsX4_thereFrom : List Cond := .code yX4_thereFrom cX4_thereFrom 4 (some .int) :: ([.fieldLink RX4 94 "NightRiders$Rider" "at" "I", .fieldLink RX4 101 "NightRiders$Rider" "free" "I", .fieldLink RX4 224 "NightRiders$Rider" "dutyFrom" "I", .methodLink RX4 131 Lib.Math.max.name, .static Lib.Math.max.name, .initialized "java/lang/Math", .code Lib.Math.max.name Lib.Math.max.code 2 (some .int), .methodLink RX4 80 yX4_wayOf, .instanceMethod yX4_wayOf, .selects RX4 yX4_wayOf yX4_wayOf, .initialized RX4, .code yX4_wayOf cX4_wayOf 4 (some .int), .fieldLink RX4 214 "NightRiders$Rider" "ways" "[I", .methodLink RX4 51 yX4_isPlace, .instanceMethod yX4_isPlace, .selects RX4 yX4_isPlace yX4_isPlace, .code yX4_isPlace cX4_isPlace 2 (some .boolean), .fieldLink RX4 35 "NightRiders" "placeCount" "I"] ++ wsX30 ++ wsX40)
def wsX4_isTooLate : List Cond := .code yX4_isTooLate cX4_isTooLate 2 (some .boolean) :: ([.fieldLink RX4 32 "NightRiders" "chosen" "LNightRiders$Chain;", .fieldLink RX4 239 "NightRiders$Chain" "length" "I", .methodLink RX4 154 yX0_lastEnd, .instanceMethod yX0_lastEnd, .selects RX0 yX0_lastEnd yX0_lastEnd, .initialized RX0, .code yX0_lastEnd cX0_lastEnd 1 (some .int), .fieldLink RX0 27 "NightRiders$Chain" "length" "I", .fieldLink RX0 24 "NightRiders$Chain" "ends" "[I"] ++ wsX40 ++ wsX00)
def wsX4_waitsUntil : List Cond := .code yX4_waitsUntil cX4_waitsUntil 4 (some .boolean) :: ([.fieldLink RX4 28 "NightRiders" "trial" "LNightRiders$Chain;", .fieldLink RX4 263 "NightRiders$Chain" "riders" "[I", .fieldLink RX4 211 "NightRiders$Rider" "dutyTo" "I", .methodLink RX4 55 yX4_riderAt, .instanceMethod yX4_riderAt, .selects RX4 yX4_riderAt yX4_riderAt, .initialized RX4, .code yX4_riderAt cX4_riderAt 2 (some (.object "NightRiders$Rider")), .fieldLink RX4 39 "NightRiders" "riderCount" "I", .fieldLink RX4 15 "NightRiders" "riders" "[LNightRiders$Rider;"] ++ wsX40 ++ wsX00 ++ wsX30)
def wsX4_tryEnd_r1 : List Cond := [Cond.fieldLink RX4 28 "NightRiders" "trial" "LNightRiders$Chain;", Cond.fieldLink RX4 211 "NightRiders$Rider" "dutyTo" "I", Cond.fieldLink RX4 236 "NightRiders$Chain" "goal" "I", Cond.methodLink RX4 269 yX0_fromOf, Cond.instanceMethod yX0_fromOf, Cond.selects RX0 yX0_fromOf yX0_fromOf, Cond.initialized RX0, Cond.code yX0_fromOf cX0_fromOf 2 (some .int), Cond.fieldLink RX0 15 "NightRiders$Chain" "froms" "[I", Cond.methodLink RX4 80 yX4_wayOf, Cond.instanceMethod yX4_wayOf, Cond.selects RX4 yX4_wayOf yX4_wayOf, Cond.initialized RX4, Cond.code yX4_wayOf cX4_wayOf 4 (some .int), Cond.fieldLink RX4 214 "NightRiders$Rider" "ways" "[I", Cond.methodLink RX4 51 yX4_isPlace, Cond.instanceMethod yX4_isPlace, Cond.selects RX4 yX4_isPlace yX4_isPlace, Cond.code yX4_isPlace cX4_isPlace 2 (some .boolean), Cond.fieldLink RX4 35 "NightRiders" "placeCount" "I", Cond.methodLink RX4 272 yX0_comesFrom, Cond.instanceMethod yX0_comesFrom, Cond.selects RX0 yX0_comesFrom yX0_comesFrom, Cond.code yX0_comesFrom cX0_comesFrom 4 (some .boolean)]
def wsX4_tryEnd_r2 : List Cond := [Cond.methodLink RX4 275 yX0_close, Cond.instanceMethod yX0_close, Cond.selects RX0 yX0_close yX0_close, Cond.code yX0_close cX0_close 4 none, Cond.fieldLink RX0 18 "NightRiders$Chain" "tos" "[I", Cond.fieldLink RX0 24 "NightRiders$Chain" "ends" "[I", Cond.fieldLink RX0 27 "NightRiders$Chain" "length" "I", Cond.methodLink RX4 278 yX4_keepIfBetter, Cond.instanceMethod yX4_keepIfBetter, Cond.selects RX4 yX4_keepIfBetter yX4_keepIfBetter, Cond.code yX4_keepIfBetter cX4_keepIfBetter 3 none, Cond.fieldLink RX4 32 "NightRiders" "chosen" "LNightRiders$Chain;", Cond.fieldLink RX4 239 "NightRiders$Chain" "length" "I", Cond.methodLink RX4 154 yX0_lastEnd, Cond.instanceMethod yX0_lastEnd, Cond.selects RX0 yX0_lastEnd yX0_lastEnd, Cond.code yX0_lastEnd cX0_lastEnd 1 (some .int), Cond.methodLink RX4 281 yX0_take, Cond.instanceMethod yX0_take, Cond.selects RX0 yX0_take yX0_take, Cond.code yX0_take cX0_take 3 none, Cond.fieldLink RX0 9 "NightRiders$Chain" "riders" "[I", Cond.fieldLink RX0 21 "NightRiders$Chain" "starts" "[I", Cond.methodLink RX4 242 yX4_tryRiders]
def wsX4_tryEnd_r3 : List Cond := [Cond.instanceMethod yX4_tryRiders, Cond.selects RX4 yX4_tryRiders yX4_tryRiders, Cond.code yX4_tryEnds cX4_tryEnds 5 none, Cond.methodLink RX4 265 yX4_tryEnd, Cond.instanceMethod yX4_tryEnd, Cond.selects RX4 yX4_tryEnd yX4_tryEnd, Cond.code yX4_tryRiders cX4_tryRiders 8 none, Cond.fieldLink RX4 39 "NightRiders" "riderCount" "I", Cond.fieldLink RX4 235 "NightRiders$Chain" "kind" "I", Cond.methodLink RX4 131 Lib.Math.max.name, Cond.static Lib.Math.max.name, Cond.initialized "java/lang/Math", Cond.code Lib.Math.max.name Lib.Math.max.code 2 (some .int), Cond.methodLink RX4 55 yX4_riderAt, Cond.instanceMethod yX4_riderAt, Cond.selects RX4 yX4_riderAt yX4_riderAt, Cond.code yX4_riderAt cX4_riderAt 2 (some (.object "NightRiders$Rider")), Cond.fieldLink RX4 15 "NightRiders" "riders" "[LNightRiders$Rider;", Cond.methodLink RX4 121 yX3_carries, Cond.instanceMethod yX3_carries, Cond.selects RX3 yX3_carries yX3_carries, Cond.initialized RX3, Cond.code yX3_carries cX3_carries 2 (some .boolean), Cond.fieldLink RX3 22 "NightRiders$Rider" "failed" "Z"]
def wsX4_tryEnd_r4 : List Cond := [Cond.fieldLink RX3 38 "NightRiders$Rider" "kinds" "I", Cond.static yX4_hasBit, Cond.code yX4_hasBit cX4_hasBit 2 (some .boolean), Cond.methodLink RX4 246 yX0_isRiddenBy, Cond.instanceMethod yX0_isRiddenBy, Cond.selects RX0 yX0_isRiddenBy yX0_isRiddenBy, Cond.code yX0_isRiddenBy cX0_isRiddenBy 4 (some .boolean), Cond.methodLink RX4 207 yX4_thereFrom, Cond.instanceMethod yX4_thereFrom, Cond.selects RX4 yX4_thereFrom yX4_thereFrom, Cond.code yX4_thereFrom cX4_thereFrom 4 (some .int), Cond.fieldLink RX4 94 "NightRiders$Rider" "at" "I", Cond.fieldLink RX4 101 "NightRiders$Rider" "free" "I", Cond.fieldLink RX4 224 "NightRiders$Rider" "dutyFrom" "I", Cond.methodLink RX4 249 yX4_isTooLate, Cond.instanceMethod yX4_isTooLate, Cond.selects RX4 yX4_isTooLate yX4_isTooLate, Cond.code yX4_isTooLate cX4_isTooLate 2 (some .boolean), Cond.methodLink RX4 252 yX4_waitsUntil, Cond.instanceMethod yX4_waitsUntil, Cond.selects RX4 yX4_waitsUntil yX4_waitsUntil, Cond.code yX4_waitsUntil cX4_waitsUntil 4 (some .boolean), Cond.fieldLink RX4 263 "NightRiders$Chain" "riders" "[I", Cond.methodLink RX4 255 yX0_open]
def wsX4_tryEnd_r5 : List Cond := [Cond.instanceMethod yX0_open, Cond.selects RX0 yX0_open yX0_open, Cond.code yX0_open cX0_open 5 none, Cond.methodLink RX4 259 yX4_tryEnds, Cond.instanceMethod yX4_tryEnds, Cond.selects RX4 yX4_tryEnds yX4_tryEnds]
def wsX4_tryEnd : List Cond := .code yX4_tryEnd cX4_tryEnd 6 none :: ((wsX4_tryEnd_r1 ++ (wsX4_tryEnd_r2 ++ (wsX4_tryEnd_r3 ++ (wsX4_tryEnd_r4 ++ wsX4_tryEnd_r5)))) ++ wsX40 ++ wsX30 ++ wsX00)
def wsX4_tryEnds_r1 : List Cond := [Cond.fieldLink RX4 28 "NightRiders" "trial" "LNightRiders$Chain;", Cond.fieldLink RX4 236 "NightRiders$Chain" "goal" "I", Cond.fieldLink RX4 35 "NightRiders" "placeCount" "I", Cond.methodLink RX4 265 yX4_tryEnd, Cond.instanceMethod yX4_tryEnd, Cond.selects RX4 yX4_tryEnd yX4_tryEnd, Cond.initialized RX4, Cond.code yX4_tryEnd cX4_tryEnd 6 none, Cond.fieldLink RX4 211 "NightRiders$Rider" "dutyTo" "I", Cond.methodLink RX4 269 yX0_fromOf, Cond.instanceMethod yX0_fromOf, Cond.selects RX0 yX0_fromOf yX0_fromOf, Cond.initialized RX0, Cond.code yX0_fromOf cX0_fromOf 2 (some .int), Cond.fieldLink RX0 15 "NightRiders$Chain" "froms" "[I", Cond.methodLink RX4 80 yX4_wayOf, Cond.instanceMethod yX4_wayOf, Cond.selects RX4 yX4_wayOf yX4_wayOf, Cond.code yX4_wayOf cX4_wayOf 4 (some .int), Cond.fieldLink RX4 214 "NightRiders$Rider" "ways" "[I", Cond.methodLink RX4 51 yX4_isPlace, Cond.instanceMethod yX4_isPlace, Cond.selects RX4 yX4_isPlace yX4_isPlace, Cond.code yX4_isPlace cX4_isPlace 2 (some .boolean)]
def wsX4_tryEnds_r2 : List Cond := [Cond.methodLink RX4 272 yX0_comesFrom, Cond.instanceMethod yX0_comesFrom, Cond.selects RX0 yX0_comesFrom yX0_comesFrom, Cond.code yX0_comesFrom cX0_comesFrom 4 (some .boolean), Cond.methodLink RX4 275 yX0_close, Cond.instanceMethod yX0_close, Cond.selects RX0 yX0_close yX0_close, Cond.code yX0_close cX0_close 4 none, Cond.fieldLink RX0 18 "NightRiders$Chain" "tos" "[I", Cond.fieldLink RX0 24 "NightRiders$Chain" "ends" "[I", Cond.fieldLink RX0 27 "NightRiders$Chain" "length" "I", Cond.methodLink RX4 278 yX4_keepIfBetter, Cond.instanceMethod yX4_keepIfBetter, Cond.selects RX4 yX4_keepIfBetter yX4_keepIfBetter, Cond.code yX4_keepIfBetter cX4_keepIfBetter 3 none, Cond.fieldLink RX4 32 "NightRiders" "chosen" "LNightRiders$Chain;", Cond.fieldLink RX4 239 "NightRiders$Chain" "length" "I", Cond.methodLink RX4 154 yX0_lastEnd, Cond.instanceMethod yX0_lastEnd, Cond.selects RX0 yX0_lastEnd yX0_lastEnd, Cond.code yX0_lastEnd cX0_lastEnd 1 (some .int), Cond.methodLink RX4 281 yX0_take, Cond.instanceMethod yX0_take, Cond.selects RX0 yX0_take yX0_take]
def wsX4_tryEnds_r3 : List Cond := [Cond.code yX0_take cX0_take 3 none, Cond.fieldLink RX0 9 "NightRiders$Chain" "riders" "[I", Cond.fieldLink RX0 21 "NightRiders$Chain" "starts" "[I", Cond.methodLink RX4 242 yX4_tryRiders, Cond.instanceMethod yX4_tryRiders, Cond.selects RX4 yX4_tryRiders yX4_tryRiders, Cond.code yX4_tryRiders cX4_tryRiders 8 none, Cond.fieldLink RX4 39 "NightRiders" "riderCount" "I", Cond.fieldLink RX4 235 "NightRiders$Chain" "kind" "I", Cond.methodLink RX4 131 Lib.Math.max.name, Cond.static Lib.Math.max.name, Cond.initialized "java/lang/Math", Cond.code Lib.Math.max.name Lib.Math.max.code 2 (some .int), Cond.methodLink RX4 55 yX4_riderAt, Cond.instanceMethod yX4_riderAt, Cond.selects RX4 yX4_riderAt yX4_riderAt, Cond.code yX4_riderAt cX4_riderAt 2 (some (.object "NightRiders$Rider")), Cond.fieldLink RX4 15 "NightRiders" "riders" "[LNightRiders$Rider;", Cond.methodLink RX4 121 yX3_carries, Cond.instanceMethod yX3_carries, Cond.selects RX3 yX3_carries yX3_carries, Cond.initialized RX3, Cond.code yX3_carries cX3_carries 2 (some .boolean), Cond.fieldLink RX3 22 "NightRiders$Rider" "failed" "Z"]
def wsX4_tryEnds_r4 : List Cond := [Cond.fieldLink RX3 38 "NightRiders$Rider" "kinds" "I", Cond.static yX4_hasBit, Cond.code yX4_hasBit cX4_hasBit 2 (some .boolean), Cond.methodLink RX4 246 yX0_isRiddenBy, Cond.instanceMethod yX0_isRiddenBy, Cond.selects RX0 yX0_isRiddenBy yX0_isRiddenBy, Cond.code yX0_isRiddenBy cX0_isRiddenBy 4 (some .boolean), Cond.methodLink RX4 207 yX4_thereFrom, Cond.instanceMethod yX4_thereFrom, Cond.selects RX4 yX4_thereFrom yX4_thereFrom, Cond.code yX4_thereFrom cX4_thereFrom 4 (some .int), Cond.fieldLink RX4 94 "NightRiders$Rider" "at" "I", Cond.fieldLink RX4 101 "NightRiders$Rider" "free" "I", Cond.fieldLink RX4 224 "NightRiders$Rider" "dutyFrom" "I", Cond.methodLink RX4 249 yX4_isTooLate, Cond.instanceMethod yX4_isTooLate, Cond.selects RX4 yX4_isTooLate yX4_isTooLate, Cond.code yX4_isTooLate cX4_isTooLate 2 (some .boolean), Cond.methodLink RX4 252 yX4_waitsUntil, Cond.instanceMethod yX4_waitsUntil, Cond.selects RX4 yX4_waitsUntil yX4_waitsUntil, Cond.code yX4_waitsUntil cX4_waitsUntil 4 (some .boolean), Cond.fieldLink RX4 263 "NightRiders$Chain" "riders" "[I", Cond.methodLink RX4 255 yX0_open]
def wsX4_tryEnds_r5 : List Cond := [Cond.instanceMethod yX0_open, Cond.selects RX0 yX0_open yX0_open, Cond.code yX0_open cX0_open 5 none, Cond.methodLink RX4 259 yX4_tryEnds, Cond.instanceMethod yX4_tryEnds, Cond.selects RX4 yX4_tryEnds yX4_tryEnds]
def wsX4_tryEnds : List Cond := .code yX4_tryEnds cX4_tryEnds 5 none :: ((wsX4_tryEnds_r1 ++ (wsX4_tryEnds_r2 ++ (wsX4_tryEnds_r3 ++ (wsX4_tryEnds_r4 ++ wsX4_tryEnds_r5)))) ++ wsX40 ++ wsX30 ++ wsX00)
def wsX4_tryRiders_r1 : List Cond := [Cond.fieldLink RX4 39 "NightRiders" "riderCount" "I", Cond.fieldLink RX4 28 "NightRiders" "trial" "LNightRiders$Chain;", Cond.fieldLink RX4 235 "NightRiders$Chain" "kind" "I", Cond.methodLink RX4 131 Lib.Math.max.name, Cond.static Lib.Math.max.name, Cond.initialized "java/lang/Math", Cond.code Lib.Math.max.name Lib.Math.max.code 2 (some .int), Cond.methodLink RX4 55 yX4_riderAt, Cond.instanceMethod yX4_riderAt, Cond.selects RX4 yX4_riderAt yX4_riderAt, Cond.initialized RX4, Cond.code yX4_riderAt cX4_riderAt 2 (some (.object "NightRiders$Rider")), Cond.fieldLink RX4 15 "NightRiders" "riders" "[LNightRiders$Rider;", Cond.methodLink RX4 121 yX3_carries, Cond.instanceMethod yX3_carries, Cond.selects RX3 yX3_carries yX3_carries, Cond.initialized RX3, Cond.code yX3_carries cX3_carries 2 (some .boolean), Cond.fieldLink RX3 22 "NightRiders$Rider" "failed" "Z", Cond.fieldLink RX3 38 "NightRiders$Rider" "kinds" "I", Cond.static yX4_hasBit, Cond.code yX4_hasBit cX4_hasBit 2 (some .boolean), Cond.methodLink RX4 246 yX0_isRiddenBy, Cond.instanceMethod yX0_isRiddenBy]
def wsX4_tryRiders_r2 : List Cond := [Cond.selects RX0 yX0_isRiddenBy yX0_isRiddenBy, Cond.initialized RX0, Cond.code yX0_isRiddenBy cX0_isRiddenBy 4 (some .boolean), Cond.fieldLink RX0 9 "NightRiders$Chain" "riders" "[I", Cond.methodLink RX4 207 yX4_thereFrom, Cond.instanceMethod yX4_thereFrom, Cond.selects RX4 yX4_thereFrom yX4_thereFrom, Cond.code yX4_thereFrom cX4_thereFrom 4 (some .int), Cond.fieldLink RX4 94 "NightRiders$Rider" "at" "I", Cond.fieldLink RX4 101 "NightRiders$Rider" "free" "I", Cond.fieldLink RX4 224 "NightRiders$Rider" "dutyFrom" "I", Cond.methodLink RX4 80 yX4_wayOf, Cond.instanceMethod yX4_wayOf, Cond.selects RX4 yX4_wayOf yX4_wayOf, Cond.code yX4_wayOf cX4_wayOf 4 (some .int), Cond.fieldLink RX4 214 "NightRiders$Rider" "ways" "[I", Cond.methodLink RX4 51 yX4_isPlace, Cond.instanceMethod yX4_isPlace, Cond.selects RX4 yX4_isPlace yX4_isPlace, Cond.code yX4_isPlace cX4_isPlace 2 (some .boolean), Cond.fieldLink RX4 35 "NightRiders" "placeCount" "I", Cond.methodLink RX4 249 yX4_isTooLate, Cond.instanceMethod yX4_isTooLate, Cond.selects RX4 yX4_isTooLate yX4_isTooLate]
def wsX4_tryRiders_r3 : List Cond := [Cond.code yX4_isTooLate cX4_isTooLate 2 (some .boolean), Cond.fieldLink RX4 32 "NightRiders" "chosen" "LNightRiders$Chain;", Cond.fieldLink RX4 239 "NightRiders$Chain" "length" "I", Cond.methodLink RX4 154 yX0_lastEnd, Cond.instanceMethod yX0_lastEnd, Cond.selects RX0 yX0_lastEnd yX0_lastEnd, Cond.code yX0_lastEnd cX0_lastEnd 1 (some .int), Cond.fieldLink RX0 27 "NightRiders$Chain" "length" "I", Cond.fieldLink RX0 24 "NightRiders$Chain" "ends" "[I", Cond.methodLink RX4 252 yX4_waitsUntil, Cond.instanceMethod yX4_waitsUntil, Cond.selects RX4 yX4_waitsUntil yX4_waitsUntil, Cond.code yX4_waitsUntil cX4_waitsUntil 4 (some .boolean), Cond.fieldLink RX4 263 "NightRiders$Chain" "riders" "[I", Cond.fieldLink RX4 211 "NightRiders$Rider" "dutyTo" "I", Cond.methodLink RX4 255 yX0_open, Cond.instanceMethod yX0_open, Cond.selects RX0 yX0_open yX0_open, Cond.code yX0_open cX0_open 5 none, Cond.fieldLink RX0 15 "NightRiders$Chain" "froms" "[I", Cond.fieldLink RX0 21 "NightRiders$Chain" "starts" "[I", Cond.methodLink RX4 259 yX4_tryEnds, Cond.instanceMethod yX4_tryEnds, Cond.selects RX4 yX4_tryEnds yX4_tryEnds]
def wsX4_tryRiders_r4 : List Cond := [Cond.code yX4_tryEnd cX4_tryEnd 6 none, Cond.fieldLink RX4 236 "NightRiders$Chain" "goal" "I", Cond.methodLink RX4 269 yX0_fromOf, Cond.instanceMethod yX0_fromOf, Cond.selects RX0 yX0_fromOf yX0_fromOf, Cond.code yX0_fromOf cX0_fromOf 2 (some .int), Cond.methodLink RX4 272 yX0_comesFrom, Cond.instanceMethod yX0_comesFrom, Cond.selects RX0 yX0_comesFrom yX0_comesFrom, Cond.code yX0_comesFrom cX0_comesFrom 4 (some .boolean), Cond.methodLink RX4 275 yX0_close, Cond.instanceMethod yX0_close, Cond.selects RX0 yX0_close yX0_close, Cond.code yX0_close cX0_close 4 none, Cond.fieldLink RX0 18 "NightRiders$Chain" "tos" "[I", Cond.methodLink RX4 278 yX4_keepIfBetter, Cond.instanceMethod yX4_keepIfBetter, Cond.selects RX4 yX4_keepIfBetter yX4_keepIfBetter, Cond.code yX4_keepIfBetter cX4_keepIfBetter 3 none, Cond.methodLink RX4 281 yX0_take, Cond.instanceMethod yX0_take, Cond.selects RX0 yX0_take yX0_take, Cond.code yX0_take cX0_take 3 none, Cond.methodLink RX4 242 yX4_tryRiders]
def wsX4_tryRiders_r5 : List Cond := [Cond.instanceMethod yX4_tryRiders, Cond.selects RX4 yX4_tryRiders yX4_tryRiders, Cond.code yX4_tryEnds cX4_tryEnds 5 none, Cond.methodLink RX4 265 yX4_tryEnd, Cond.instanceMethod yX4_tryEnd, Cond.selects RX4 yX4_tryEnd yX4_tryEnd]
def wsX4_tryRiders : List Cond := .code yX4_tryRiders cX4_tryRiders 8 none :: ((wsX4_tryRiders_r1 ++ (wsX4_tryRiders_r2 ++ (wsX4_tryRiders_r3 ++ (wsX4_tryRiders_r4 ++ wsX4_tryRiders_r5)))) ++ wsX40 ++ wsX30 ++ wsX00)
def wsX4_findChain_r1 : List Cond := [Cond.fieldLink RX4 28 "NightRiders" "trial" "LNightRiders$Chain;", Cond.fieldLink RX4 163 "NightRiders$Request" "kind" "I", Cond.fieldLink RX4 235 "NightRiders$Chain" "kind" "I", Cond.fieldLink RX4 166 "NightRiders$Request" "to" "I", Cond.fieldLink RX4 236 "NightRiders$Chain" "goal" "I", Cond.fieldLink RX4 32 "NightRiders" "chosen" "LNightRiders$Chain;", Cond.fieldLink RX4 239 "NightRiders$Chain" "length" "I", Cond.methodLink RX4 242 yX4_tryRiders, Cond.instanceMethod yX4_tryRiders, Cond.selects RX4 yX4_tryRiders yX4_tryRiders, Cond.initialized RX4, Cond.code yX4_tryRiders cX4_tryRiders 8 none, Cond.fieldLink RX4 39 "NightRiders" "riderCount" "I", Cond.methodLink RX4 131 Lib.Math.max.name, Cond.static Lib.Math.max.name, Cond.initialized "java/lang/Math", Cond.code Lib.Math.max.name Lib.Math.max.code 2 (some .int), Cond.methodLink RX4 55 yX4_riderAt, Cond.instanceMethod yX4_riderAt, Cond.selects RX4 yX4_riderAt yX4_riderAt, Cond.code yX4_riderAt cX4_riderAt 2 (some (.object "NightRiders$Rider")), Cond.fieldLink RX4 15 "NightRiders" "riders" "[LNightRiders$Rider;", Cond.methodLink RX4 121 yX3_carries, Cond.instanceMethod yX3_carries]
def wsX4_findChain_r2 : List Cond := [Cond.selects RX3 yX3_carries yX3_carries, Cond.initialized RX3, Cond.code yX3_carries cX3_carries 2 (some .boolean), Cond.fieldLink RX3 22 "NightRiders$Rider" "failed" "Z", Cond.fieldLink RX3 38 "NightRiders$Rider" "kinds" "I", Cond.static yX4_hasBit, Cond.code yX4_hasBit cX4_hasBit 2 (some .boolean), Cond.methodLink RX4 246 yX0_isRiddenBy, Cond.instanceMethod yX0_isRiddenBy, Cond.selects RX0 yX0_isRiddenBy yX0_isRiddenBy, Cond.initialized RX0, Cond.code yX0_isRiddenBy cX0_isRiddenBy 4 (some .boolean), Cond.fieldLink RX0 9 "NightRiders$Chain" "riders" "[I", Cond.methodLink RX4 207 yX4_thereFrom, Cond.instanceMethod yX4_thereFrom, Cond.selects RX4 yX4_thereFrom yX4_thereFrom, Cond.code yX4_thereFrom cX4_thereFrom 4 (some .int), Cond.fieldLink RX4 94 "NightRiders$Rider" "at" "I", Cond.fieldLink RX4 101 "NightRiders$Rider" "free" "I", Cond.fieldLink RX4 224 "NightRiders$Rider" "dutyFrom" "I", Cond.methodLink RX4 80 yX4_wayOf, Cond.instanceMethod yX4_wayOf, Cond.selects RX4 yX4_wayOf yX4_wayOf, Cond.code yX4_wayOf cX4_wayOf 4 (some .int)]
def wsX4_findChain_r3 : List Cond := [Cond.fieldLink RX4 214 "NightRiders$Rider" "ways" "[I", Cond.methodLink RX4 51 yX4_isPlace, Cond.instanceMethod yX4_isPlace, Cond.selects RX4 yX4_isPlace yX4_isPlace, Cond.code yX4_isPlace cX4_isPlace 2 (some .boolean), Cond.fieldLink RX4 35 "NightRiders" "placeCount" "I", Cond.methodLink RX4 249 yX4_isTooLate, Cond.instanceMethod yX4_isTooLate, Cond.selects RX4 yX4_isTooLate yX4_isTooLate, Cond.code yX4_isTooLate cX4_isTooLate 2 (some .boolean), Cond.methodLink RX4 154 yX0_lastEnd, Cond.instanceMethod yX0_lastEnd, Cond.selects RX0 yX0_lastEnd yX0_lastEnd, Cond.code yX0_lastEnd cX0_lastEnd 1 (some .int), Cond.fieldLink RX0 27 "NightRiders$Chain" "length" "I", Cond.fieldLink RX0 24 "NightRiders$Chain" "ends" "[I", Cond.methodLink RX4 252 yX4_waitsUntil, Cond.instanceMethod yX4_waitsUntil, Cond.selects RX4 yX4_waitsUntil yX4_waitsUntil, Cond.code yX4_waitsUntil cX4_waitsUntil 4 (some .boolean), Cond.fieldLink RX4 263 "NightRiders$Chain" "riders" "[I", Cond.fieldLink RX4 211 "NightRiders$Rider" "dutyTo" "I", Cond.methodLink RX4 255 yX0_open, Cond.instanceMethod yX0_open]
def wsX4_findChain_r4 : List Cond := [Cond.selects RX0 yX0_open yX0_open, Cond.code yX0_open cX0_open 5 none, Cond.fieldLink RX0 15 "NightRiders$Chain" "froms" "[I", Cond.fieldLink RX0 21 "NightRiders$Chain" "starts" "[I", Cond.methodLink RX4 259 yX4_tryEnds, Cond.instanceMethod yX4_tryEnds, Cond.selects RX4 yX4_tryEnds yX4_tryEnds, Cond.code yX4_tryEnd cX4_tryEnd 6 none, Cond.methodLink RX4 269 yX0_fromOf, Cond.instanceMethod yX0_fromOf, Cond.selects RX0 yX0_fromOf yX0_fromOf, Cond.code yX0_fromOf cX0_fromOf 2 (some .int), Cond.methodLink RX4 272 yX0_comesFrom, Cond.instanceMethod yX0_comesFrom, Cond.selects RX0 yX0_comesFrom yX0_comesFrom, Cond.code yX0_comesFrom cX0_comesFrom 4 (some .boolean), Cond.methodLink RX4 275 yX0_close, Cond.instanceMethod yX0_close, Cond.selects RX0 yX0_close yX0_close, Cond.code yX0_close cX0_close 4 none, Cond.fieldLink RX0 18 "NightRiders$Chain" "tos" "[I", Cond.methodLink RX4 278 yX4_keepIfBetter, Cond.instanceMethod yX4_keepIfBetter, Cond.selects RX4 yX4_keepIfBetter yX4_keepIfBetter]
def wsX4_findChain_r5 : List Cond := [Cond.code yX4_keepIfBetter cX4_keepIfBetter 3 none, Cond.methodLink RX4 281 yX0_take, Cond.instanceMethod yX0_take, Cond.selects RX0 yX0_take yX0_take, Cond.code yX0_take cX0_take 3 none, Cond.code yX4_tryEnds cX4_tryEnds 5 none, Cond.methodLink RX4 265 yX4_tryEnd, Cond.instanceMethod yX4_tryEnd, Cond.selects RX4 yX4_tryEnd yX4_tryEnd]
def wsX4_findChain : List Cond := .code yX4_findChain cX4_findChain 4 (some .boolean) :: ((wsX4_findChain_r1 ++ (wsX4_findChain_r2 ++ (wsX4_findChain_r3 ++ (wsX4_findChain_r4 ++ wsX4_findChain_r5)))) ++ wsX40 ++ wsX20 ++ wsX00 ++ wsX30)
def wsX4_best_r1 : List Cond := [Cond.fieldLink RX4 141 "NightRiders$Request" "sent" "Z", Cond.fieldLink RX4 144 "NightRiders$Request" "from" "I", Cond.fieldLink RX4 147 "NightRiders$Request" "ready" "I", Cond.fieldLink RX4 32 "NightRiders" "chosen" "LNightRiders$Chain;", Cond.methodLink RX4 137 yX4_requestAt, Cond.instanceMethod yX4_requestAt, Cond.selects RX4 yX4_requestAt yX4_requestAt, Cond.initialized RX4, Cond.code yX4_requestAt cX4_requestAt 2 (some (.object "NightRiders$Request")), Cond.fieldLink RX4 42 "NightRiders" "requestCount" "I", Cond.fieldLink RX4 21 "NightRiders" "requests" "[LNightRiders$Request;", Cond.methodLink RX4 150 yX4_findChain, Cond.instanceMethod yX4_findChain, Cond.selects RX4 yX4_findChain yX4_findChain, Cond.code yX4_findChain cX4_findChain 4 (some .boolean), Cond.fieldLink RX4 28 "NightRiders" "trial" "LNightRiders$Chain;", Cond.fieldLink RX4 163 "NightRiders$Request" "kind" "I", Cond.fieldLink RX4 235 "NightRiders$Chain" "kind" "I", Cond.fieldLink RX4 166 "NightRiders$Request" "to" "I", Cond.fieldLink RX4 236 "NightRiders$Chain" "goal" "I", Cond.fieldLink RX4 239 "NightRiders$Chain" "length" "I", Cond.methodLink RX4 242 yX4_tryRiders, Cond.instanceMethod yX4_tryRiders, Cond.selects RX4 yX4_tryRiders yX4_tryRiders]
def wsX4_best_r2 : List Cond := [Cond.code yX4_tryRiders cX4_tryRiders 8 none, Cond.fieldLink RX4 39 "NightRiders" "riderCount" "I", Cond.methodLink RX4 131 Lib.Math.max.name, Cond.static Lib.Math.max.name, Cond.initialized "java/lang/Math", Cond.code Lib.Math.max.name Lib.Math.max.code 2 (some .int), Cond.methodLink RX4 55 yX4_riderAt, Cond.instanceMethod yX4_riderAt, Cond.selects RX4 yX4_riderAt yX4_riderAt, Cond.code yX4_riderAt cX4_riderAt 2 (some (.object "NightRiders$Rider")), Cond.fieldLink RX4 15 "NightRiders" "riders" "[LNightRiders$Rider;", Cond.methodLink RX4 121 yX3_carries, Cond.instanceMethod yX3_carries, Cond.selects RX3 yX3_carries yX3_carries, Cond.initialized RX3, Cond.code yX3_carries cX3_carries 2 (some .boolean), Cond.fieldLink RX3 22 "NightRiders$Rider" "failed" "Z", Cond.fieldLink RX3 38 "NightRiders$Rider" "kinds" "I", Cond.static yX4_hasBit, Cond.code yX4_hasBit cX4_hasBit 2 (some .boolean), Cond.methodLink RX4 246 yX0_isRiddenBy, Cond.instanceMethod yX0_isRiddenBy, Cond.selects RX0 yX0_isRiddenBy yX0_isRiddenBy, Cond.initialized RX0]
def wsX4_best_r3 : List Cond := [Cond.code yX0_isRiddenBy cX0_isRiddenBy 4 (some .boolean), Cond.fieldLink RX0 9 "NightRiders$Chain" "riders" "[I", Cond.methodLink RX4 207 yX4_thereFrom, Cond.instanceMethod yX4_thereFrom, Cond.selects RX4 yX4_thereFrom yX4_thereFrom, Cond.code yX4_thereFrom cX4_thereFrom 4 (some .int), Cond.fieldLink RX4 94 "NightRiders$Rider" "at" "I", Cond.fieldLink RX4 101 "NightRiders$Rider" "free" "I", Cond.fieldLink RX4 224 "NightRiders$Rider" "dutyFrom" "I", Cond.methodLink RX4 80 yX4_wayOf, Cond.instanceMethod yX4_wayOf, Cond.selects RX4 yX4_wayOf yX4_wayOf, Cond.code yX4_wayOf cX4_wayOf 4 (some .int), Cond.fieldLink RX4 214 "NightRiders$Rider" "ways" "[I", Cond.methodLink RX4 51 yX4_isPlace, Cond.instanceMethod yX4_isPlace, Cond.selects RX4 yX4_isPlace yX4_isPlace, Cond.code yX4_isPlace cX4_isPlace 2 (some .boolean), Cond.fieldLink RX4 35 "NightRiders" "placeCount" "I", Cond.methodLink RX4 249 yX4_isTooLate, Cond.instanceMethod yX4_isTooLate, Cond.selects RX4 yX4_isTooLate yX4_isTooLate, Cond.code yX4_isTooLate cX4_isTooLate 2 (some .boolean), Cond.methodLink RX4 154 yX0_lastEnd]
def wsX4_best_r4 : List Cond := [Cond.instanceMethod yX0_lastEnd, Cond.selects RX0 yX0_lastEnd yX0_lastEnd, Cond.code yX0_lastEnd cX0_lastEnd 1 (some .int), Cond.fieldLink RX0 27 "NightRiders$Chain" "length" "I", Cond.fieldLink RX0 24 "NightRiders$Chain" "ends" "[I", Cond.methodLink RX4 252 yX4_waitsUntil, Cond.instanceMethod yX4_waitsUntil, Cond.selects RX4 yX4_waitsUntil yX4_waitsUntil, Cond.code yX4_waitsUntil cX4_waitsUntil 4 (some .boolean), Cond.fieldLink RX4 263 "NightRiders$Chain" "riders" "[I", Cond.fieldLink RX4 211 "NightRiders$Rider" "dutyTo" "I", Cond.methodLink RX4 255 yX0_open, Cond.instanceMethod yX0_open, Cond.selects RX0 yX0_open yX0_open, Cond.code yX0_open cX0_open 5 none, Cond.fieldLink RX0 15 "NightRiders$Chain" "froms" "[I", Cond.fieldLink RX0 21 "NightRiders$Chain" "starts" "[I", Cond.methodLink RX4 259 yX4_tryEnds, Cond.instanceMethod yX4_tryEnds, Cond.selects RX4 yX4_tryEnds yX4_tryEnds, Cond.code yX4_tryEnd cX4_tryEnd 6 none, Cond.methodLink RX4 269 yX0_fromOf, Cond.instanceMethod yX0_fromOf, Cond.selects RX0 yX0_fromOf yX0_fromOf]
def wsX4_best_r5 : List Cond := [Cond.code yX0_fromOf cX0_fromOf 2 (some .int), Cond.methodLink RX4 272 yX0_comesFrom, Cond.instanceMethod yX0_comesFrom, Cond.selects RX0 yX0_comesFrom yX0_comesFrom, Cond.code yX0_comesFrom cX0_comesFrom 4 (some .boolean), Cond.methodLink RX4 275 yX0_close, Cond.instanceMethod yX0_close, Cond.selects RX0 yX0_close yX0_close, Cond.code yX0_close cX0_close 4 none, Cond.fieldLink RX0 18 "NightRiders$Chain" "tos" "[I", Cond.methodLink RX4 278 yX4_keepIfBetter, Cond.instanceMethod yX4_keepIfBetter, Cond.selects RX4 yX4_keepIfBetter yX4_keepIfBetter, Cond.code yX4_keepIfBetter cX4_keepIfBetter 3 none, Cond.methodLink RX4 281 yX0_take, Cond.instanceMethod yX0_take, Cond.selects RX0 yX0_take yX0_take, Cond.code yX0_take cX0_take 3 none, Cond.code yX4_tryEnds cX4_tryEnds 5 none, Cond.methodLink RX4 265 yX4_tryEnd, Cond.instanceMethod yX4_tryEnd, Cond.selects RX4 yX4_tryEnd yX4_tryEnd]
def wsX4_best : List Cond := .code yX4_best cX4_best 3 (some .int) :: ((wsX4_best_r1 ++ (wsX4_best_r2 ++ (wsX4_best_r3 ++ (wsX4_best_r4 ++ wsX4_best_r5)))) ++ wsX20 ++ wsX40 ++ wsX00 ++ wsX30)
def wsX4_rideChosen_r1 : List Cond := [Cond.fieldLink RX4 32 "NightRiders" "chosen" "LNightRiders$Chain;", Cond.fieldLink RX4 239 "NightRiders$Chain" "length" "I", Cond.fieldLink RX4 263 "NightRiders$Chain" "riders" "[I", Cond.fieldLink RX4 285 "NightRiders$Chain" "starts" "[I", Cond.fieldLink RX4 287 "NightRiders$Chain" "ends" "[I", Cond.fieldLink RX4 289 "NightRiders$Chain" "tos" "[I", Cond.classLink RX4 183 RX1, Cond.instantiable RX1 8, Cond.initialized RX1, Cond.fieldLink RX4 292 "NightRiders$Chain" "froms" "[I", Cond.fieldLink RX4 94 "NightRiders$Rider" "at" "I", Cond.fieldLink RX4 101 "NightRiders$Rider" "free" "I", Cond.fieldLink RX4 45 "NightRiders" "resting" "I", Cond.fieldLink RX4 104 "NightRiders$Rider" "legsRidden" "I", Cond.fieldLink RX4 107 "NightRiders$Rider" "boxMinutes" "I", Cond.methodLink RX4 55 yX4_riderAt, Cond.instanceMethod yX4_riderAt, Cond.selects RX4 yX4_riderAt yX4_riderAt, Cond.initialized RX4, Cond.code yX4_riderAt cX4_riderAt 2 (some (.object "NightRiders$Rider")), Cond.fieldLink RX4 39 "NightRiders" "riderCount" "I", Cond.fieldLink RX4 15 "NightRiders" "riders" "[LNightRiders$Rider;", Cond.methodLink RX4 295 yX1_init, Cond.instanceMethod yX1_init]
def wsX4_rideChosen_r2 : List Cond := [Cond.code yX1_init cX1_init 8 none, Cond.methodLink RX1 1 objectInit, Cond.instanceMethod objectInit, Cond.code objectInit ⟨#[0xb1]⟩ 1 none, Cond.fieldLink RX1 7 "NightRiders$Leg" "failed" "Z", Cond.fieldLink RX1 13 "NightRiders$Leg" "rider" "I", Cond.fieldLink RX1 17 "NightRiders$Leg" "from" "I", Cond.fieldLink RX1 20 "NightRiders$Leg" "to" "I", Cond.fieldLink RX1 23 "NightRiders$Leg" "starts" "I", Cond.fieldLink RX1 26 "NightRiders$Leg" "ends" "I", Cond.fieldLink RX1 29 "NightRiders$Leg" "atAhead" "I", Cond.fieldLink RX1 32 "NightRiders$Leg" "freeAhead" "I", Cond.methodLink RX4 298 yX2_addLeg, Cond.instanceMethod yX2_addLeg, Cond.selects RX2 yX2_addLeg yX2_addLeg, Cond.initialized RX2, Cond.code yX2_addLeg cX2_addLeg 2 none, Cond.fieldLink RX2 17 "NightRiders$Request" "legCount" "I", Cond.fieldLink RX2 11 "NightRiders$Request" "legs" "[LNightRiders$Leg;", Cond.methodLink RX4 302 yX0_handsOn, Cond.instanceMethod yX0_handsOn, Cond.selects RX0 yX0_handsOn yX0_handsOn, Cond.initialized RX0, Cond.code yX0_handsOn cX0_handsOn 2 (some .int)]
def wsX4_rideChosen_r3 : List Cond := [Cond.fieldLink RX0 27 "NightRiders$Chain" "length" "I", Cond.fieldLink RX0 21 "NightRiders$Chain" "starts" "[I", Cond.methodLink RX0 37 yX0_lastEnd, Cond.instanceMethod yX0_lastEnd, Cond.selects RX0 yX0_lastEnd yX0_lastEnd, Cond.code yX0_lastEnd cX0_lastEnd 1 (some .int), Cond.fieldLink RX0 24 "NightRiders$Chain" "ends" "[I"]
def wsX4_rideChosen : List Cond := .code yX4_rideChosen cX4_rideChosen 7 none :: ((wsX4_rideChosen_r1 ++ (wsX4_rideChosen_r2 ++ wsX4_rideChosen_r3)) ++ wsX40 ++ wsX00 ++ wsX10 ++ wsX30 ++ wsX20)
def wsX4_send_r1 : List Cond := [Cond.fieldLink RX4 141 "NightRiders$Request" "sent" "Z", Cond.fieldLink RX4 144 "NightRiders$Request" "from" "I", Cond.fieldLink RX4 147 "NightRiders$Request" "ready" "I", Cond.fieldLink RX4 48 "NightRiders" "lastSent" "I", Cond.methodLink RX4 137 yX4_requestAt, Cond.instanceMethod yX4_requestAt, Cond.selects RX4 yX4_requestAt yX4_requestAt, Cond.initialized RX4, Cond.code yX4_requestAt cX4_requestAt 2 (some (.object "NightRiders$Request")), Cond.fieldLink RX4 42 "NightRiders" "requestCount" "I", Cond.fieldLink RX4 21 "NightRiders" "requests" "[LNightRiders$Request;", Cond.methodLink RX4 150 yX4_findChain, Cond.instanceMethod yX4_findChain, Cond.selects RX4 yX4_findChain yX4_findChain, Cond.code yX4_findChain cX4_findChain 4 (some .boolean), Cond.fieldLink RX4 28 "NightRiders" "trial" "LNightRiders$Chain;", Cond.fieldLink RX4 163 "NightRiders$Request" "kind" "I", Cond.fieldLink RX4 235 "NightRiders$Chain" "kind" "I", Cond.fieldLink RX4 166 "NightRiders$Request" "to" "I", Cond.fieldLink RX4 236 "NightRiders$Chain" "goal" "I", Cond.fieldLink RX4 32 "NightRiders" "chosen" "LNightRiders$Chain;", Cond.fieldLink RX4 239 "NightRiders$Chain" "length" "I", Cond.methodLink RX4 242 yX4_tryRiders, Cond.instanceMethod yX4_tryRiders]
def wsX4_send_r2 : List Cond := [Cond.selects RX4 yX4_tryRiders yX4_tryRiders, Cond.code yX4_tryRiders cX4_tryRiders 8 none, Cond.fieldLink RX4 39 "NightRiders" "riderCount" "I", Cond.methodLink RX4 131 Lib.Math.max.name, Cond.static Lib.Math.max.name, Cond.initialized "java/lang/Math", Cond.code Lib.Math.max.name Lib.Math.max.code 2 (some .int), Cond.methodLink RX4 55 yX4_riderAt, Cond.instanceMethod yX4_riderAt, Cond.selects RX4 yX4_riderAt yX4_riderAt, Cond.code yX4_riderAt cX4_riderAt 2 (some (.object "NightRiders$Rider")), Cond.fieldLink RX4 15 "NightRiders" "riders" "[LNightRiders$Rider;", Cond.methodLink RX4 121 yX3_carries, Cond.instanceMethod yX3_carries, Cond.selects RX3 yX3_carries yX3_carries, Cond.initialized RX3, Cond.code yX3_carries cX3_carries 2 (some .boolean), Cond.fieldLink RX3 22 "NightRiders$Rider" "failed" "Z", Cond.fieldLink RX3 38 "NightRiders$Rider" "kinds" "I", Cond.static yX4_hasBit, Cond.code yX4_hasBit cX4_hasBit 2 (some .boolean), Cond.methodLink RX4 246 yX0_isRiddenBy, Cond.instanceMethod yX0_isRiddenBy, Cond.selects RX0 yX0_isRiddenBy yX0_isRiddenBy]
def wsX4_send_r3 : List Cond := [Cond.initialized RX0, Cond.code yX0_isRiddenBy cX0_isRiddenBy 4 (some .boolean), Cond.fieldLink RX0 9 "NightRiders$Chain" "riders" "[I", Cond.methodLink RX4 207 yX4_thereFrom, Cond.instanceMethod yX4_thereFrom, Cond.selects RX4 yX4_thereFrom yX4_thereFrom, Cond.code yX4_thereFrom cX4_thereFrom 4 (some .int), Cond.fieldLink RX4 94 "NightRiders$Rider" "at" "I", Cond.fieldLink RX4 101 "NightRiders$Rider" "free" "I", Cond.fieldLink RX4 224 "NightRiders$Rider" "dutyFrom" "I", Cond.methodLink RX4 80 yX4_wayOf, Cond.instanceMethod yX4_wayOf, Cond.selects RX4 yX4_wayOf yX4_wayOf, Cond.code yX4_wayOf cX4_wayOf 4 (some .int), Cond.fieldLink RX4 214 "NightRiders$Rider" "ways" "[I", Cond.methodLink RX4 51 yX4_isPlace, Cond.instanceMethod yX4_isPlace, Cond.selects RX4 yX4_isPlace yX4_isPlace, Cond.code yX4_isPlace cX4_isPlace 2 (some .boolean), Cond.fieldLink RX4 35 "NightRiders" "placeCount" "I", Cond.methodLink RX4 249 yX4_isTooLate, Cond.instanceMethod yX4_isTooLate, Cond.selects RX4 yX4_isTooLate yX4_isTooLate, Cond.code yX4_isTooLate cX4_isTooLate 2 (some .boolean)]
def wsX4_send_r4 : List Cond := [Cond.methodLink RX4 154 yX0_lastEnd, Cond.instanceMethod yX0_lastEnd, Cond.selects RX0 yX0_lastEnd yX0_lastEnd, Cond.code yX0_lastEnd cX0_lastEnd 1 (some .int), Cond.fieldLink RX0 27 "NightRiders$Chain" "length" "I", Cond.fieldLink RX0 24 "NightRiders$Chain" "ends" "[I", Cond.methodLink RX4 252 yX4_waitsUntil, Cond.instanceMethod yX4_waitsUntil, Cond.selects RX4 yX4_waitsUntil yX4_waitsUntil, Cond.code yX4_waitsUntil cX4_waitsUntil 4 (some .boolean), Cond.fieldLink RX4 263 "NightRiders$Chain" "riders" "[I", Cond.fieldLink RX4 211 "NightRiders$Rider" "dutyTo" "I", Cond.methodLink RX4 255 yX0_open, Cond.instanceMethod yX0_open, Cond.selects RX0 yX0_open yX0_open, Cond.code yX0_open cX0_open 5 none, Cond.fieldLink RX0 15 "NightRiders$Chain" "froms" "[I", Cond.fieldLink RX0 21 "NightRiders$Chain" "starts" "[I", Cond.methodLink RX4 259 yX4_tryEnds, Cond.instanceMethod yX4_tryEnds, Cond.selects RX4 yX4_tryEnds yX4_tryEnds, Cond.code yX4_tryEnd cX4_tryEnd 6 none, Cond.methodLink RX4 269 yX0_fromOf, Cond.instanceMethod yX0_fromOf]
def wsX4_send_r5 : List Cond := [Cond.selects RX0 yX0_fromOf yX0_fromOf, Cond.code yX0_fromOf cX0_fromOf 2 (some .int), Cond.methodLink RX4 272 yX0_comesFrom, Cond.instanceMethod yX0_comesFrom, Cond.selects RX0 yX0_comesFrom yX0_comesFrom, Cond.code yX0_comesFrom cX0_comesFrom 4 (some .boolean), Cond.methodLink RX4 275 yX0_close, Cond.instanceMethod yX0_close, Cond.selects RX0 yX0_close yX0_close, Cond.code yX0_close cX0_close 4 none, Cond.fieldLink RX0 18 "NightRiders$Chain" "tos" "[I", Cond.methodLink RX4 278 yX4_keepIfBetter, Cond.instanceMethod yX4_keepIfBetter, Cond.selects RX4 yX4_keepIfBetter yX4_keepIfBetter, Cond.code yX4_keepIfBetter cX4_keepIfBetter 3 none, Cond.methodLink RX4 281 yX0_take, Cond.instanceMethod yX0_take, Cond.selects RX0 yX0_take yX0_take, Cond.code yX0_take cX0_take 3 none, Cond.code yX4_tryEnds cX4_tryEnds 5 none, Cond.methodLink RX4 265 yX4_tryEnd, Cond.instanceMethod yX4_tryEnd, Cond.selects RX4 yX4_tryEnd yX4_tryEnd, Cond.methodLink RX4 158 yX4_rideChosen]
def wsX4_send_r6 : List Cond := [Cond.instanceMethod yX4_rideChosen, Cond.selects RX4 yX4_rideChosen yX4_rideChosen, Cond.code yX4_rideChosen cX4_rideChosen 7 none, Cond.fieldLink RX4 285 "NightRiders$Chain" "starts" "[I", Cond.fieldLink RX4 287 "NightRiders$Chain" "ends" "[I", Cond.fieldLink RX4 289 "NightRiders$Chain" "tos" "[I", Cond.classLink RX4 183 RX1, Cond.instantiable RX1 8, Cond.initialized RX1, Cond.fieldLink RX4 292 "NightRiders$Chain" "froms" "[I", Cond.fieldLink RX4 45 "NightRiders" "resting" "I", Cond.fieldLink RX4 104 "NightRiders$Rider" "legsRidden" "I", Cond.fieldLink RX4 107 "NightRiders$Rider" "boxMinutes" "I", Cond.methodLink RX4 295 yX1_init, Cond.instanceMethod yX1_init, Cond.code yX1_init cX1_init 8 none, Cond.methodLink RX1 1 objectInit, Cond.instanceMethod objectInit, Cond.code objectInit ⟨#[0xb1]⟩ 1 none, Cond.fieldLink RX1 7 "NightRiders$Leg" "failed" "Z", Cond.fieldLink RX1 13 "NightRiders$Leg" "rider" "I", Cond.fieldLink RX1 17 "NightRiders$Leg" "from" "I", Cond.fieldLink RX1 20 "NightRiders$Leg" "to" "I", Cond.fieldLink RX1 23 "NightRiders$Leg" "starts" "I"]
def wsX4_send_r7 : List Cond := [Cond.fieldLink RX1 26 "NightRiders$Leg" "ends" "I", Cond.fieldLink RX1 29 "NightRiders$Leg" "atAhead" "I", Cond.fieldLink RX1 32 "NightRiders$Leg" "freeAhead" "I", Cond.methodLink RX4 298 yX2_addLeg, Cond.instanceMethod yX2_addLeg, Cond.selects RX2 yX2_addLeg yX2_addLeg, Cond.initialized RX2, Cond.code yX2_addLeg cX2_addLeg 2 none, Cond.fieldLink RX2 17 "NightRiders$Request" "legCount" "I", Cond.fieldLink RX2 11 "NightRiders$Request" "legs" "[LNightRiders$Leg;", Cond.methodLink RX4 302 yX0_handsOn, Cond.instanceMethod yX0_handsOn, Cond.selects RX0 yX0_handsOn yX0_handsOn, Cond.code yX0_handsOn cX0_handsOn 2 (some .int), Cond.methodLink RX0 37 yX0_lastEnd, Cond.methodLink RX4 162 yX2_lastEnd, Cond.instanceMethod yX2_lastEnd, Cond.selects RX2 yX2_lastEnd yX2_lastEnd, Cond.code yX2_lastEnd cX2_lastEnd 2 (some .int), Cond.fieldLink RX2 47 "NightRiders$Leg" "ends" "I", Cond.methodLink RX2 43 yX2_legAt, Cond.instanceMethod yX2_legAt, Cond.selects RX2 yX2_legAt yX2_legAt, Cond.code yX2_legAt cX2_legAt 2 (some (.object "NightRiders$Leg"))]
def wsX4_send : List Cond := .code yX4_send cX4_send 3 (some .int) :: ((wsX4_send_r1 ++ (wsX4_send_r2 ++ (wsX4_send_r3 ++ (wsX4_send_r4 ++ (wsX4_send_r5 ++ (wsX4_send_r6 ++ wsX4_send_r7)))))) ++ wsX20 ++ wsX40 ++ wsX00 ++ wsX30 ++ wsX10)
def wsX4_told_r1 : List Cond := [Cond.fieldLink RX4 163 "NightRiders$Request" "kind" "I", Cond.fieldLink RX4 144 "NightRiders$Request" "from" "I", Cond.fieldLink RX4 166 "NightRiders$Request" "to" "I", Cond.fieldLink RX4 147 "NightRiders$Request" "ready" "I", Cond.fieldLink RX4 169 "NightRiders$Request" "cold" "I", Cond.fieldLink RX4 172 "NightRiders$Request" "lost" "Z", Cond.fieldLink RX4 141 "NightRiders$Request" "sent" "Z", Cond.fieldLink RX4 175 "NightRiders$Request" "legCount" "I", Cond.methodLink RX4 137 yX4_requestAt, Cond.instanceMethod yX4_requestAt, Cond.selects RX4 yX4_requestAt yX4_requestAt, Cond.initialized RX4, Cond.code yX4_requestAt cX4_requestAt 2 (some (.object "NightRiders$Request")), Cond.fieldLink RX4 42 "NightRiders" "requestCount" "I", Cond.fieldLink RX4 21 "NightRiders" "requests" "[LNightRiders$Request;", Cond.methodLink RX4 162 yX2_lastEnd, Cond.instanceMethod yX2_lastEnd, Cond.selects RX2 yX2_lastEnd yX2_lastEnd, Cond.initialized RX2, Cond.code yX2_lastEnd cX2_lastEnd 2 (some .int), Cond.fieldLink RX2 17 "NightRiders$Request" "legCount" "I", Cond.fieldLink RX2 47 "NightRiders$Leg" "ends" "I", Cond.methodLink RX2 43 yX2_legAt, Cond.instanceMethod yX2_legAt]
def wsX4_told_r2 : List Cond := [Cond.selects RX2 yX2_legAt yX2_legAt, Cond.code yX2_legAt cX2_legAt 2 (some (.object "NightRiders$Leg")), Cond.fieldLink RX2 11 "NightRiders$Request" "legs" "[LNightRiders$Leg;"]
def wsX4_told : List Cond := .code yX4_told cX4_told 4 (some .int) :: ((wsX4_told_r1 ++ wsX4_told_r2) ++ wsX20 ++ wsX40 ++ wsX10)
def wsX4_leg : List Cond := .code yX4_leg cX4_leg 6 (some .int) :: ([.fieldLink RX4 182 "NightRiders$Leg" "rider" "I", .fieldLink RX4 187 "NightRiders$Leg" "from" "I", .fieldLink RX4 188 "NightRiders$Leg" "to" "I", .fieldLink RX4 189 "NightRiders$Leg" "starts" "I", .fieldLink RX4 192 "NightRiders$Leg" "ends" "I", .fieldLink RX4 195 "NightRiders$Leg" "failed" "Z", .methodLink RX4 137 yX4_requestAt, .instanceMethod yX4_requestAt, .selects RX4 yX4_requestAt yX4_requestAt, .initialized RX4, .code yX4_requestAt cX4_requestAt 2 (some (.object "NightRiders$Request")), .fieldLink RX4 42 "NightRiders" "requestCount" "I", .fieldLink RX4 21 "NightRiders" "requests" "[LNightRiders$Request;", .methodLink RX4 178 yX2_legAt, .instanceMethod yX2_legAt, .selects RX2 yX2_legAt yX2_legAt, .initialized RX2, .code yX2_legAt cX2_legAt 2 (some (.object "NightRiders$Leg")), .fieldLink RX2 17 "NightRiders$Request" "legCount" "I", .fieldLink RX2 11 "NightRiders$Request" "legs" "[LNightRiders$Leg;"] ++ wsX10 ++ wsX40 ++ wsX20)
def wsX4_hand_r1 : List Cond := [Cond.fieldLink RX4 141 "NightRiders$Request" "sent" "Z", Cond.fieldLink RX4 175 "NightRiders$Request" "legCount" "I", Cond.fieldLink RX4 189 "NightRiders$Leg" "starts" "I", Cond.fieldLink RX4 182 "NightRiders$Leg" "rider" "I", Cond.methodLink RX4 137 yX4_requestAt, Cond.instanceMethod yX4_requestAt, Cond.selects RX4 yX4_requestAt yX4_requestAt, Cond.initialized RX4, Cond.code yX4_requestAt cX4_requestAt 2 (some (.object "NightRiders$Request")), Cond.fieldLink RX4 42 "NightRiders" "requestCount" "I", Cond.fieldLink RX4 21 "NightRiders" "requests" "[LNightRiders$Request;", Cond.methodLink RX4 70 yX4_isMinute, Cond.static yX4_isMinute, Cond.code yX4_isMinute cX4_isMinute 1 (some .boolean), Cond.methodLink RX4 162 yX2_lastEnd, Cond.instanceMethod yX2_lastEnd, Cond.selects RX2 yX2_lastEnd yX2_lastEnd, Cond.initialized RX2, Cond.code yX2_lastEnd cX2_lastEnd 2 (some .int), Cond.fieldLink RX2 17 "NightRiders$Request" "legCount" "I", Cond.fieldLink RX2 47 "NightRiders$Leg" "ends" "I", Cond.methodLink RX2 43 yX2_legAt, Cond.instanceMethod yX2_legAt, Cond.selects RX2 yX2_legAt yX2_legAt]
def wsX4_hand_r2 : List Cond := [Cond.code yX2_legAt cX2_legAt 2 (some (.object "NightRiders$Leg")), Cond.fieldLink RX2 11 "NightRiders$Request" "legs" "[LNightRiders$Leg;", Cond.methodLink RX4 178 yX2_legAt]
def wsX4_hand : List Cond := .code yX4_hand cX4_hand 6 (some .int) :: ((wsX4_hand_r1 ++ wsX4_hand_r2) ++ wsX20 ++ wsX10 ++ wsX40)
def wsX4_mayFail : List Cond := .code yX4_mayFail cX4_mayFail 6 (some .boolean) :: ([.fieldLink RX4 189 "NightRiders$Leg" "starts" "I", .fieldLink RX4 192 "NightRiders$Leg" "ends" "I", .fieldLink RX4 175 "NightRiders$Request" "legCount" "I", .fieldLink RX4 195 "NightRiders$Leg" "failed" "Z", .methodLink RX4 178 yX2_legAt, .instanceMethod yX2_legAt, .selects RX2 yX2_legAt yX2_legAt, .initialized RX2, .code yX2_legAt cX2_legAt 2 (some (.object "NightRiders$Leg")), .fieldLink RX2 17 "NightRiders$Request" "legCount" "I", .fieldLink RX2 11 "NightRiders$Request" "legs" "[LNightRiders$Leg;"] ++ wsX10 ++ wsX20)
def wsX4_dropLegsBehind : List Cond := .code yX4_dropLegsBehind cX4_dropLegsBehind 6 none :: ([.fieldLink RX4 175 "NightRiders$Request" "legCount" "I", .fieldLink RX4 182 "NightRiders$Leg" "rider" "I", .fieldLink RX4 305 "NightRiders$Leg" "atAhead" "I", .fieldLink RX4 94 "NightRiders$Rider" "at" "I", .fieldLink RX4 308 "NightRiders$Leg" "freeAhead" "I", .fieldLink RX4 101 "NightRiders$Rider" "free" "I", .fieldLink RX4 104 "NightRiders$Rider" "legsRidden" "I", .fieldLink RX4 107 "NightRiders$Rider" "boxMinutes" "I", .fieldLink RX4 192 "NightRiders$Leg" "ends" "I", .fieldLink RX4 189 "NightRiders$Leg" "starts" "I", .methodLink RX4 178 yX2_legAt, .instanceMethod yX2_legAt, .selects RX2 yX2_legAt yX2_legAt, .initialized RX2, .code yX2_legAt cX2_legAt 2 (some (.object "NightRiders$Leg")), .fieldLink RX2 17 "NightRiders$Request" "legCount" "I", .fieldLink RX2 11 "NightRiders$Request" "legs" "[LNightRiders$Leg;", .methodLink RX4 55 yX4_riderAt, .instanceMethod yX4_riderAt, .selects RX4 yX4_riderAt yX4_riderAt, .initialized RX4, .code yX4_riderAt cX4_riderAt 2 (some (.object "NightRiders$Rider")), .fieldLink RX4 39 "NightRiders" "riderCount" "I", .fieldLink RX4 15 "NightRiders" "riders" "[LNightRiders$Rider;"] ++ wsX20 ++ wsX10 ++ wsX30 ++ wsX40)
def wsX4_failLeg : List Cond := .code yX4_failLeg cX4_failLeg 4 none :: ([.fieldLink RX4 182 "NightRiders$Leg" "rider" "I", .fieldLink RX4 107 "NightRiders$Rider" "boxMinutes" "I", .fieldLink RX4 192 "NightRiders$Leg" "ends" "I", .fieldLink RX4 187 "NightRiders$Leg" "from" "I", .fieldLink RX4 94 "NightRiders$Rider" "at" "I", .fieldLink RX4 97 "NightRiders$Rider" "failed" "Z", .fieldLink RX4 188 "NightRiders$Leg" "to" "I", .fieldLink RX4 195 "NightRiders$Leg" "failed" "Z", .methodLink RX4 55 yX4_riderAt, .instanceMethod yX4_riderAt, .selects RX4 yX4_riderAt yX4_riderAt, .initialized RX4, .code yX4_riderAt cX4_riderAt 2 (some (.object "NightRiders$Rider")), .fieldLink RX4 39 "NightRiders" "riderCount" "I", .fieldLink RX4 15 "NightRiders" "riders" "[LNightRiders$Rider;"] ++ wsX10 ++ wsX30 ++ wsX40)
def wsX4_fail_r1 : List Cond := [Cond.fieldLink RX4 48 "NightRiders" "lastSent" "I", Cond.fieldLink RX4 187 "NightRiders$Leg" "from" "I", Cond.fieldLink RX4 172 "NightRiders$Request" "lost" "Z", Cond.methodLink RX4 137 yX4_requestAt, Cond.instanceMethod yX4_requestAt, Cond.selects RX4 yX4_requestAt yX4_requestAt, Cond.initialized RX4, Cond.code yX4_requestAt cX4_requestAt 2 (some (.object "NightRiders$Request")), Cond.fieldLink RX4 42 "NightRiders" "requestCount" "I", Cond.fieldLink RX4 21 "NightRiders" "requests" "[LNightRiders$Request;", Cond.methodLink RX4 196 yX4_mayFail, Cond.static yX4_mayFail, Cond.code yX4_mayFail cX4_mayFail 6 (some .boolean), Cond.fieldLink RX4 189 "NightRiders$Leg" "starts" "I", Cond.fieldLink RX4 192 "NightRiders$Leg" "ends" "I", Cond.fieldLink RX4 175 "NightRiders$Request" "legCount" "I", Cond.fieldLink RX4 195 "NightRiders$Leg" "failed" "Z", Cond.methodLink RX4 178 yX2_legAt, Cond.instanceMethod yX2_legAt, Cond.selects RX2 yX2_legAt yX2_legAt, Cond.initialized RX2, Cond.code yX2_legAt cX2_legAt 2 (some (.object "NightRiders$Leg")), Cond.fieldLink RX2 17 "NightRiders$Request" "legCount" "I", Cond.fieldLink RX2 11 "NightRiders$Request" "legs" "[LNightRiders$Leg;"]
def wsX4_fail_r2 : List Cond := [Cond.methodLink RX4 199 yX4_dropLegsBehind, Cond.instanceMethod yX4_dropLegsBehind, Cond.selects RX4 yX4_dropLegsBehind yX4_dropLegsBehind, Cond.code yX4_dropLegsBehind cX4_dropLegsBehind 6 none, Cond.fieldLink RX4 182 "NightRiders$Leg" "rider" "I", Cond.fieldLink RX4 305 "NightRiders$Leg" "atAhead" "I", Cond.fieldLink RX4 94 "NightRiders$Rider" "at" "I", Cond.fieldLink RX4 308 "NightRiders$Leg" "freeAhead" "I", Cond.fieldLink RX4 101 "NightRiders$Rider" "free" "I", Cond.fieldLink RX4 104 "NightRiders$Rider" "legsRidden" "I", Cond.fieldLink RX4 107 "NightRiders$Rider" "boxMinutes" "I", Cond.methodLink RX4 55 yX4_riderAt, Cond.instanceMethod yX4_riderAt, Cond.selects RX4 yX4_riderAt yX4_riderAt, Cond.code yX4_riderAt cX4_riderAt 2 (some (.object "NightRiders$Rider")), Cond.fieldLink RX4 39 "NightRiders" "riderCount" "I", Cond.fieldLink RX4 15 "NightRiders" "riders" "[LNightRiders$Rider;", Cond.methodLink RX4 203 yX4_failLeg, Cond.instanceMethod yX4_failLeg, Cond.selects RX4 yX4_failLeg yX4_failLeg, Cond.code yX4_failLeg cX4_failLeg 4 none, Cond.fieldLink RX4 97 "NightRiders$Rider" "failed" "Z", Cond.fieldLink RX4 188 "NightRiders$Leg" "to" "I", Cond.methodLink RX4 150 yX4_findChain]
def wsX4_fail_r3 : List Cond := [Cond.instanceMethod yX4_findChain, Cond.selects RX4 yX4_findChain yX4_findChain, Cond.code yX4_findChain cX4_findChain 4 (some .boolean), Cond.fieldLink RX4 28 "NightRiders" "trial" "LNightRiders$Chain;", Cond.fieldLink RX4 163 "NightRiders$Request" "kind" "I", Cond.fieldLink RX4 235 "NightRiders$Chain" "kind" "I", Cond.fieldLink RX4 166 "NightRiders$Request" "to" "I", Cond.fieldLink RX4 236 "NightRiders$Chain" "goal" "I", Cond.fieldLink RX4 32 "NightRiders" "chosen" "LNightRiders$Chain;", Cond.fieldLink RX4 239 "NightRiders$Chain" "length" "I", Cond.methodLink RX4 242 yX4_tryRiders, Cond.instanceMethod yX4_tryRiders, Cond.selects RX4 yX4_tryRiders yX4_tryRiders, Cond.code yX4_tryRiders cX4_tryRiders 8 none, Cond.methodLink RX4 131 Lib.Math.max.name, Cond.static Lib.Math.max.name, Cond.initialized "java/lang/Math", Cond.code Lib.Math.max.name Lib.Math.max.code 2 (some .int), Cond.methodLink RX4 121 yX3_carries, Cond.instanceMethod yX3_carries, Cond.selects RX3 yX3_carries yX3_carries, Cond.initialized RX3, Cond.code yX3_carries cX3_carries 2 (some .boolean), Cond.fieldLink RX3 22 "NightRiders$Rider" "failed" "Z"]
def wsX4_fail_r4 : List Cond := [Cond.fieldLink RX3 38 "NightRiders$Rider" "kinds" "I", Cond.static yX4_hasBit, Cond.code yX4_hasBit cX4_hasBit 2 (some .boolean), Cond.methodLink RX4 246 yX0_isRiddenBy, Cond.instanceMethod yX0_isRiddenBy, Cond.selects RX0 yX0_isRiddenBy yX0_isRiddenBy, Cond.initialized RX0, Cond.code yX0_isRiddenBy cX0_isRiddenBy 4 (some .boolean), Cond.fieldLink RX0 9 "NightRiders$Chain" "riders" "[I", Cond.methodLink RX4 207 yX4_thereFrom, Cond.instanceMethod yX4_thereFrom, Cond.selects RX4 yX4_thereFrom yX4_thereFrom, Cond.code yX4_thereFrom cX4_thereFrom 4 (some .int), Cond.fieldLink RX4 224 "NightRiders$Rider" "dutyFrom" "I", Cond.methodLink RX4 80 yX4_wayOf, Cond.instanceMethod yX4_wayOf, Cond.selects RX4 yX4_wayOf yX4_wayOf, Cond.code yX4_wayOf cX4_wayOf 4 (some .int), Cond.fieldLink RX4 214 "NightRiders$Rider" "ways" "[I", Cond.methodLink RX4 51 yX4_isPlace, Cond.instanceMethod yX4_isPlace, Cond.selects RX4 yX4_isPlace yX4_isPlace, Cond.code yX4_isPlace cX4_isPlace 2 (some .boolean), Cond.fieldLink RX4 35 "NightRiders" "placeCount" "I"]
def wsX4_fail_r5 : List Cond := [Cond.methodLink RX4 249 yX4_isTooLate, Cond.instanceMethod yX4_isTooLate, Cond.selects RX4 yX4_isTooLate yX4_isTooLate, Cond.code yX4_isTooLate cX4_isTooLate 2 (some .boolean), Cond.methodLink RX4 154 yX0_lastEnd, Cond.instanceMethod yX0_lastEnd, Cond.selects RX0 yX0_lastEnd yX0_lastEnd, Cond.code yX0_lastEnd cX0_lastEnd 1 (some .int), Cond.fieldLink RX0 27 "NightRiders$Chain" "length" "I", Cond.fieldLink RX0 24 "NightRiders$Chain" "ends" "[I", Cond.methodLink RX4 252 yX4_waitsUntil, Cond.instanceMethod yX4_waitsUntil, Cond.selects RX4 yX4_waitsUntil yX4_waitsUntil, Cond.code yX4_waitsUntil cX4_waitsUntil 4 (some .boolean), Cond.fieldLink RX4 263 "NightRiders$Chain" "riders" "[I", Cond.fieldLink RX4 211 "NightRiders$Rider" "dutyTo" "I", Cond.methodLink RX4 255 yX0_open, Cond.instanceMethod yX0_open, Cond.selects RX0 yX0_open yX0_open, Cond.code yX0_open cX0_open 5 none, Cond.fieldLink RX0 15 "NightRiders$Chain" "froms" "[I", Cond.fieldLink RX0 21 "NightRiders$Chain" "starts" "[I", Cond.methodLink RX4 259 yX4_tryEnds, Cond.instanceMethod yX4_tryEnds]
def wsX4_fail_r6 : List Cond := [Cond.selects RX4 yX4_tryEnds yX4_tryEnds, Cond.code yX4_tryEnd cX4_tryEnd 6 none, Cond.methodLink RX4 269 yX0_fromOf, Cond.instanceMethod yX0_fromOf, Cond.selects RX0 yX0_fromOf yX0_fromOf, Cond.code yX0_fromOf cX0_fromOf 2 (some .int), Cond.methodLink RX4 272 yX0_comesFrom, Cond.instanceMethod yX0_comesFrom, Cond.selects RX0 yX0_comesFrom yX0_comesFrom, Cond.code yX0_comesFrom cX0_comesFrom 4 (some .boolean), Cond.methodLink RX4 275 yX0_close, Cond.instanceMethod yX0_close, Cond.selects RX0 yX0_close yX0_close, Cond.code yX0_close cX0_close 4 none, Cond.fieldLink RX0 18 "NightRiders$Chain" "tos" "[I", Cond.methodLink RX4 278 yX4_keepIfBetter, Cond.instanceMethod yX4_keepIfBetter, Cond.selects RX4 yX4_keepIfBetter yX4_keepIfBetter, Cond.code yX4_keepIfBetter cX4_keepIfBetter 3 none, Cond.methodLink RX4 281 yX0_take, Cond.instanceMethod yX0_take, Cond.selects RX0 yX0_take yX0_take, Cond.code yX0_take cX0_take 3 none, Cond.code yX4_tryEnds cX4_tryEnds 5 none]
def wsX4_fail_r7 : List Cond := [Cond.methodLink RX4 265 yX4_tryEnd, Cond.instanceMethod yX4_tryEnd, Cond.selects RX4 yX4_tryEnd yX4_tryEnd, Cond.methodLink RX4 158 yX4_rideChosen, Cond.instanceMethod yX4_rideChosen, Cond.selects RX4 yX4_rideChosen yX4_rideChosen, Cond.code yX4_rideChosen cX4_rideChosen 7 none, Cond.fieldLink RX4 285 "NightRiders$Chain" "starts" "[I", Cond.fieldLink RX4 287 "NightRiders$Chain" "ends" "[I", Cond.fieldLink RX4 289 "NightRiders$Chain" "tos" "[I", Cond.classLink RX4 183 RX1, Cond.instantiable RX1 8, Cond.initialized RX1, Cond.fieldLink RX4 292 "NightRiders$Chain" "froms" "[I", Cond.fieldLink RX4 45 "NightRiders" "resting" "I", Cond.methodLink RX4 295 yX1_init, Cond.instanceMethod yX1_init, Cond.code yX1_init cX1_init 8 none, Cond.methodLink RX1 1 objectInit, Cond.instanceMethod objectInit, Cond.code objectInit ⟨#[0xb1]⟩ 1 none, Cond.fieldLink RX1 7 "NightRiders$Leg" "failed" "Z", Cond.fieldLink RX1 13 "NightRiders$Leg" "rider" "I", Cond.fieldLink RX1 17 "NightRiders$Leg" "from" "I"]
def wsX4_fail_r8 : List Cond := [Cond.fieldLink RX1 20 "NightRiders$Leg" "to" "I", Cond.fieldLink RX1 23 "NightRiders$Leg" "starts" "I", Cond.fieldLink RX1 26 "NightRiders$Leg" "ends" "I", Cond.fieldLink RX1 29 "NightRiders$Leg" "atAhead" "I", Cond.fieldLink RX1 32 "NightRiders$Leg" "freeAhead" "I", Cond.methodLink RX4 298 yX2_addLeg, Cond.instanceMethod yX2_addLeg, Cond.selects RX2 yX2_addLeg yX2_addLeg, Cond.code yX2_addLeg cX2_addLeg 2 none, Cond.methodLink RX4 302 yX0_handsOn, Cond.instanceMethod yX0_handsOn, Cond.selects RX0 yX0_handsOn yX0_handsOn, Cond.code yX0_handsOn cX0_handsOn 2 (some .int), Cond.methodLink RX0 37 yX0_lastEnd, Cond.methodLink RX4 162 yX2_lastEnd, Cond.instanceMethod yX2_lastEnd, Cond.selects RX2 yX2_lastEnd yX2_lastEnd, Cond.code yX2_lastEnd cX2_lastEnd 2 (some .int), Cond.fieldLink RX2 47 "NightRiders$Leg" "ends" "I", Cond.methodLink RX2 43 yX2_legAt]
def wsX4_fail : List Cond := .code yX4_fail cX4_fail 6 (some .int) :: ((wsX4_fail_r1 ++ (wsX4_fail_r2 ++ (wsX4_fail_r3 ++ (wsX4_fail_r4 ++ (wsX4_fail_r5 ++ (wsX4_fail_r6 ++ (wsX4_fail_r7 ++ wsX4_fail_r8))))))) ++ wsX40 ++ wsX10 ++ wsX20 ++ wsX30 ++ wsX00)
def wsX4_next_r1 : List Cond := [Cond.fieldLink RX4 39 "NightRiders" "riderCount" "I", Cond.fieldLink RX4 211 "NightRiders$Rider" "dutyTo" "I", Cond.fieldLink RX4 104 "NightRiders$Rider" "legsRidden" "I", Cond.methodLink RX4 118 yX4_isKind, Cond.static yX4_isKind, Cond.initialized RX4, Cond.code yX4_isKind cX4_isKind 1 (some .boolean), Cond.methodLink RX4 51 yX4_isPlace, Cond.instanceMethod yX4_isPlace, Cond.selects RX4 yX4_isPlace yX4_isPlace, Cond.code yX4_isPlace cX4_isPlace 2 (some .boolean), Cond.fieldLink RX4 35 "NightRiders" "placeCount" "I", Cond.methodLink RX4 55 yX4_riderAt, Cond.instanceMethod yX4_riderAt, Cond.selects RX4 yX4_riderAt yX4_riderAt, Cond.code yX4_riderAt cX4_riderAt 2 (some (.object "NightRiders$Rider")), Cond.fieldLink RX4 15 "NightRiders" "riders" "[LNightRiders$Rider;", Cond.methodLink RX4 121 yX3_carries, Cond.instanceMethod yX3_carries, Cond.selects RX3 yX3_carries yX3_carries, Cond.initialized RX3, Cond.code yX3_carries cX3_carries 2 (some .boolean), Cond.fieldLink RX3 22 "NightRiders$Rider" "failed" "Z", Cond.fieldLink RX3 38 "NightRiders$Rider" "kinds" "I"]
def wsX4_next_r2 : List Cond := [Cond.static yX4_hasBit, Cond.code yX4_hasBit cX4_hasBit 2 (some .boolean), Cond.methodLink RX4 207 yX4_thereFrom, Cond.instanceMethod yX4_thereFrom, Cond.selects RX4 yX4_thereFrom yX4_thereFrom, Cond.code yX4_thereFrom cX4_thereFrom 4 (some .int), Cond.fieldLink RX4 94 "NightRiders$Rider" "at" "I", Cond.fieldLink RX4 101 "NightRiders$Rider" "free" "I", Cond.fieldLink RX4 224 "NightRiders$Rider" "dutyFrom" "I", Cond.methodLink RX4 131 Lib.Math.max.name, Cond.static Lib.Math.max.name, Cond.initialized "java/lang/Math", Cond.code Lib.Math.max.name Lib.Math.max.code 2 (some .int), Cond.methodLink RX4 80 yX4_wayOf, Cond.instanceMethod yX4_wayOf, Cond.selects RX4 yX4_wayOf yX4_wayOf, Cond.code yX4_wayOf cX4_wayOf 4 (some .int), Cond.fieldLink RX4 214 "NightRiders$Rider" "ways" "[I"]
def wsX4_next : List Cond := .code yX4_next cX4_next 10 (some .int) :: ((wsX4_next_r1 ++ wsX4_next_r2) ++ wsX40 ++ wsX30)
def wsX5_init_r1 : List Cond := [Cond.methodLink RX5 1 objectInit, Cond.instanceMethod objectInit, Cond.code objectInit ⟨#[0xb1]⟩ 1 none, Cond.arrayClass .int, Cond.fieldLink RX5 9 "NightRidersModel" "roads" "[I", Cond.fieldLink RX5 13 "NightRidersModel" "home" "[I", Cond.fieldLink RX5 16 "NightRidersModel" "area" "[I", Cond.fieldLink RX5 19 "NightRidersModel" "dutyFrom" "[I", Cond.fieldLink RX5 22 "NightRidersModel" "dutyTo" "[I", Cond.fieldLink RX5 25 "NightRidersModel" "kinds" "[I", Cond.fieldLink RX5 28 "NightRidersModel" "at" "[I", Cond.fieldLink RX5 31 "NightRidersModel" "free" "[I", Cond.arrayClass .boolean, Cond.fieldLink RX5 34 "NightRidersModel" "failed" "[Z", Cond.fieldLink RX5 38 "NightRidersModel" "rode" "[I", Cond.fieldLink RX5 41 "NightRidersModel" "minutes" "[I", Cond.fieldLink RX5 44 "NightRidersModel" "rest" "I", Cond.fieldLink RX5 48 "NightRidersModel" "kind" "[I", Cond.fieldLink RX5 51 "NightRidersModel" "from" "[I", Cond.fieldLink RX5 54 "NightRidersModel" "to" "[I", Cond.fieldLink RX5 57 "NightRidersModel" "ready" "[I", Cond.fieldLink RX5 60 "NightRidersModel" "cold" "[I", Cond.fieldLink RX5 63 "NightRidersModel" "state" "[I", Cond.fieldLink RX5 66 "NightRidersModel" "latest" "I"]
def wsX5_init_r2 : List Cond := [Cond.fieldLink RX5 69 "NightRidersModel" "legs" "[I", Cond.fieldLink RX5 72 "NightRidersModel" "legMany" "[I", Cond.fieldLink RX5 75 "NightRidersModel" "far" "[I", Cond.fieldLink RX5 78 "NightRidersModel" "tryRider" "[I", Cond.fieldLink RX5 81 "NightRidersModel" "tryPlace" "[I", Cond.fieldLink RX5 84 "NightRidersModel" "tryStart" "[I", Cond.fieldLink RX5 87 "NightRidersModel" "tryEnd" "[I", Cond.fieldLink RX5 90 "NightRidersModel" "bestRider" "[I", Cond.fieldLink RX5 93 "NightRidersModel" "bestPlace" "[I", Cond.fieldLink RX5 96 "NightRidersModel" "bestStart" "[I", Cond.fieldLink RX5 99 "NightRidersModel" "bestEnd" "[I"]
def wsX5_init : List Cond := .code yX5_init cX5_init 1 none :: ((wsX5_init_r1 ++ wsX5_init_r2) ++ wsX50)
def wsX5_thrown : List Cond := .code yX5_thrown cX5_thrown 1 (some .int) :: ([.fieldLink RX5 102 "NightRidersModel" "thrown" "I"] ++ wsX50)
def wsX5_in : List Cond := .code yX5_in cX5_in 3 (some .boolean) :: ([])
def wsX5_isPlace : List Cond := .code yX5_isPlace cX5_isPlace 2 (some .boolean) :: ([.fieldLink RX5 105 "NightRidersModel" "places" "I", .methodLink RX5 108 yX5_in, .static yX5_in, .initialized RX5, .code yX5_in cX5_in 3 (some .boolean)] ++ wsX50)
def wsX5_isRider : List Cond := .code yX5_isRider cX5_isRider 2 (some .boolean) :: ([.fieldLink RX5 112 "NightRidersModel" "riders" "I", .methodLink RX5 108 yX5_in, .static yX5_in, .initialized RX5, .code yX5_in cX5_in 3 (some .boolean)] ++ wsX50)
def wsX5_isCall : List Cond := .code yX5_isCall cX5_isCall 2 (some .boolean) :: ([.fieldLink RX5 115 "NightRidersModel" "calls" "I", .methodLink RX5 108 yX5_in, .static yX5_in, .initialized RX5, .code yX5_in cX5_in 3 (some .boolean)] ++ wsX50)
def wsX5_place : List Cond := .code yX5_place cX5_place 1 (some .int) :: ([.fieldLink RX5 102 "NightRidersModel" "thrown" "I", .fieldLink RX5 105 "NightRidersModel" "places" "I"] ++ wsX50)
def wsX5_road : List Cond := .code yX5_road cX5_road 4 (some .boolean) :: ([.fieldLink RX5 102 "NightRidersModel" "thrown" "I", .fieldLink RX5 9 "NightRidersModel" "roads" "[I", .methodLink RX5 118 yX5_isPlace, .instanceMethod yX5_isPlace, .selects RX5 yX5_isPlace yX5_isPlace, .initialized RX5, .code yX5_isPlace cX5_isPlace 2 (some .boolean), .fieldLink RX5 105 "NightRidersModel" "places" "I", .methodLink RX5 108 yX5_in, .static yX5_in, .code yX5_in cX5_in 3 (some .boolean)] ++ wsX50)
def wsX5_rider : List Cond := .code yX5_rider cX5_rider 6 (some .int) :: ([.fieldLink RX5 102 "NightRidersModel" "thrown" "I", .fieldLink RX5 105 "NightRidersModel" "places" "I", .fieldLink RX5 112 "NightRidersModel" "riders" "I", .fieldLink RX5 13 "NightRidersModel" "home" "[I", .fieldLink RX5 16 "NightRidersModel" "area" "[I", .fieldLink RX5 19 "NightRidersModel" "dutyFrom" "[I", .fieldLink RX5 22 "NightRidersModel" "dutyTo" "[I", .fieldLink RX5 25 "NightRidersModel" "kinds" "[I", .fieldLink RX5 28 "NightRidersModel" "at" "[I", .fieldLink RX5 31 "NightRidersModel" "free" "[I", .methodLink RX5 118 yX5_isPlace, .instanceMethod yX5_isPlace, .selects RX5 yX5_isPlace yX5_isPlace, .initialized RX5, .code yX5_isPlace cX5_isPlace 2 (some .boolean), .methodLink RX5 108 yX5_in, .static yX5_in, .code yX5_in cX5_in 3 (some .boolean)] ++ wsX50)
def wsX5_rest : List Cond := .code yX5_rest cX5_rest 3 (some .int) :: ([.fieldLink RX5 102 "NightRidersModel" "thrown" "I", .fieldLink RX5 44 "NightRidersModel" "rest" "I", .methodLink RX5 108 yX5_in, .static yX5_in, .initialized RX5, .code yX5_in cX5_in 3 (some .boolean)] ++ wsX50)
def wsX5_wayOf : List Cond := .code yX5_wayOf cX5_wayOf 8 (some .int) :: ([.fieldLink RX5 16 "NightRidersModel" "area" "[I", .constant RX5 122 (1000000), .fieldLink RX5 75 "NightRidersModel" "far" "[I", .fieldLink RX5 105 "NightRidersModel" "places" "I", .fieldLink RX5 9 "NightRidersModel" "roads" "[I"] ++ wsX50)
def wsX5_way : List Cond := .code yX5_way cX5_way 5 (some .int) :: ([.fieldLink RX5 102 "NightRidersModel" "thrown" "I", .constant RX5 122 (1000000), .methodLink RX5 123 yX5_isRider, .instanceMethod yX5_isRider, .selects RX5 yX5_isRider yX5_isRider, .initialized RX5, .code yX5_isRider cX5_isRider 2 (some .boolean), .fieldLink RX5 112 "NightRidersModel" "riders" "I", .methodLink RX5 108 yX5_in, .static yX5_in, .code yX5_in cX5_in 3 (some .boolean), .methodLink RX5 118 yX5_isPlace, .instanceMethod yX5_isPlace, .selects RX5 yX5_isPlace yX5_isPlace, .code yX5_isPlace cX5_isPlace 2 (some .boolean), .fieldLink RX5 105 "NightRidersModel" "places" "I", .methodLink RX5 126 yX5_wayOf, .instanceMethod yX5_wayOf, .selects RX5 yX5_wayOf yX5_wayOf, .code yX5_wayOf cX5_wayOf 8 (some .int), .fieldLink RX5 16 "NightRidersModel" "area" "[I", .fieldLink RX5 75 "NightRidersModel" "far" "[I", .fieldLink RX5 9 "NightRidersModel" "roads" "[I"] ++ wsX50)
def wsX5_endOf : List Cond := .code yX5_endOf cX5_endOf 2 (some .int) :: ([.fieldLink RX5 69 "NightRidersModel" "legs" "[I", .fieldLink RX5 72 "NightRidersModel" "legMany" "[I"] ++ wsX50)
def wsX5_count : List Cond := .code yX5_count cX5_count 4 (some .int) :: ([.fieldLink RX5 102 "NightRidersModel" "thrown" "I", .fieldLink RX5 105 "NightRidersModel" "places" "I", .fieldLink RX5 112 "NightRidersModel" "riders" "I", .fieldLink RX5 115 "NightRidersModel" "calls" "I", .fieldLink RX5 63 "NightRidersModel" "state" "[I", .fieldLink RX5 57 "NightRidersModel" "ready" "[I", .fieldLink RX5 60 "NightRidersModel" "cold" "[I", .methodLink RX5 130 yX5_endOf, .instanceMethod yX5_endOf, .selects RX5 yX5_endOf yX5_endOf, .initialized RX5, .code yX5_endOf cX5_endOf 2 (some .int), .fieldLink RX5 69 "NightRidersModel" "legs" "[I", .fieldLink RX5 72 "NightRidersModel" "legMany" "[I"] ++ wsX50)
def wsX5_of : List Cond := .code yX5_of cX5_of 3 (some .int) :: ([.fieldLink RX5 102 "NightRidersModel" "thrown" "I", .fieldLink RX5 13 "NightRidersModel" "home" "[I", .fieldLink RX5 28 "NightRidersModel" "at" "[I", .fieldLink RX5 34 "NightRidersModel" "failed" "[Z", .fieldLink RX5 31 "NightRidersModel" "free" "[I", .fieldLink RX5 38 "NightRidersModel" "rode" "[I", .fieldLink RX5 41 "NightRidersModel" "minutes" "[I", .fieldLink RX5 16 "NightRidersModel" "area" "[I", .fieldLink RX5 25 "NightRidersModel" "kinds" "[I", .methodLink RX5 123 yX5_isRider, .instanceMethod yX5_isRider, .selects RX5 yX5_isRider yX5_isRider, .initialized RX5, .code yX5_isRider cX5_isRider 2 (some .boolean), .fieldLink RX5 112 "NightRidersModel" "riders" "I", .methodLink RX5 108 yX5_in, .static yX5_in, .code yX5_in cX5_in 3 (some .boolean)] ++ wsX50)
def wsX5_mayCarry : List Cond := .code yX5_mayCarry cX5_mayCarry 3 (some .boolean) :: ([.fieldLink RX5 34 "NightRidersModel" "failed" "[Z", .fieldLink RX5 25 "NightRidersModel" "kinds" "[I"] ++ wsX50)
def wsX5_onDuty : List Cond := .code yX5_onDuty cX5_onDuty 5 (some .int) :: ([.fieldLink RX5 112 "NightRidersModel" "riders" "I", .fieldLink RX5 19 "NightRidersModel" "dutyFrom" "[I", .fieldLink RX5 22 "NightRidersModel" "dutyTo" "[I", .methodLink RX5 134 yX5_mayCarry, .instanceMethod yX5_mayCarry, .selects RX5 yX5_mayCarry yX5_mayCarry, .initialized RX5, .code yX5_mayCarry cX5_mayCarry 3 (some .boolean), .fieldLink RX5 34 "NightRidersModel" "failed" "[Z", .fieldLink RX5 25 "NightRidersModel" "kinds" "[I", .methodLink RX5 108 yX5_in, .static yX5_in, .code yX5_in cX5_in 3 (some .boolean)] ++ wsX50)
def wsX5_duty : List Cond := .code yX5_duty cX5_duty 3 (some .int) :: ([.fieldLink RX5 102 "NightRidersModel" "thrown" "I", .methodLink RX5 108 yX5_in, .static yX5_in, .initialized RX5, .code yX5_in cX5_in 3 (some .boolean), .methodLink RX5 138 yX5_onDuty, .instanceMethod yX5_onDuty, .selects RX5 yX5_onDuty yX5_onDuty, .code yX5_onDuty cX5_onDuty 5 (some .int), .fieldLink RX5 112 "NightRidersModel" "riders" "I", .fieldLink RX5 19 "NightRidersModel" "dutyFrom" "[I", .fieldLink RX5 22 "NightRidersModel" "dutyTo" "[I", .methodLink RX5 134 yX5_mayCarry, .instanceMethod yX5_mayCarry, .selects RX5 yX5_mayCarry yX5_mayCarry, .code yX5_mayCarry cX5_mayCarry 3 (some .boolean), .fieldLink RX5 34 "NightRidersModel" "failed" "[Z", .fieldLink RX5 25 "NightRidersModel" "kinds" "[I"] ++ wsX50)
def wsX5_bare : List Cond := .code yX5_bare cX5_bare 4 (some .int) :: ([.fieldLink RX5 102 "NightRidersModel" "thrown" "I", .methodLink RX5 108 yX5_in, .static yX5_in, .initialized RX5, .code yX5_in cX5_in 3 (some .boolean), .methodLink RX5 138 yX5_onDuty, .instanceMethod yX5_onDuty, .selects RX5 yX5_onDuty yX5_onDuty, .code yX5_onDuty cX5_onDuty 5 (some .int), .fieldLink RX5 112 "NightRidersModel" "riders" "I", .fieldLink RX5 19 "NightRidersModel" "dutyFrom" "[I", .fieldLink RX5 22 "NightRidersModel" "dutyTo" "[I", .methodLink RX5 134 yX5_mayCarry, .instanceMethod yX5_mayCarry, .selects RX5 yX5_mayCarry yX5_mayCarry, .code yX5_mayCarry cX5_mayCarry 3 (some .boolean), .fieldLink RX5 34 "NightRidersModel" "failed" "[Z", .fieldLink RX5 25 "NightRidersModel" "kinds" "[I"] ++ wsX50)
def wsX5_isBetter : List Cond := .code yX5_isBetter cX5_isBetter 5 (some .boolean) :: ([.fieldLink RX5 142 "NightRidersModel" "bestMany" "I", .fieldLink RX5 87 "NightRidersModel" "tryEnd" "[I", .fieldLink RX5 99 "NightRidersModel" "bestEnd" "[I", .fieldLink RX5 78 "NightRidersModel" "tryRider" "[I", .fieldLink RX5 90 "NightRidersModel" "bestRider" "[I", .fieldLink RX5 81 "NightRidersModel" "tryPlace" "[I", .fieldLink RX5 93 "NightRidersModel" "bestPlace" "[I"] ++ wsX50)
def wsX5_tryLeg_r1 : List Cond := [Cond.fieldLink RX5 112 "NightRidersModel" "riders" "I", Cond.fieldLink RX5 78 "NightRidersModel" "tryRider" "[I", Cond.fieldLink RX5 28 "NightRidersModel" "at" "[I", Cond.constant RX5 122 (1000000), Cond.fieldLink RX5 31 "NightRidersModel" "free" "[I", Cond.fieldLink RX5 19 "NightRidersModel" "dutyFrom" "[I", Cond.methodLink RX5 145 Lib.Math.max.name, Cond.static Lib.Math.max.name, Cond.initialized "java/lang/Math", Cond.code Lib.Math.max.name Lib.Math.max.code 2 (some .int), Cond.fieldLink RX5 22 "NightRidersModel" "dutyTo" "[I", Cond.fieldLink RX5 105 "NightRidersModel" "places" "I", Cond.fieldLink RX5 81 "NightRidersModel" "tryPlace" "[I", Cond.fieldLink RX5 84 "NightRidersModel" "tryStart" "[I", Cond.fieldLink RX5 87 "NightRidersModel" "tryEnd" "[I", Cond.fieldLink RX5 142 "NightRidersModel" "bestMany" "I", Cond.fieldLink RX5 90 "NightRidersModel" "bestRider" "[I", Cond.fieldLink RX5 93 "NightRidersModel" "bestPlace" "[I", Cond.fieldLink RX5 96 "NightRidersModel" "bestStart" "[I", Cond.fieldLink RX5 99 "NightRidersModel" "bestEnd" "[I", Cond.methodLink RX5 134 yX5_mayCarry, Cond.instanceMethod yX5_mayCarry, Cond.selects RX5 yX5_mayCarry yX5_mayCarry, Cond.initialized RX5]
def wsX5_tryLeg_r2 : List Cond := [Cond.code yX5_mayCarry cX5_mayCarry 3 (some .boolean), Cond.fieldLink RX5 34 "NightRidersModel" "failed" "[Z", Cond.fieldLink RX5 25 "NightRidersModel" "kinds" "[I", Cond.methodLink RX5 126 yX5_wayOf, Cond.instanceMethod yX5_wayOf, Cond.selects RX5 yX5_wayOf yX5_wayOf, Cond.code yX5_wayOf cX5_wayOf 8 (some .int), Cond.fieldLink RX5 16 "NightRidersModel" "area" "[I", Cond.fieldLink RX5 75 "NightRidersModel" "far" "[I", Cond.fieldLink RX5 9 "NightRidersModel" "roads" "[I", Cond.methodLink RX5 150 yX5_tryLeg, Cond.instanceMethod yX5_tryLeg, Cond.selects RX5 yX5_tryLeg yX5_tryLeg, Cond.methodLink RX5 154 yX5_isBetter, Cond.instanceMethod yX5_isBetter, Cond.selects RX5 yX5_isBetter yX5_isBetter, Cond.code yX5_isBetter cX5_isBetter 5 (some .boolean)]
def wsX5_tryLeg : List Cond := .code yX5_tryLeg cX5_tryLeg 14 none :: ((wsX5_tryLeg_r1 ++ wsX5_tryLeg_r2) ++ wsX50)
def wsX5_findBest_r1 : List Cond := [Cond.fieldLink RX5 142 "NightRidersModel" "bestMany" "I", Cond.methodLink RX5 150 yX5_tryLeg, Cond.instanceMethod yX5_tryLeg, Cond.selects RX5 yX5_tryLeg yX5_tryLeg, Cond.initialized RX5, Cond.code yX5_tryLeg cX5_tryLeg 14 none, Cond.fieldLink RX5 112 "NightRidersModel" "riders" "I", Cond.fieldLink RX5 78 "NightRidersModel" "tryRider" "[I", Cond.fieldLink RX5 28 "NightRidersModel" "at" "[I", Cond.constant RX5 122 (1000000), Cond.fieldLink RX5 31 "NightRidersModel" "free" "[I", Cond.fieldLink RX5 19 "NightRidersModel" "dutyFrom" "[I", Cond.methodLink RX5 145 Lib.Math.max.name, Cond.static Lib.Math.max.name, Cond.initialized "java/lang/Math", Cond.code Lib.Math.max.name Lib.Math.max.code 2 (some .int), Cond.fieldLink RX5 22 "NightRidersModel" "dutyTo" "[I", Cond.fieldLink RX5 105 "NightRidersModel" "places" "I", Cond.fieldLink RX5 81 "NightRidersModel" "tryPlace" "[I", Cond.fieldLink RX5 84 "NightRidersModel" "tryStart" "[I", Cond.fieldLink RX5 87 "NightRidersModel" "tryEnd" "[I", Cond.fieldLink RX5 90 "NightRidersModel" "bestRider" "[I", Cond.fieldLink RX5 93 "NightRidersModel" "bestPlace" "[I", Cond.fieldLink RX5 96 "NightRidersModel" "bestStart" "[I"]
def wsX5_findBest_r2 : List Cond := [Cond.fieldLink RX5 99 "NightRidersModel" "bestEnd" "[I", Cond.methodLink RX5 134 yX5_mayCarry, Cond.instanceMethod yX5_mayCarry, Cond.selects RX5 yX5_mayCarry yX5_mayCarry, Cond.code yX5_mayCarry cX5_mayCarry 3 (some .boolean), Cond.fieldLink RX5 34 "NightRidersModel" "failed" "[Z", Cond.fieldLink RX5 25 "NightRidersModel" "kinds" "[I", Cond.methodLink RX5 126 yX5_wayOf, Cond.instanceMethod yX5_wayOf, Cond.selects RX5 yX5_wayOf yX5_wayOf, Cond.code yX5_wayOf cX5_wayOf 8 (some .int), Cond.fieldLink RX5 16 "NightRidersModel" "area" "[I", Cond.fieldLink RX5 75 "NightRidersModel" "far" "[I", Cond.fieldLink RX5 9 "NightRidersModel" "roads" "[I", Cond.methodLink RX5 154 yX5_isBetter, Cond.instanceMethod yX5_isBetter, Cond.selects RX5 yX5_isBetter yX5_isBetter, Cond.code yX5_isBetter cX5_isBetter 5 (some .boolean)]
def wsX5_findBest : List Cond := .code yX5_findBest cX5_findBest 5 (some .boolean) :: ((wsX5_findBest_r1 ++ wsX5_findBest_r2) ++ wsX50)
def wsX5_ride : List Cond := .code yX5_ride cX5_ride 7 none :: ([.fieldLink RX5 142 "NightRidersModel" "bestMany" "I", .fieldLink RX5 90 "NightRidersModel" "bestRider" "[I", .fieldLink RX5 72 "NightRidersModel" "legMany" "[I", .fieldLink RX5 69 "NightRidersModel" "legs" "[I", .fieldLink RX5 93 "NightRidersModel" "bestPlace" "[I", .fieldLink RX5 96 "NightRidersModel" "bestStart" "[I", .fieldLink RX5 99 "NightRidersModel" "bestEnd" "[I", .fieldLink RX5 28 "NightRidersModel" "at" "[I", .fieldLink RX5 31 "NightRidersModel" "free" "[I", .fieldLink RX5 44 "NightRidersModel" "rest" "I", .fieldLink RX5 38 "NightRidersModel" "rode" "[I", .fieldLink RX5 41 "NightRidersModel" "minutes" "[I"] ++ wsX50)
def wsX5_call : List Cond := .code yX5_call cX5_call 6 (some .int) :: ([.fieldLink RX5 102 "NightRidersModel" "thrown" "I", .fieldLink RX5 115 "NightRidersModel" "calls" "I", .fieldLink RX5 48 "NightRidersModel" "kind" "[I", .fieldLink RX5 51 "NightRidersModel" "from" "[I", .fieldLink RX5 54 "NightRidersModel" "to" "[I", .fieldLink RX5 57 "NightRidersModel" "ready" "[I", .fieldLink RX5 60 "NightRidersModel" "cold" "[I", .methodLink RX5 108 yX5_in, .static yX5_in, .initialized RX5, .code yX5_in cX5_in 3 (some .boolean), .methodLink RX5 118 yX5_isPlace, .instanceMethod yX5_isPlace, .selects RX5 yX5_isPlace yX5_isPlace, .code yX5_isPlace cX5_isPlace 2 (some .boolean), .fieldLink RX5 105 "NightRidersModel" "places" "I"] ++ wsX50)
def wsX5_best_r1 : List Cond := [Cond.fieldLink RX5 102 "NightRidersModel" "thrown" "I", Cond.fieldLink RX5 63 "NightRidersModel" "state" "[I", Cond.fieldLink RX5 48 "NightRidersModel" "kind" "[I", Cond.fieldLink RX5 51 "NightRidersModel" "from" "[I", Cond.fieldLink RX5 57 "NightRidersModel" "ready" "[I", Cond.fieldLink RX5 54 "NightRidersModel" "to" "[I", Cond.fieldLink RX5 99 "NightRidersModel" "bestEnd" "[I", Cond.fieldLink RX5 142 "NightRidersModel" "bestMany" "I", Cond.methodLink RX5 157 yX5_isCall, Cond.instanceMethod yX5_isCall, Cond.selects RX5 yX5_isCall yX5_isCall, Cond.initialized RX5, Cond.code yX5_isCall cX5_isCall 2 (some .boolean), Cond.fieldLink RX5 115 "NightRidersModel" "calls" "I", Cond.methodLink RX5 108 yX5_in, Cond.static yX5_in, Cond.code yX5_in cX5_in 3 (some .boolean), Cond.methodLink RX5 160 yX5_findBest, Cond.instanceMethod yX5_findBest, Cond.selects RX5 yX5_findBest yX5_findBest, Cond.code yX5_findBest cX5_findBest 5 (some .boolean), Cond.methodLink RX5 150 yX5_tryLeg, Cond.instanceMethod yX5_tryLeg, Cond.selects RX5 yX5_tryLeg yX5_tryLeg]
def wsX5_best_r2 : List Cond := [Cond.code yX5_tryLeg cX5_tryLeg 14 none, Cond.fieldLink RX5 112 "NightRidersModel" "riders" "I", Cond.fieldLink RX5 78 "NightRidersModel" "tryRider" "[I", Cond.fieldLink RX5 28 "NightRidersModel" "at" "[I", Cond.constant RX5 122 (1000000), Cond.fieldLink RX5 31 "NightRidersModel" "free" "[I", Cond.fieldLink RX5 19 "NightRidersModel" "dutyFrom" "[I", Cond.methodLink RX5 145 Lib.Math.max.name, Cond.static Lib.Math.max.name, Cond.initialized "java/lang/Math", Cond.code Lib.Math.max.name Lib.Math.max.code 2 (some .int), Cond.fieldLink RX5 22 "NightRidersModel" "dutyTo" "[I", Cond.fieldLink RX5 105 "NightRidersModel" "places" "I", Cond.fieldLink RX5 81 "NightRidersModel" "tryPlace" "[I", Cond.fieldLink RX5 84 "NightRidersModel" "tryStart" "[I", Cond.fieldLink RX5 87 "NightRidersModel" "tryEnd" "[I", Cond.fieldLink RX5 90 "NightRidersModel" "bestRider" "[I", Cond.fieldLink RX5 93 "NightRidersModel" "bestPlace" "[I", Cond.fieldLink RX5 96 "NightRidersModel" "bestStart" "[I", Cond.methodLink RX5 134 yX5_mayCarry, Cond.instanceMethod yX5_mayCarry, Cond.selects RX5 yX5_mayCarry yX5_mayCarry, Cond.code yX5_mayCarry cX5_mayCarry 3 (some .boolean), Cond.fieldLink RX5 34 "NightRidersModel" "failed" "[Z"]
def wsX5_best_r3 : List Cond := [Cond.fieldLink RX5 25 "NightRidersModel" "kinds" "[I", Cond.methodLink RX5 126 yX5_wayOf, Cond.instanceMethod yX5_wayOf, Cond.selects RX5 yX5_wayOf yX5_wayOf, Cond.code yX5_wayOf cX5_wayOf 8 (some .int), Cond.fieldLink RX5 16 "NightRidersModel" "area" "[I", Cond.fieldLink RX5 75 "NightRidersModel" "far" "[I", Cond.fieldLink RX5 9 "NightRidersModel" "roads" "[I", Cond.methodLink RX5 154 yX5_isBetter, Cond.instanceMethod yX5_isBetter, Cond.selects RX5 yX5_isBetter yX5_isBetter, Cond.code yX5_isBetter cX5_isBetter 5 (some .boolean)]
def wsX5_best : List Cond := .code yX5_best cX5_best 2 (some .int) :: ((wsX5_best_r1 ++ (wsX5_best_r2 ++ wsX5_best_r3)) ++ wsX50)
def wsX5_send_r1 : List Cond := [Cond.fieldLink RX5 102 "NightRidersModel" "thrown" "I", Cond.fieldLink RX5 63 "NightRidersModel" "state" "[I", Cond.fieldLink RX5 48 "NightRidersModel" "kind" "[I", Cond.fieldLink RX5 51 "NightRidersModel" "from" "[I", Cond.fieldLink RX5 57 "NightRidersModel" "ready" "[I", Cond.fieldLink RX5 54 "NightRidersModel" "to" "[I", Cond.fieldLink RX5 66 "NightRidersModel" "latest" "I", Cond.methodLink RX5 157 yX5_isCall, Cond.instanceMethod yX5_isCall, Cond.selects RX5 yX5_isCall yX5_isCall, Cond.initialized RX5, Cond.code yX5_isCall cX5_isCall 2 (some .boolean), Cond.fieldLink RX5 115 "NightRidersModel" "calls" "I", Cond.methodLink RX5 108 yX5_in, Cond.static yX5_in, Cond.code yX5_in cX5_in 3 (some .boolean), Cond.methodLink RX5 160 yX5_findBest, Cond.instanceMethod yX5_findBest, Cond.selects RX5 yX5_findBest yX5_findBest, Cond.code yX5_findBest cX5_findBest 5 (some .boolean), Cond.fieldLink RX5 142 "NightRidersModel" "bestMany" "I", Cond.methodLink RX5 150 yX5_tryLeg, Cond.instanceMethod yX5_tryLeg, Cond.selects RX5 yX5_tryLeg yX5_tryLeg]
def wsX5_send_r2 : List Cond := [Cond.code yX5_tryLeg cX5_tryLeg 14 none, Cond.fieldLink RX5 112 "NightRidersModel" "riders" "I", Cond.fieldLink RX5 78 "NightRidersModel" "tryRider" "[I", Cond.fieldLink RX5 28 "NightRidersModel" "at" "[I", Cond.constant RX5 122 (1000000), Cond.fieldLink RX5 31 "NightRidersModel" "free" "[I", Cond.fieldLink RX5 19 "NightRidersModel" "dutyFrom" "[I", Cond.methodLink RX5 145 Lib.Math.max.name, Cond.static Lib.Math.max.name, Cond.initialized "java/lang/Math", Cond.code Lib.Math.max.name Lib.Math.max.code 2 (some .int), Cond.fieldLink RX5 22 "NightRidersModel" "dutyTo" "[I", Cond.fieldLink RX5 105 "NightRidersModel" "places" "I", Cond.fieldLink RX5 81 "NightRidersModel" "tryPlace" "[I", Cond.fieldLink RX5 84 "NightRidersModel" "tryStart" "[I", Cond.fieldLink RX5 87 "NightRidersModel" "tryEnd" "[I", Cond.fieldLink RX5 90 "NightRidersModel" "bestRider" "[I", Cond.fieldLink RX5 93 "NightRidersModel" "bestPlace" "[I", Cond.fieldLink RX5 96 "NightRidersModel" "bestStart" "[I", Cond.fieldLink RX5 99 "NightRidersModel" "bestEnd" "[I", Cond.methodLink RX5 134 yX5_mayCarry, Cond.instanceMethod yX5_mayCarry, Cond.selects RX5 yX5_mayCarry yX5_mayCarry, Cond.code yX5_mayCarry cX5_mayCarry 3 (some .boolean)]
def wsX5_send_r3 : List Cond := [Cond.fieldLink RX5 34 "NightRidersModel" "failed" "[Z", Cond.fieldLink RX5 25 "NightRidersModel" "kinds" "[I", Cond.methodLink RX5 126 yX5_wayOf, Cond.instanceMethod yX5_wayOf, Cond.selects RX5 yX5_wayOf yX5_wayOf, Cond.code yX5_wayOf cX5_wayOf 8 (some .int), Cond.fieldLink RX5 16 "NightRidersModel" "area" "[I", Cond.fieldLink RX5 75 "NightRidersModel" "far" "[I", Cond.fieldLink RX5 9 "NightRidersModel" "roads" "[I", Cond.methodLink RX5 154 yX5_isBetter, Cond.instanceMethod yX5_isBetter, Cond.selects RX5 yX5_isBetter yX5_isBetter, Cond.code yX5_isBetter cX5_isBetter 5 (some .boolean), Cond.methodLink RX5 164 yX5_ride, Cond.instanceMethod yX5_ride, Cond.selects RX5 yX5_ride yX5_ride, Cond.code yX5_ride cX5_ride 7 none, Cond.fieldLink RX5 72 "NightRidersModel" "legMany" "[I", Cond.fieldLink RX5 69 "NightRidersModel" "legs" "[I", Cond.fieldLink RX5 44 "NightRidersModel" "rest" "I", Cond.fieldLink RX5 38 "NightRidersModel" "rode" "[I", Cond.fieldLink RX5 41 "NightRidersModel" "minutes" "[I", Cond.methodLink RX5 130 yX5_endOf, Cond.instanceMethod yX5_endOf]
def wsX5_send_r4 : List Cond := [Cond.selects RX5 yX5_endOf yX5_endOf, Cond.code yX5_endOf cX5_endOf 2 (some .int)]
def wsX5_send : List Cond := .code yX5_send cX5_send 2 (some .int) :: ((wsX5_send_r1 ++ (wsX5_send_r2 ++ (wsX5_send_r3 ++ wsX5_send_r4))) ++ wsX50)
def wsX5_told : List Cond := .code yX5_told cX5_told 3 (some .int) :: ([.fieldLink RX5 102 "NightRidersModel" "thrown" "I", .fieldLink RX5 48 "NightRidersModel" "kind" "[I", .fieldLink RX5 51 "NightRidersModel" "from" "[I", .fieldLink RX5 54 "NightRidersModel" "to" "[I", .fieldLink RX5 57 "NightRidersModel" "ready" "[I", .fieldLink RX5 60 "NightRidersModel" "cold" "[I", .fieldLink RX5 63 "NightRidersModel" "state" "[I", .fieldLink RX5 72 "NightRidersModel" "legMany" "[I", .methodLink RX5 157 yX5_isCall, .instanceMethod yX5_isCall, .selects RX5 yX5_isCall yX5_isCall, .initialized RX5, .code yX5_isCall cX5_isCall 2 (some .boolean), .fieldLink RX5 115 "NightRidersModel" "calls" "I", .methodLink RX5 108 yX5_in, .static yX5_in, .code yX5_in cX5_in 3 (some .boolean), .methodLink RX5 130 yX5_endOf, .instanceMethod yX5_endOf, .selects RX5 yX5_endOf yX5_endOf, .code yX5_endOf cX5_endOf 2 (some .int), .fieldLink RX5 69 "NightRidersModel" "legs" "[I"] ++ wsX50)
def wsX5_leg : List Cond := .code yX5_leg cX5_leg 4 (some .int) :: ([.fieldLink RX5 102 "NightRidersModel" "thrown" "I", .fieldLink RX5 72 "NightRidersModel" "legMany" "[I", .fieldLink RX5 69 "NightRidersModel" "legs" "[I", .methodLink RX5 157 yX5_isCall, .instanceMethod yX5_isCall, .selects RX5 yX5_isCall yX5_isCall, .initialized RX5, .code yX5_isCall cX5_isCall 2 (some .boolean), .fieldLink RX5 115 "NightRidersModel" "calls" "I", .methodLink RX5 108 yX5_in, .static yX5_in, .code yX5_in cX5_in 3 (some .boolean)] ++ wsX50)
def wsX5_hand : List Cond := .code yX5_hand cX5_hand 5 (some .int) :: ([.fieldLink RX5 102 "NightRidersModel" "thrown" "I", .fieldLink RX5 63 "NightRidersModel" "state" "[I", .fieldLink RX5 72 "NightRidersModel" "legMany" "[I", .fieldLink RX5 69 "NightRidersModel" "legs" "[I", .methodLink RX5 157 yX5_isCall, .instanceMethod yX5_isCall, .selects RX5 yX5_isCall yX5_isCall, .initialized RX5, .code yX5_isCall cX5_isCall 2 (some .boolean), .fieldLink RX5 115 "NightRidersModel" "calls" "I", .methodLink RX5 108 yX5_in, .static yX5_in, .code yX5_in cX5_in 3 (some .boolean), .methodLink RX5 130 yX5_endOf, .instanceMethod yX5_endOf, .selects RX5 yX5_endOf yX5_endOf, .code yX5_endOf cX5_endOf 2 (some .int)] ++ wsX50)
def wsX5_fail_r1 : List Cond := [Cond.fieldLink RX5 102 "NightRidersModel" "thrown" "I", Cond.fieldLink RX5 66 "NightRidersModel" "latest" "I", Cond.fieldLink RX5 72 "NightRidersModel" "legMany" "[I", Cond.fieldLink RX5 69 "NightRidersModel" "legs" "[I", Cond.fieldLink RX5 28 "NightRidersModel" "at" "[I", Cond.fieldLink RX5 31 "NightRidersModel" "free" "[I", Cond.fieldLink RX5 38 "NightRidersModel" "rode" "[I", Cond.fieldLink RX5 41 "NightRidersModel" "minutes" "[I", Cond.fieldLink RX5 34 "NightRidersModel" "failed" "[Z", Cond.fieldLink RX5 48 "NightRidersModel" "kind" "[I", Cond.fieldLink RX5 54 "NightRidersModel" "to" "[I", Cond.fieldLink RX5 63 "NightRidersModel" "state" "[I", Cond.methodLink RX5 157 yX5_isCall, Cond.instanceMethod yX5_isCall, Cond.selects RX5 yX5_isCall yX5_isCall, Cond.initialized RX5, Cond.code yX5_isCall cX5_isCall 2 (some .boolean), Cond.fieldLink RX5 115 "NightRidersModel" "calls" "I", Cond.methodLink RX5 108 yX5_in, Cond.static yX5_in, Cond.code yX5_in cX5_in 3 (some .boolean), Cond.methodLink RX5 160 yX5_findBest, Cond.instanceMethod yX5_findBest, Cond.selects RX5 yX5_findBest yX5_findBest]
def wsX5_fail_r2 : List Cond := [Cond.code yX5_findBest cX5_findBest 5 (some .boolean), Cond.fieldLink RX5 142 "NightRidersModel" "bestMany" "I", Cond.methodLink RX5 150 yX5_tryLeg, Cond.instanceMethod yX5_tryLeg, Cond.selects RX5 yX5_tryLeg yX5_tryLeg, Cond.code yX5_tryLeg cX5_tryLeg 14 none, Cond.fieldLink RX5 112 "NightRidersModel" "riders" "I", Cond.fieldLink RX5 78 "NightRidersModel" "tryRider" "[I", Cond.constant RX5 122 (1000000), Cond.fieldLink RX5 19 "NightRidersModel" "dutyFrom" "[I", Cond.methodLink RX5 145 Lib.Math.max.name, Cond.static Lib.Math.max.name, Cond.initialized "java/lang/Math", Cond.code Lib.Math.max.name Lib.Math.max.code 2 (some .int), Cond.fieldLink RX5 22 "NightRidersModel" "dutyTo" "[I", Cond.fieldLink RX5 105 "NightRidersModel" "places" "I", Cond.fieldLink RX5 81 "NightRidersModel" "tryPlace" "[I", Cond.fieldLink RX5 84 "NightRidersModel" "tryStart" "[I", Cond.fieldLink RX5 87 "NightRidersModel" "tryEnd" "[I", Cond.fieldLink RX5 90 "NightRidersModel" "bestRider" "[I", Cond.fieldLink RX5 93 "NightRidersModel" "bestPlace" "[I", Cond.fieldLink RX5 96 "NightRidersModel" "bestStart" "[I", Cond.fieldLink RX5 99 "NightRidersModel" "bestEnd" "[I", Cond.methodLink RX5 134 yX5_mayCarry]
def wsX5_fail_r3 : List Cond := [Cond.instanceMethod yX5_mayCarry, Cond.selects RX5 yX5_mayCarry yX5_mayCarry, Cond.code yX5_mayCarry cX5_mayCarry 3 (some .boolean), Cond.fieldLink RX5 25 "NightRidersModel" "kinds" "[I", Cond.methodLink RX5 126 yX5_wayOf, Cond.instanceMethod yX5_wayOf, Cond.selects RX5 yX5_wayOf yX5_wayOf, Cond.code yX5_wayOf cX5_wayOf 8 (some .int), Cond.fieldLink RX5 16 "NightRidersModel" "area" "[I", Cond.fieldLink RX5 75 "NightRidersModel" "far" "[I", Cond.fieldLink RX5 9 "NightRidersModel" "roads" "[I", Cond.methodLink RX5 154 yX5_isBetter, Cond.instanceMethod yX5_isBetter, Cond.selects RX5 yX5_isBetter yX5_isBetter, Cond.code yX5_isBetter cX5_isBetter 5 (some .boolean), Cond.methodLink RX5 164 yX5_ride, Cond.instanceMethod yX5_ride, Cond.selects RX5 yX5_ride yX5_ride, Cond.code yX5_ride cX5_ride 7 none, Cond.fieldLink RX5 44 "NightRidersModel" "rest" "I", Cond.methodLink RX5 130 yX5_endOf, Cond.instanceMethod yX5_endOf, Cond.selects RX5 yX5_endOf yX5_endOf, Cond.code yX5_endOf cX5_endOf 2 (some .int)]
def wsX5_fail : List Cond := .code yX5_fail cX5_fail 8 (some .int) :: ((wsX5_fail_r1 ++ (wsX5_fail_r2 ++ wsX5_fail_r3)) ++ wsX50)
def wsX5_next_r1 : List Cond := [Cond.fieldLink RX5 102 "NightRidersModel" "thrown" "I", Cond.fieldLink RX5 112 "NightRidersModel" "riders" "I", Cond.fieldLink RX5 28 "NightRidersModel" "at" "[I", Cond.constant RX5 122 (1000000), Cond.fieldLink RX5 31 "NightRidersModel" "free" "[I", Cond.fieldLink RX5 19 "NightRidersModel" "dutyFrom" "[I", Cond.methodLink RX5 145 Lib.Math.max.name, Cond.static Lib.Math.max.name, Cond.initialized "java/lang/Math", Cond.code Lib.Math.max.name Lib.Math.max.code 2 (some .int), Cond.fieldLink RX5 22 "NightRidersModel" "dutyTo" "[I", Cond.fieldLink RX5 38 "NightRidersModel" "rode" "[I", Cond.methodLink RX5 108 yX5_in, Cond.static yX5_in, Cond.initialized RX5, Cond.code yX5_in cX5_in 3 (some .boolean), Cond.methodLink RX5 118 yX5_isPlace, Cond.instanceMethod yX5_isPlace, Cond.selects RX5 yX5_isPlace yX5_isPlace, Cond.code yX5_isPlace cX5_isPlace 2 (some .boolean), Cond.fieldLink RX5 105 "NightRidersModel" "places" "I", Cond.methodLink RX5 126 yX5_wayOf, Cond.instanceMethod yX5_wayOf, Cond.selects RX5 yX5_wayOf yX5_wayOf]
def wsX5_next_r2 : List Cond := [Cond.code yX5_wayOf cX5_wayOf 8 (some .int), Cond.fieldLink RX5 16 "NightRidersModel" "area" "[I", Cond.fieldLink RX5 75 "NightRidersModel" "far" "[I", Cond.fieldLink RX5 9 "NightRidersModel" "roads" "[I", Cond.methodLink RX5 134 yX5_mayCarry, Cond.instanceMethod yX5_mayCarry, Cond.selects RX5 yX5_mayCarry yX5_mayCarry, Cond.code yX5_mayCarry cX5_mayCarry 3 (some .boolean), Cond.fieldLink RX5 34 "NightRidersModel" "failed" "[Z", Cond.fieldLink RX5 25 "NightRidersModel" "kinds" "[I"]
def wsX5_next : List Cond := .code yX5_next cX5_next 8 (some .int) :: ((wsX5_next_r1 ++ wsX5_next_r2) ++ wsX50)
def wsJ9_max_7cf53 : List Cond := .code yJ9_max_7cf53 cJ9_max_7cf53 2 (some .int) :: ([])
def wsL_of : List Cond := .codeWith yL_of cL_of 5 (some .int) [(0, 10, 13, 13)] :: ([.classLink RL 13 "java/util/NoSuchElementException", .methodLink RL 7 yX4_of, .instanceMethod yX4_of, .selects RX4 yX4_of yX4_of, .initialized RX4, .code yX4_of cX4_of 4 (some .int), .classLink RX4 84 "java/util/NoSuchElementException", .initialized "java/util/NoSuchElementException", .fieldLink RX4 91 "NightRiders$Rider" "home" "I", .fieldLink RX4 94 "NightRiders$Rider" "at" "I", .fieldLink RX4 97 "NightRiders$Rider" "failed" "Z", .fieldLink RX4 101 "NightRiders$Rider" "free" "I", .fieldLink RX4 104 "NightRiders$Rider" "legsRidden" "I", .fieldLink RX4 107 "NightRiders$Rider" "boxMinutes" "I", .fieldLink RX4 110 "NightRiders$Rider" "area" "I", .fieldLink RX4 113 "NightRiders$Rider" "kinds" "I", .methodLink RX4 55 yX4_riderAt, .instanceMethod yX4_riderAt, .selects RX4 yX4_riderAt yX4_riderAt, .code yX4_riderAt cX4_riderAt 2 (some (.object "NightRiders$Rider")), .fieldLink RX4 39 "NightRiders" "riderCount" "I", .fieldLink RX4 15 "NightRiders" "riders" "[LNightRiders$Rider;"] ++ wsX30 ++ wsX40 ++ (vx_atS RX4 88 "java/util/NoSuchElementException" ["java/lang/RuntimeException", "java/lang/Exception"]).filter goodWord)
def wsL_law0_r1 : List Cond := [Cond.classLink RL 8 RX4, Cond.instantiable RX4 10, Cond.initialized RX4, Cond.classLink RL 16 RX5, Cond.instantiable RX5 35, Cond.initialized RX5, Cond.arrayClass .long, Cond.methodLink RL 15 yX4_init, Cond.instanceMethod yX4_init, Cond.code yX4_init cX4_init 1 none, Cond.methodLink RX4 3 objectInit, Cond.instanceMethod objectInit, Cond.code objectInit ⟨#[0xb1]⟩ 1 none, Cond.arrayClass .int, Cond.fieldLink RX4 9 "NightRiders" "roads" "[I", Cond.classLink RX4 13 RX3, Cond.fieldLink RX4 15 "NightRiders" "riders" "[LNightRiders$Rider;", Cond.classLink RX4 19 RX2, Cond.fieldLink RX4 21 "NightRiders" "requests" "[LNightRiders$Request;", Cond.classLink RX4 25 RX0, Cond.instantiable RX0 8, Cond.initialized RX0, Cond.fieldLink RX4 28 "NightRiders" "trial" "LNightRiders$Chain;", Cond.fieldLink RX4 32 "NightRiders" "chosen" "LNightRiders$Chain;"]
def wsL_law0_r2 : List Cond := [Cond.fieldLink RX4 35 "NightRiders" "placeCount" "I", Cond.fieldLink RX4 39 "NightRiders" "riderCount" "I", Cond.fieldLink RX4 42 "NightRiders" "requestCount" "I", Cond.fieldLink RX4 45 "NightRiders" "resting" "I", Cond.fieldLink RX4 48 "NightRiders" "lastSent" "I", Cond.instanceMethod yX0_init, Cond.code yX0_init cX0_init 1 none, Cond.methodLink RX0 3 objectInit, Cond.fieldLink RX0 9 "NightRiders$Chain" "riders" "[I", Cond.fieldLink RX0 15 "NightRiders$Chain" "froms" "[I", Cond.fieldLink RX0 18 "NightRiders$Chain" "tos" "[I", Cond.fieldLink RX0 21 "NightRiders$Chain" "starts" "[I", Cond.fieldLink RX0 24 "NightRiders$Chain" "ends" "[I", Cond.fieldLink RX0 27 "NightRiders$Chain" "length" "I", Cond.fieldLink RX0 31 "NightRiders$Chain" "kind" "I", Cond.fieldLink RX0 34 "NightRiders$Chain" "goal" "I", Cond.methodLink RL 18 yX5_init, Cond.instanceMethod yX5_init, Cond.code yX5_init cX5_init 1 none, Cond.methodLink RX5 1 objectInit, Cond.fieldLink RX5 9 "NightRidersModel" "roads" "[I", Cond.fieldLink RX5 13 "NightRidersModel" "home" "[I", Cond.fieldLink RX5 16 "NightRidersModel" "area" "[I", Cond.fieldLink RX5 19 "NightRidersModel" "dutyFrom" "[I"]
def wsL_law0_r3 : List Cond := [Cond.fieldLink RX5 22 "NightRidersModel" "dutyTo" "[I", Cond.fieldLink RX5 25 "NightRidersModel" "kinds" "[I", Cond.fieldLink RX5 28 "NightRidersModel" "at" "[I", Cond.fieldLink RX5 31 "NightRidersModel" "free" "[I", Cond.arrayClass .boolean, Cond.fieldLink RX5 34 "NightRidersModel" "failed" "[Z", Cond.fieldLink RX5 38 "NightRidersModel" "rode" "[I", Cond.fieldLink RX5 41 "NightRidersModel" "minutes" "[I", Cond.fieldLink RX5 44 "NightRidersModel" "rest" "I", Cond.fieldLink RX5 48 "NightRidersModel" "kind" "[I", Cond.fieldLink RX5 51 "NightRidersModel" "from" "[I", Cond.fieldLink RX5 54 "NightRidersModel" "to" "[I", Cond.fieldLink RX5 57 "NightRidersModel" "ready" "[I", Cond.fieldLink RX5 60 "NightRidersModel" "cold" "[I", Cond.fieldLink RX5 63 "NightRidersModel" "state" "[I", Cond.fieldLink RX5 66 "NightRidersModel" "latest" "I", Cond.fieldLink RX5 69 "NightRidersModel" "legs" "[I", Cond.fieldLink RX5 72 "NightRidersModel" "legMany" "[I", Cond.fieldLink RX5 75 "NightRidersModel" "far" "[I", Cond.fieldLink RX5 78 "NightRidersModel" "tryRider" "[I", Cond.fieldLink RX5 81 "NightRidersModel" "tryPlace" "[I", Cond.fieldLink RX5 84 "NightRidersModel" "tryStart" "[I", Cond.fieldLink RX5 87 "NightRidersModel" "tryEnd" "[I", Cond.fieldLink RX5 90 "NightRidersModel" "bestRider" "[I"]
def wsL_law0_r4 : List Cond := [Cond.fieldLink RX5 93 "NightRidersModel" "bestPlace" "[I", Cond.fieldLink RX5 96 "NightRidersModel" "bestStart" "[I", Cond.fieldLink RX5 99 "NightRidersModel" "bestEnd" "[I", Cond.methodLink RL 19 yX4_place, Cond.instanceMethod yX4_place, Cond.selects RX4 yX4_place yX4_place, Cond.code yX4_place cX4_place 1 (some .int), Cond.methodLink RL 23 yX5_place, Cond.instanceMethod yX5_place, Cond.selects RX5 yX5_place yX5_place, Cond.code yX5_place cX5_place 1 (some .int), Cond.fieldLink RX5 102 "NightRidersModel" "thrown" "I", Cond.fieldLink RX5 105 "NightRidersModel" "places" "I", Cond.methodLink RL 24 yX4_road, Cond.instanceMethod yX4_road, Cond.selects RX4 yX4_road yX4_road, Cond.code yX4_road cX4_road 6 (some .boolean), Cond.methodLink RX4 51 yX4_isPlace, Cond.instanceMethod yX4_isPlace, Cond.selects RX4 yX4_isPlace yX4_isPlace, Cond.code yX4_isPlace cX4_isPlace 2 (some .boolean), Cond.methodLink RX4 55 yX4_riderAt, Cond.instanceMethod yX4_riderAt, Cond.selects RX4 yX4_riderAt yX4_riderAt]
def wsL_law0_r5 : List Cond := [Cond.code yX4_riderAt cX4_riderAt 2 (some (.object "NightRiders$Rider")), Cond.methodLink RX4 59 yX4_settleWays, Cond.instanceMethod yX4_settleWays, Cond.selects RX4 yX4_settleWays yX4_settleWays, Cond.code yX4_settleWays cX4_settleWays 4 none, Cond.fieldLink RX4 214 "NightRiders$Rider" "ways" "[I", Cond.fieldLink RX4 110 "NightRiders$Rider" "area" "I", Cond.methodLink RX4 217 yX4_roadWithin, Cond.instanceMethod yX4_roadWithin, Cond.selects RX4 yX4_roadWithin yX4_roadWithin, Cond.code yX4_roadWithin cX4_roadWithin 5 (some .int), Cond.methodLink RX4 67 yX4_hasBit, Cond.static yX4_hasBit, Cond.code yX4_hasBit cX4_hasBit 2 (some .boolean), Cond.methodLink RX4 221 yX3_shortenWays, Cond.instanceMethod yX3_shortenWays, Cond.selects RX3 yX3_shortenWays yX3_shortenWays, Cond.initialized RX3, Cond.code yX3_shortenWays cX3_shortenWays 7 none, Cond.fieldLink RX3 9 "NightRiders$Rider" "ways" "[I", Cond.methodLink RL 28 yX5_road, Cond.instanceMethod yX5_road, Cond.selects RX5 yX5_road yX5_road, Cond.code yX5_road cX5_road 4 (some .boolean)]
def wsL_law0_r6 : List Cond := [Cond.methodLink RX5 118 yX5_isPlace, Cond.instanceMethod yX5_isPlace, Cond.selects RX5 yX5_isPlace yX5_isPlace, Cond.code yX5_isPlace cX5_isPlace 2 (some .boolean), Cond.methodLink RX5 108 yX5_in, Cond.static yX5_in, Cond.code yX5_in cX5_in 3 (some .boolean), Cond.methodLink RL 29 yX4_rider, Cond.instanceMethod yX4_rider, Cond.selects RX4 yX4_rider yX4_rider, Cond.code yX4_rider cX4_rider 7 (some .int), Cond.instantiable RX3 11, Cond.methodLink RX4 63 yX4_areBits, Cond.static yX4_areBits, Cond.code yX4_areBits cX4_areBits 2 (some .boolean), Cond.methodLink RX4 70 yX4_isMinute, Cond.static yX4_isMinute, Cond.code yX4_isMinute cX4_isMinute 1 (some .boolean), Cond.methodLink RX4 73 yX3_init, Cond.instanceMethod yX3_init, Cond.code yX3_init cX3_init 6 none, Cond.methodLink RX3 3 objectInit, Cond.fieldLink RX3 15 "NightRiders$Rider" "legsRidden" "I", Cond.fieldLink RX3 19 "NightRiders$Rider" "boxMinutes" "I"]
def wsL_law0_r7 : List Cond := [Cond.fieldLink RX3 22 "NightRiders$Rider" "failed" "Z", Cond.fieldLink RX3 26 "NightRiders$Rider" "home" "I", Cond.fieldLink RX3 29 "NightRiders$Rider" "area" "I", Cond.fieldLink RX3 32 "NightRiders$Rider" "dutyFrom" "I", Cond.fieldLink RX3 35 "NightRiders$Rider" "dutyTo" "I", Cond.fieldLink RX3 38 "NightRiders$Rider" "kinds" "I", Cond.fieldLink RX3 41 "NightRiders$Rider" "at" "I", Cond.fieldLink RX3 44 "NightRiders$Rider" "free" "I", Cond.methodLink RL 33 yX5_rider, Cond.instanceMethod yX5_rider, Cond.selects RX5 yX5_rider yX5_rider, Cond.code yX5_rider cX5_rider 6 (some .int), Cond.fieldLink RX5 112 "NightRidersModel" "riders" "I", Cond.methodLink RL 34 yX4_rest, Cond.instanceMethod yX4_rest, Cond.selects RX4 yX4_rest yX4_rest, Cond.code yX4_rest cX4_rest 3 (some .int), Cond.methodLink RL 38 yX5_rest, Cond.instanceMethod yX5_rest, Cond.selects RX5 yX5_rest yX5_rest, Cond.code yX5_rest cX5_rest 3 (some .int), Cond.methodLink RL 39 yX4_count, Cond.instanceMethod yX4_count, Cond.selects RX4 yX4_count yX4_count]
def wsL_law0_r8 : List Cond := [Cond.code yX4_count cX4_count 2 (some .int), Cond.methodLink RX4 76 yX4_countRequests, Cond.instanceMethod yX4_countRequests, Cond.selects RX4 yX4_countRequests yX4_countRequests, Cond.code yX4_countRequests cX4_countRequests 5 (some .int), Cond.methodLink RX4 137 yX4_requestAt, Cond.instanceMethod yX4_requestAt, Cond.selects RX4 yX4_requestAt yX4_requestAt, Cond.code yX4_requestAt cX4_requestAt 2 (some (.object "NightRiders$Request")), Cond.methodLink RX4 227 yX4_isCounted, Cond.static yX4_isCounted, Cond.code yX4_isCounted cX4_isCounted 2 (some .boolean), Cond.fieldLink RX4 141 "NightRiders$Request" "sent" "Z", Cond.fieldLink RX4 172 "NightRiders$Request" "lost" "Z", Cond.methodLink RX4 231 yX2_cameWarm, Cond.instanceMethod yX2_cameWarm, Cond.selects RX2 yX2_cameWarm yX2_cameWarm, Cond.initialized RX2, Cond.code yX2_cameWarm cX2_cameWarm 1 (some .boolean), Cond.fieldLink RX2 21 "NightRiders$Request" "sent" "Z", Cond.fieldLink RX2 25 "NightRiders$Request" "lost" "Z", Cond.fieldLink RX2 37 "NightRiders$Request" "ready" "I", Cond.fieldLink RX2 40 "NightRiders$Request" "cold" "I", Cond.methodLink RX2 50 yX2_lastEnd]
def wsL_law0_r9 : List Cond := [Cond.instanceMethod yX2_lastEnd, Cond.selects RX2 yX2_lastEnd yX2_lastEnd, Cond.code yX2_lastEnd cX2_lastEnd 2 (some .int), Cond.fieldLink RX2 17 "NightRiders$Request" "legCount" "I", Cond.fieldLink RX2 47 "NightRiders$Leg" "ends" "I", Cond.methodLink RX2 43 yX2_legAt, Cond.instanceMethod yX2_legAt, Cond.selects RX2 yX2_legAt yX2_legAt, Cond.code yX2_legAt cX2_legAt 2 (some (.object "NightRiders$Leg")), Cond.fieldLink RX2 11 "NightRiders$Request" "legs" "[LNightRiders$Leg;", Cond.methodLink RL 42 yX5_count, Cond.instanceMethod yX5_count, Cond.selects RX5 yX5_count yX5_count, Cond.code yX5_count cX5_count 4 (some .int), Cond.fieldLink RX5 115 "NightRidersModel" "calls" "I", Cond.methodLink RX5 130 yX5_endOf, Cond.instanceMethod yX5_endOf, Cond.selects RX5 yX5_endOf yX5_endOf, Cond.code yX5_endOf cX5_endOf 2 (some .int), Cond.methodLink RL 43 yX4_way, Cond.instanceMethod yX4_way, Cond.selects RX4 yX4_way yX4_way, Cond.code yX4_way cX4_way 5 (some .int), Cond.methodLink RX4 80 yX4_wayOf]
def wsL_law0_r10 : List Cond := [Cond.instanceMethod yX4_wayOf, Cond.selects RX4 yX4_wayOf yX4_wayOf, Cond.code yX4_wayOf cX4_wayOf 4 (some .int), Cond.methodLink RL 47 yX5_way, Cond.instanceMethod yX5_way, Cond.selects RX5 yX5_way yX5_way, Cond.code yX5_way cX5_way 5 (some .int), Cond.constant RX5 122 (1000000), Cond.methodLink RX5 123 yX5_isRider, Cond.instanceMethod yX5_isRider, Cond.selects RX5 yX5_isRider yX5_isRider, Cond.code yX5_isRider cX5_isRider 2 (some .boolean), Cond.methodLink RX5 126 yX5_wayOf, Cond.instanceMethod yX5_wayOf, Cond.selects RX5 yX5_wayOf yX5_wayOf, Cond.code yX5_wayOf cX5_wayOf 8 (some .int), Cond.methodLink RL 48 yL_of, Cond.static yL_of, Cond.initialized RL, Cond.codeWith yL_of cL_of 5 (some .int) [(0, 10, 13, 13)], Cond.classLink RL 13 "java/util/NoSuchElementException", Cond.methodLink RL 7 yX4_of, Cond.instanceMethod yX4_of, Cond.selects RX4 yX4_of yX4_of]
def wsL_law0_r11 : List Cond := [Cond.code yX4_of cX4_of 4 (some .int), Cond.classLink RX4 84 "java/util/NoSuchElementException", Cond.initialized "java/util/NoSuchElementException", Cond.fieldLink RX4 91 "NightRiders$Rider" "home" "I", Cond.fieldLink RX4 94 "NightRiders$Rider" "at" "I", Cond.fieldLink RX4 97 "NightRiders$Rider" "failed" "Z", Cond.fieldLink RX4 101 "NightRiders$Rider" "free" "I", Cond.fieldLink RX4 104 "NightRiders$Rider" "legsRidden" "I", Cond.fieldLink RX4 107 "NightRiders$Rider" "boxMinutes" "I", Cond.fieldLink RX4 113 "NightRiders$Rider" "kinds" "I", Cond.methodLink RL 53 yX5_of, Cond.instanceMethod yX5_of, Cond.selects RX5 yX5_of yX5_of, Cond.code yX5_of cX5_of 3 (some .int), Cond.methodLink RL 54 yX5_thrown, Cond.instanceMethod yX5_thrown, Cond.selects RX5 yX5_thrown yX5_thrown, Cond.code yX5_thrown cX5_thrown 1 (some .int), Cond.methodLink RL 57 yX4_duty, Cond.instanceMethod yX4_duty, Cond.selects RX4 yX4_duty yX4_duty, Cond.code yX4_duty cX4_duty 6 (some .int), Cond.methodLink RX4 118 yX4_isKind, Cond.static yX4_isKind]
def wsL_law0_r12 : List Cond := [Cond.code yX4_isKind cX4_isKind 1 (some .boolean), Cond.methodLink RX4 121 yX3_carries, Cond.instanceMethod yX3_carries, Cond.selects RX3 yX3_carries yX3_carries, Cond.code yX3_carries cX3_carries 2 (some .boolean), Cond.methodLink RX4 124 yX3_isOnDuty, Cond.instanceMethod yX3_isOnDuty, Cond.selects RX3 yX3_isOnDuty yX3_isOnDuty, Cond.code yX3_isOnDuty cX3_isOnDuty 2 (some .boolean), Cond.methodLink RL 60 yX5_duty, Cond.instanceMethod yX5_duty, Cond.selects RX5 yX5_duty yX5_duty, Cond.code yX5_duty cX5_duty 3 (some .int), Cond.methodLink RX5 138 yX5_onDuty, Cond.instanceMethod yX5_onDuty, Cond.selects RX5 yX5_onDuty yX5_onDuty, Cond.code yX5_onDuty cX5_onDuty 5 (some .int), Cond.methodLink RX5 134 yX5_mayCarry, Cond.instanceMethod yX5_mayCarry, Cond.selects RX5 yX5_mayCarry yX5_mayCarry, Cond.code yX5_mayCarry cX5_mayCarry 3 (some .boolean), Cond.methodLink RL 61 yX4_bare, Cond.instanceMethod yX4_bare, Cond.selects RX4 yX4_bare yX4_bare]
def wsL_law0_r13 : List Cond := [Cond.code yX4_bare cX4_bare 5 (some .int), Cond.methodLink RX4 131 Lib.Math.max.name, Cond.static Lib.Math.max.name, Cond.initialized "java/lang/Math", Cond.code Lib.Math.max.name Lib.Math.max.code 2 (some .int), Cond.methodLink RX4 127 yX4_lastOnDuty, Cond.instanceMethod yX4_lastOnDuty, Cond.selects RX4 yX4_lastOnDuty yX4_lastOnDuty, Cond.code yX4_lastOnDuty cX4_lastOnDuty 6 (some .int), Cond.fieldLink RX4 211 "NightRiders$Rider" "dutyTo" "I", Cond.methodLink RL 64 yX5_bare, Cond.instanceMethod yX5_bare, Cond.selects RX5 yX5_bare yX5_bare, Cond.code yX5_bare cX5_bare 4 (some .int), Cond.methodLink RL 65 yX4_call, Cond.instanceMethod yX4_call, Cond.selects RX4 yX4_call yX4_call, Cond.code yX4_call cX4_call 6 (some .int), Cond.instantiable RX2 9, Cond.methodLink RX4 136 yX2_init, Cond.instanceMethod yX2_init, Cond.code yX2_init cX2_init 6 none, Cond.methodLink RX2 3 objectInit, Cond.classLink RX2 9 RX1]
def wsL_law0_r14 : List Cond := [Cond.fieldLink RX2 28 "NightRiders$Request" "kind" "I", Cond.fieldLink RX2 31 "NightRiders$Request" "from" "I", Cond.fieldLink RX2 34 "NightRiders$Request" "to" "I", Cond.methodLink RL 68 yX5_call, Cond.instanceMethod yX5_call, Cond.selects RX5 yX5_call yX5_call, Cond.code yX5_call cX5_call 6 (some .int), Cond.methodLink RL 69 yX4_best, Cond.instanceMethod yX4_best, Cond.selects RX4 yX4_best yX4_best, Cond.code yX4_best cX4_best 3 (some .int), Cond.fieldLink RX4 144 "NightRiders$Request" "from" "I", Cond.fieldLink RX4 147 "NightRiders$Request" "ready" "I", Cond.methodLink RX4 150 yX4_findChain, Cond.instanceMethod yX4_findChain, Cond.selects RX4 yX4_findChain yX4_findChain, Cond.code yX4_findChain cX4_findChain 4 (some .boolean), Cond.fieldLink RX4 163 "NightRiders$Request" "kind" "I", Cond.fieldLink RX4 235 "NightRiders$Chain" "kind" "I", Cond.fieldLink RX4 166 "NightRiders$Request" "to" "I", Cond.fieldLink RX4 236 "NightRiders$Chain" "goal" "I", Cond.fieldLink RX4 239 "NightRiders$Chain" "length" "I", Cond.methodLink RX4 242 yX4_tryRiders, Cond.instanceMethod yX4_tryRiders]
def wsL_law0_r15 : List Cond := [Cond.selects RX4 yX4_tryRiders yX4_tryRiders, Cond.code yX4_tryRiders cX4_tryRiders 8 none, Cond.methodLink RX4 246 yX0_isRiddenBy, Cond.instanceMethod yX0_isRiddenBy, Cond.selects RX0 yX0_isRiddenBy yX0_isRiddenBy, Cond.code yX0_isRiddenBy cX0_isRiddenBy 4 (some .boolean), Cond.methodLink RX4 207 yX4_thereFrom, Cond.instanceMethod yX4_thereFrom, Cond.selects RX4 yX4_thereFrom yX4_thereFrom, Cond.code yX4_thereFrom cX4_thereFrom 4 (some .int), Cond.fieldLink RX4 224 "NightRiders$Rider" "dutyFrom" "I", Cond.methodLink RX4 249 yX4_isTooLate, Cond.instanceMethod yX4_isTooLate, Cond.selects RX4 yX4_isTooLate yX4_isTooLate, Cond.code yX4_isTooLate cX4_isTooLate 2 (some .boolean), Cond.methodLink RX4 154 yX0_lastEnd, Cond.instanceMethod yX0_lastEnd, Cond.selects RX0 yX0_lastEnd yX0_lastEnd, Cond.code yX0_lastEnd cX0_lastEnd 1 (some .int), Cond.methodLink RX4 252 yX4_waitsUntil, Cond.instanceMethod yX4_waitsUntil, Cond.selects RX4 yX4_waitsUntil yX4_waitsUntil, Cond.code yX4_waitsUntil cX4_waitsUntil 4 (some .boolean), Cond.fieldLink RX4 263 "NightRiders$Chain" "riders" "[I"]
def wsL_law0_r16 : List Cond := [Cond.methodLink RX4 255 yX0_open, Cond.instanceMethod yX0_open, Cond.selects RX0 yX0_open yX0_open, Cond.code yX0_open cX0_open 5 none, Cond.methodLink RX4 259 yX4_tryEnds, Cond.instanceMethod yX4_tryEnds, Cond.selects RX4 yX4_tryEnds yX4_tryEnds, Cond.code yX4_tryEnd cX4_tryEnd 6 none, Cond.methodLink RX4 269 yX0_fromOf, Cond.instanceMethod yX0_fromOf, Cond.selects RX0 yX0_fromOf yX0_fromOf, Cond.code yX0_fromOf cX0_fromOf 2 (some .int), Cond.methodLink RX4 272 yX0_comesFrom, Cond.instanceMethod yX0_comesFrom, Cond.selects RX0 yX0_comesFrom yX0_comesFrom, Cond.code yX0_comesFrom cX0_comesFrom 4 (some .boolean), Cond.methodLink RX4 275 yX0_close, Cond.instanceMethod yX0_close, Cond.selects RX0 yX0_close yX0_close, Cond.code yX0_close cX0_close 4 none, Cond.methodLink RX4 278 yX4_keepIfBetter, Cond.instanceMethod yX4_keepIfBetter, Cond.selects RX4 yX4_keepIfBetter yX4_keepIfBetter, Cond.code yX4_keepIfBetter cX4_keepIfBetter 3 none]
def wsL_law0_r17 : List Cond := [Cond.methodLink RX4 281 yX0_take, Cond.instanceMethod yX0_take, Cond.selects RX0 yX0_take yX0_take, Cond.code yX0_take cX0_take 3 none, Cond.code yX4_tryEnds cX4_tryEnds 5 none, Cond.methodLink RX4 265 yX4_tryEnd, Cond.instanceMethod yX4_tryEnd, Cond.selects RX4 yX4_tryEnd yX4_tryEnd, Cond.methodLink RL 72 yX5_best, Cond.instanceMethod yX5_best, Cond.selects RX5 yX5_best yX5_best, Cond.code yX5_best cX5_best 2 (some .int), Cond.fieldLink RX5 142 "NightRidersModel" "bestMany" "I", Cond.methodLink RX5 157 yX5_isCall, Cond.instanceMethod yX5_isCall, Cond.selects RX5 yX5_isCall yX5_isCall, Cond.code yX5_isCall cX5_isCall 2 (some .boolean), Cond.methodLink RX5 160 yX5_findBest, Cond.instanceMethod yX5_findBest, Cond.selects RX5 yX5_findBest yX5_findBest, Cond.code yX5_findBest cX5_findBest 5 (some .boolean), Cond.methodLink RX5 150 yX5_tryLeg, Cond.instanceMethod yX5_tryLeg, Cond.selects RX5 yX5_tryLeg yX5_tryLeg]
def wsL_law0_r18 : List Cond := [Cond.code yX5_tryLeg cX5_tryLeg 14 none, Cond.methodLink RX5 145 Lib.Math.max.name, Cond.methodLink RX5 154 yX5_isBetter, Cond.instanceMethod yX5_isBetter, Cond.selects RX5 yX5_isBetter yX5_isBetter, Cond.code yX5_isBetter cX5_isBetter 5 (some .boolean), Cond.methodLink RL 73 yX4_send, Cond.instanceMethod yX4_send, Cond.selects RX4 yX4_send yX4_send, Cond.code yX4_send cX4_send 3 (some .int), Cond.methodLink RX4 158 yX4_rideChosen, Cond.instanceMethod yX4_rideChosen, Cond.selects RX4 yX4_rideChosen yX4_rideChosen, Cond.code yX4_rideChosen cX4_rideChosen 7 none, Cond.fieldLink RX4 285 "NightRiders$Chain" "starts" "[I", Cond.fieldLink RX4 287 "NightRiders$Chain" "ends" "[I", Cond.fieldLink RX4 289 "NightRiders$Chain" "tos" "[I", Cond.classLink RX4 183 RX1, Cond.instantiable RX1 8, Cond.initialized RX1, Cond.fieldLink RX4 292 "NightRiders$Chain" "froms" "[I", Cond.methodLink RX4 295 yX1_init, Cond.instanceMethod yX1_init, Cond.code yX1_init cX1_init 8 none]
def wsL_law0_r19 : List Cond := [Cond.methodLink RX1 1 objectInit, Cond.fieldLink RX1 7 "NightRiders$Leg" "failed" "Z", Cond.fieldLink RX1 13 "NightRiders$Leg" "rider" "I", Cond.fieldLink RX1 17 "NightRiders$Leg" "from" "I", Cond.fieldLink RX1 20 "NightRiders$Leg" "to" "I", Cond.fieldLink RX1 23 "NightRiders$Leg" "starts" "I", Cond.fieldLink RX1 26 "NightRiders$Leg" "ends" "I", Cond.fieldLink RX1 29 "NightRiders$Leg" "atAhead" "I", Cond.fieldLink RX1 32 "NightRiders$Leg" "freeAhead" "I", Cond.methodLink RX4 298 yX2_addLeg, Cond.instanceMethod yX2_addLeg, Cond.selects RX2 yX2_addLeg yX2_addLeg, Cond.code yX2_addLeg cX2_addLeg 2 none, Cond.methodLink RX4 302 yX0_handsOn, Cond.instanceMethod yX0_handsOn, Cond.selects RX0 yX0_handsOn yX0_handsOn, Cond.code yX0_handsOn cX0_handsOn 2 (some .int), Cond.methodLink RX0 37 yX0_lastEnd, Cond.methodLink RX4 162 yX2_lastEnd, Cond.methodLink RL 76 yX5_send, Cond.instanceMethod yX5_send, Cond.selects RX5 yX5_send yX5_send, Cond.code yX5_send cX5_send 2 (some .int), Cond.methodLink RX5 164 yX5_ride]
def wsL_law0_r20 : List Cond := [Cond.instanceMethod yX5_ride, Cond.selects RX5 yX5_ride yX5_ride, Cond.code yX5_ride cX5_ride 7 none, Cond.methodLink RL 77 yX4_told, Cond.instanceMethod yX4_told, Cond.selects RX4 yX4_told yX4_told, Cond.code yX4_told cX4_told 4 (some .int), Cond.fieldLink RX4 169 "NightRiders$Request" "cold" "I", Cond.fieldLink RX4 175 "NightRiders$Request" "legCount" "I", Cond.methodLink RL 80 yX5_told, Cond.instanceMethod yX5_told, Cond.selects RX5 yX5_told yX5_told, Cond.code yX5_told cX5_told 3 (some .int), Cond.methodLink RL 81 yX4_leg, Cond.instanceMethod yX4_leg, Cond.selects RX4 yX4_leg yX4_leg, Cond.code yX4_leg cX4_leg 6 (some .int), Cond.fieldLink RX4 182 "NightRiders$Leg" "rider" "I", Cond.fieldLink RX4 187 "NightRiders$Leg" "from" "I", Cond.fieldLink RX4 188 "NightRiders$Leg" "to" "I", Cond.fieldLink RX4 189 "NightRiders$Leg" "starts" "I", Cond.fieldLink RX4 192 "NightRiders$Leg" "ends" "I", Cond.fieldLink RX4 195 "NightRiders$Leg" "failed" "Z", Cond.methodLink RX4 178 yX2_legAt]
def wsL_law0_r21 : List Cond := [Cond.methodLink RL 84 yX5_leg, Cond.instanceMethod yX5_leg, Cond.selects RX5 yX5_leg yX5_leg, Cond.code yX5_leg cX5_leg 4 (some .int), Cond.methodLink RL 85 yX4_hand, Cond.instanceMethod yX4_hand, Cond.selects RX4 yX4_hand yX4_hand, Cond.code yX4_hand cX4_hand 6 (some .int), Cond.methodLink RL 88 yX5_hand, Cond.instanceMethod yX5_hand, Cond.selects RX5 yX5_hand yX5_hand, Cond.code yX5_hand cX5_hand 5 (some .int), Cond.methodLink RL 89 yX4_fail, Cond.instanceMethod yX4_fail, Cond.selects RX4 yX4_fail yX4_fail, Cond.code yX4_fail cX4_fail 6 (some .int), Cond.methodLink RX4 196 yX4_mayFail, Cond.static yX4_mayFail, Cond.code yX4_mayFail cX4_mayFail 6 (some .boolean), Cond.methodLink RX4 199 yX4_dropLegsBehind, Cond.instanceMethod yX4_dropLegsBehind, Cond.selects RX4 yX4_dropLegsBehind yX4_dropLegsBehind, Cond.code yX4_dropLegsBehind cX4_dropLegsBehind 6 none, Cond.fieldLink RX4 305 "NightRiders$Leg" "atAhead" "I"]
def wsL_law0_r22 : List Cond := [Cond.fieldLink RX4 308 "NightRiders$Leg" "freeAhead" "I", Cond.methodLink RX4 203 yX4_failLeg, Cond.instanceMethod yX4_failLeg, Cond.selects RX4 yX4_failLeg yX4_failLeg, Cond.code yX4_failLeg cX4_failLeg 4 none, Cond.methodLink RL 92 yX5_fail, Cond.instanceMethod yX5_fail, Cond.selects RX5 yX5_fail yX5_fail, Cond.code yX5_fail cX5_fail 8 (some .int), Cond.methodLink RL 93 yX4_next, Cond.instanceMethod yX4_next, Cond.selects RX4 yX4_next yX4_next, Cond.code yX4_next cX4_next 10 (some .int), Cond.methodLink RL 96 yX5_next, Cond.instanceMethod yX5_next, Cond.selects RX5 yX5_next yX5_next, Cond.code yX5_next cX5_next 8 (some .int)]
def wsL_law0 : List Cond := (wsL_law0_r1 ++ (wsL_law0_r2 ++ (wsL_law0_r3 ++ (wsL_law0_r4 ++ (wsL_law0_r5 ++ (wsL_law0_r6 ++ (wsL_law0_r7 ++ (wsL_law0_r8 ++ (wsL_law0_r9 ++ (wsL_law0_r10 ++ (wsL_law0_r11 ++ (wsL_law0_r12 ++ (wsL_law0_r13 ++ (wsL_law0_r14 ++ (wsL_law0_r15 ++ (wsL_law0_r16 ++ (wsL_law0_r17 ++ (wsL_law0_r18 ++ (wsL_law0_r19 ++ (wsL_law0_r20 ++ (wsL_law0_r21 ++ wsL_law0_r22))))))))))))))))))))) ++ wsX40 ++ wsX50 ++ wsX00 ++ wsX30 ++ wsX20 ++ wsX10 ++ ([] : List Cond)
def wsL_law : List Cond := wsL_law0 ++ (vx_atS RX4 88 "java/util/NoSuchElementException" ["java/lang/RuntimeException", "java/lang/Exception"]).filter goodWord
set_option maxRecDepth 20000 in
theorem wsL_law_in0 : ∀ w ∈ wsL_law0, w ∈ lw_tbl := fun w h => (goodIn_p wsL_law0 [47, 50, 59, 563, 129, 679, 133, 137, 141, 145, 149, 152, 156, 683, 687, 690, 160, 163, 166, 170, 694, 220, 698, 224, 228, 232, 235, 239, 243, 247, 715, 719, 251, 255, 702, 706, 710, 491, 723, 675, 259, 262, 266, 271, 727, 731, 735, 275, 282, 279, 739, 286, 290, 743, 333, 337, 341, 345, 349, 353, 357, 361, 365, 373, 377, 381, 385, 389, 393, 369, 747, 751, 755, 759, 764, 397, 401, 406, 445, 449, 768, 772, 455, 776, 459, 780, 464, 784, 468, 471, 475, 479, 788, 483, 792] (by decide +kernel) (by decide +kernel) w h).1
theorem wsL_law_x0 : ∀ w ∈ (vx_atS RX4 88 "java/util/NoSuchElementException" ["java/lang/RuntimeException", "java/lang/Exception"]).filter goodWord, w ∈ lw_tbl := by decide +kernel
theorem wsL_law_in : ∀ w ∈ wsL_law, w ∈ lw_tbl := fun w h => (List.mem_append.mp h).elim (fun h => wsL_law_in0 w h) (fun h => wsL_law_x0 w h)
theorem inlX0 : ∀ w ∈ wsX00, w ∈ wsL_law := fun _ h => List.mem_append_left _ (List.mem_append_left _ (List.mem_append_left _ (List.mem_append_left _ (List.mem_append_left _ (List.mem_append_right _ h)))))
theorem inX0 : ∀ w ∈ wsX00, w ∈ lw_tbl := fun w h => wsL_law_in w (inlX0 w h)
theorem inlX1 : ∀ w ∈ wsX10, w ∈ wsL_law := fun _ h => List.mem_append_left _ (List.mem_append_left _ (List.mem_append_right _ h))
theorem inX1 : ∀ w ∈ wsX10, w ∈ lw_tbl := fun w h => wsL_law_in w (inlX1 w h)
theorem inlX2 : ∀ w ∈ wsX20, w ∈ wsL_law := fun _ h => List.mem_append_left _ (List.mem_append_left _ (List.mem_append_left _ (List.mem_append_right _ h)))
theorem inX2 : ∀ w ∈ wsX20, w ∈ lw_tbl := fun w h => wsL_law_in w (inlX2 w h)
theorem inlX3 : ∀ w ∈ wsX30, w ∈ wsL_law := fun _ h => List.mem_append_left _ (List.mem_append_left _ (List.mem_append_left _ (List.mem_append_left _ (List.mem_append_right _ h))))
theorem inX3 : ∀ w ∈ wsX30, w ∈ lw_tbl := fun w h => wsL_law_in w (inlX3 w h)
theorem inlX4 : ∀ w ∈ wsX40, w ∈ wsL_law := fun _ h => List.mem_append_left _ (List.mem_append_left _ (List.mem_append_left _ (List.mem_append_left _ (List.mem_append_left _ (List.mem_append_left _ (List.mem_append_left _ (List.mem_append_right _ h)))))))
theorem inX4 : ∀ w ∈ wsX40, w ∈ lw_tbl := fun w h => wsL_law_in w (inlX4 w h)
theorem inlX5 : ∀ w ∈ wsX50, w ∈ wsL_law := fun _ h => List.mem_append_left _ (List.mem_append_left _ (List.mem_append_left _ (List.mem_append_left _ (List.mem_append_left _ (List.mem_append_left _ (List.mem_append_right _ h))))))
theorem inX5 : ∀ w ∈ wsX50, w ∈ lw_tbl := fun w h => wsL_law_in w (inlX5 w h)
theorem inJx145de : ∀ w ∈ wsJx145de0, w ∈ lw_tbl := by decide +kernel
theorem inJ9 : ∀ w ∈ wsJ90, w ∈ lw_tbl := by decide +kernel
theorem inJ0 : ∀ w ∈ wsJ00, w ∈ lw_tbl := by decide +kernel
set_option maxRecDepth 20000 in
theorem ggX0_handsOn_X0_lastEnd : GoodIn wsX0_handsOn wsX0_lastEnd := goodIn_r _ [7, 1, 8, 9, 10, 11, 12, 13, 14, 15, 16] (by decide +kernel) (by decide +kernel)
set_option maxRecDepth 20000 in
theorem gX0_handsOn_X0_lastEnd : GoodIn wsX0_handsOn (wsV RX0 37 RX0 yX0_lastEnd wsX0_lastEnd) := goodIn_app (goodIn_of _ (by decide +kernel)) ggX0_handsOn_X0_lastEnd
set_option maxRecDepth 20000 in
theorem ggX2_lastEnd_X2_legAt : GoodIn wsX2_lastEnd wsX2_legAt := goodIn_r _ [7, 1, 8, 9, 10, 11, 12, 13, 14, 15, 16, 17] (by decide +kernel) (by decide +kernel)
set_option maxRecDepth 20000 in
theorem gX2_lastEnd_X2_legAt : GoodIn wsX2_lastEnd (wsV RX2 43 RX2 yX2_legAt wsX2_legAt) := goodIn_app (goodIn_of _ (by decide +kernel)) ggX2_lastEnd_X2_legAt
set_option maxRecDepth 20000 in
theorem ggX2_cameWarm_X2_lastEnd : GoodIn wsX2_cameWarm wsX2_lastEnd := goodIn_r _ [9, 10, 11, 12, 13, 14, 8, 15, 16, 17, 18, 19, 20, 21, 22, 23, 24, 25, 26, 27, 28, 29, 30, 31, 32, 33] (by decide +kernel) (by decide +kernel)
set_option maxRecDepth 20000 in
theorem gX2_cameWarm_X2_lastEnd : GoodIn wsX2_cameWarm (wsV RX2 50 RX2 yX2_lastEnd wsX2_lastEnd) := goodIn_app (goodIn_of _ (by decide +kernel)) ggX2_cameWarm_X2_lastEnd
set_option maxRecDepth 20000 in
theorem ggX3_carries_X4_hasBit : GoodIn wsX3_carries wsX4_hasBit := goodIn_r _ [5] (by decide +kernel) (by decide +kernel)
set_option maxRecDepth 20000 in
theorem gX3_carries_X4_hasBit_n47 : GoodIn wsX3_carries (wsX4_hasBit) := ggX3_carries_X4_hasBit
set_option maxRecDepth 20000 in
theorem ggX4_init_X0_init : GoodIn wsX4_init wsX0_init := goodIn_r _ [21, 22, 2, 3, 4, 23, 24, 25, 26, 27, 28, 29, 30, 41, 42, 43, 44, 45, 46, 47, 48] (by decide +kernel) (by decide +kernel)
set_option maxRecDepth 20000 in
theorem gX4_init_X0_init_n27 : GoodIn wsX4_init (wsX0_init) := ggX4_init_X0_init
set_option maxRecDepth 20000 in
theorem ggX4_road_X4_isPlace : GoodIn wsX4_road wsX4_isPlace := goodIn_r _ [7, 8, 33, 34, 35, 36, 37, 38, 39, 40, 41, 42] (by decide +kernel) (by decide +kernel)
set_option maxRecDepth 20000 in
theorem gX4_road_X4_isPlace : GoodIn wsX4_road (wsV RX4 51 RX4 yX4_isPlace wsX4_isPlace) := goodIn_app (goodIn_of _ (by decide +kernel)) ggX4_road_X4_isPlace
set_option maxRecDepth 20000 in
theorem ggX4_road_X4_riderAt : GoodIn wsX4_road wsX4_riderAt := goodIn_r _ [12, 2, 13, 33, 34, 35, 36, 37, 38, 39, 40, 41, 42] (by decide +kernel) (by decide +kernel)
set_option maxRecDepth 20000 in
theorem gX4_road_X4_riderAt : GoodIn wsX4_road (wsV RX4 55 RX4 yX4_riderAt wsX4_riderAt) := goodIn_app (goodIn_of _ (by decide +kernel)) ggX4_road_X4_riderAt
set_option maxRecDepth 20000 in
theorem ggX4_road_X4_settleWays : GoodIn wsX4_road wsX4_settleWays := goodIn_r _ [17, 18, 19, 20, 21, 22, 6, 23, 1, 3, 4, 5, 7, 8, 24, 25, 26, 27, 28, 29, 30, 31, 32, 43, 44, 45, 46, 47, 48, 49, 50, 51, 52, 53, 33, 34, 35, 36, 37, 38, 39, 40, 41, 42] (by decide +kernel) (by decide +kernel)
set_option maxRecDepth 20000 in
theorem gX4_road_X4_settleWays : GoodIn wsX4_road (wsV RX4 59 RX4 yX4_settleWays wsX4_settleWays) := goodIn_app (goodIn_of _ (by decide +kernel)) ggX4_road_X4_settleWays
set_option maxRecDepth 20000 in
theorem ggX4_rider_X4_isPlace : GoodIn wsX4_rider wsX4_isPlace := goodIn_r _ [11, 2, 54, 55, 56, 57, 58, 59, 60, 61, 62, 63] (by decide +kernel) (by decide +kernel)
set_option maxRecDepth 20000 in
theorem gX4_rider_X4_isPlace : GoodIn wsX4_rider (wsV RX4 51 RX4 yX4_isPlace wsX4_isPlace) := goodIn_app (goodIn_of _ (by decide +kernel)) ggX4_rider_X4_isPlace
set_option maxRecDepth 20000 in
theorem ggX4_rider_X4_areBits : GoodIn wsX4_rider wsX4_areBits := goodIn_r _ [14] (by decide +kernel) (by decide +kernel)
set_option maxRecDepth 20000 in
theorem gX4_rider_X4_areBits : GoodIn wsX4_rider (va_wsS RX4 63 yX4_areBits wsX4_areBits) := goodIn_app (goodIn_of _ (by decide +kernel)) ggX4_rider_X4_areBits
set_option maxRecDepth 20000 in
theorem ggX4_rider_X4_hasBit : GoodIn wsX4_rider wsX4_hasBit := goodIn_r _ [17] (by decide +kernel) (by decide +kernel)
set_option maxRecDepth 20000 in
theorem gX4_rider_X4_hasBit : GoodIn wsX4_rider (va_wsS RX4 67 yX4_hasBit wsX4_hasBit) := goodIn_app (goodIn_of _ (by decide +kernel)) ggX4_rider_X4_hasBit
set_option maxRecDepth 20000 in
theorem ggX4_rider_X4_isMinute : GoodIn wsX4_rider wsX4_isMinute := goodIn_r _ [20] (by decide +kernel) (by decide +kernel)
set_option maxRecDepth 20000 in
theorem gX4_rider_X4_isMinute : GoodIn wsX4_rider (va_wsS RX4 70 yX4_isMinute wsX4_isMinute) := goodIn_app (goodIn_of _ (by decide +kernel)) ggX4_rider_X4_isMinute
set_option maxRecDepth 20000 in
theorem ggX4_rider_X3_init : GoodIn wsX4_rider wsX3_init := goodIn_r _ [23, 24, 25, 26, 27, 28, 29, 30, 31, 32, 33, 34, 35, 36, 37, 38, 64, 65, 66, 67, 68, 69, 70, 71, 72, 73, 74] (by decide +kernel) (by decide +kernel)
set_option maxRecDepth 20000 in
theorem gX4_rider_X3_init : GoodIn wsX4_rider (wsX3_init) := ggX4_rider_X3_init
set_option maxRecDepth 20000 in
theorem ggX4_rider_X4_settleWays : GoodIn wsX4_rider wsX4_settleWays := goodIn_r _ [42, 43, 44, 45, 46, 47, 10, 48, 49, 7, 8, 9, 11, 2, 15, 16, 17, 50, 51, 52, 5, 53, 28, 64, 65, 66, 67, 68, 69, 70, 71, 72, 73, 74, 54, 55, 56, 57, 58, 59, 60, 61, 62, 63] (by decide +kernel) (by decide +kernel)
set_option maxRecDepth 20000 in
theorem gX4_rider_X4_settleWays : GoodIn wsX4_rider (wsV RX4 59 RX4 yX4_settleWays wsX4_settleWays) := goodIn_app (goodIn_of _ (by decide +kernel)) ggX4_rider_X4_settleWays
set_option maxRecDepth 20000 in
theorem ggX4_count_X4_countRequests : GoodIn wsX4_count wsX4_countRequests := goodIn_r _ [8, 3, 9, 10, 11, 7, 12, 13, 14, 15, 16, 17, 18, 19, 20, 21, 22, 23, 24, 25, 26, 27, 28, 29, 30, 31, 32, 33, 34, 35, 36, 37, 38, 39, 40, 41, 42, 43, 44, 45, 46, 47, 48, 49, 50, 51, 52, 53, 54, 55, 56, 57, 58, 59, 60, 61, 62, 63, 64, 65] (by decide +kernel) (by decide +kernel)
set_option maxRecDepth 20000 in
theorem gX4_count_X4_countRequests : GoodIn wsX4_count (wsV RX4 76 RX4 yX4_countRequests wsX4_countRequests) := goodIn_app (goodIn_of _ (by decide +kernel)) ggX4_count_X4_countRequests
set_option maxRecDepth 20000 in
theorem ggX4_way_X4_riderAt : GoodIn wsX4_way wsX4_riderAt := goodIn_r _ [5, 6, 7, 18, 19, 20, 21, 22, 23, 24, 25, 26, 27] (by decide +kernel) (by decide +kernel)
set_option maxRecDepth 20000 in
theorem gX4_way_X4_riderAt : GoodIn wsX4_way (wsV RX4 55 RX4 yX4_riderAt wsX4_riderAt) := goodIn_app (goodIn_of _ (by decide +kernel)) ggX4_way_X4_riderAt
set_option maxRecDepth 20000 in
theorem ggX4_way_X4_wayOf : GoodIn wsX4_way wsX4_wayOf := goodIn_r _ [11, 12, 13, 14, 15, 4, 16, 17, 28, 29, 30, 31, 32, 33, 34, 35, 36, 37, 38, 18, 19, 20, 21, 22, 23, 24, 25, 26, 27] (by decide +kernel) (by decide +kernel)
set_option maxRecDepth 20000 in
theorem gX4_way_X4_wayOf : GoodIn wsX4_way (wsV RX4 80 RX4 yX4_wayOf wsX4_wayOf) := goodIn_app (goodIn_of _ (by decide +kernel)) ggX4_way_X4_wayOf
set_option maxRecDepth 20000 in
theorem ggX4_of_X4_riderAt : GoodIn wsX4_of wsX4_riderAt := goodIn_r _ [15, 16, 17, 29, 30, 31, 32, 33, 34, 35, 36, 37, 38] (by decide +kernel) (by decide +kernel)
set_option maxRecDepth 20000 in
theorem gX4_of_X4_riderAt : GoodIn wsX4_of (wsV RX4 55 RX4 yX4_riderAt wsX4_riderAt) := goodIn_app (goodIn_of _ (by decide +kernel)) ggX4_of_X4_riderAt
set_option maxRecDepth 20000 in
theorem ggX4_duty_X4_isMinute : GoodIn wsX4_duty wsX4_isMinute := goodIn_r _ [5] (by decide +kernel) (by decide +kernel)
set_option maxRecDepth 20000 in
theorem gX4_duty_X4_isMinute : GoodIn wsX4_duty (va_wsS RX4 70 yX4_isMinute wsX4_isMinute) := goodIn_app (goodIn_of _ (by decide +kernel)) ggX4_duty_X4_isMinute
set_option maxRecDepth 20000 in
theorem ggX4_duty_X4_isKind : GoodIn wsX4_duty wsX4_isKind := goodIn_r _ [8] (by decide +kernel) (by decide +kernel)
set_option maxRecDepth 20000 in
theorem gX4_duty_X4_isKind : GoodIn wsX4_duty (va_wsS RX4 118 yX4_isKind wsX4_isKind) := goodIn_app (goodIn_of _ (by decide +kernel)) ggX4_duty_X4_isKind
set_option maxRecDepth 20000 in
theorem ggX4_duty_X4_riderAt : GoodIn wsX4_duty wsX4_riderAt := goodIn_r _ [12, 1, 13, 29, 30, 31, 32, 33, 34, 35, 36, 37, 38] (by decide +kernel) (by decide +kernel)
set_option maxRecDepth 20000 in
theorem gX4_duty_X4_riderAt : GoodIn wsX4_duty (wsV RX4 55 RX4 yX4_riderAt wsX4_riderAt) := goodIn_app (goodIn_of _ (by decide +kernel)) ggX4_duty_X4_riderAt
set_option maxRecDepth 20000 in
theorem ggX4_duty_X3_carries : GoodIn wsX4_duty wsX3_carries := goodIn_r _ [18, 19, 20, 21, 4, 22, 39, 40, 41, 42, 43, 44, 45, 46, 47, 48, 49] (by decide +kernel) (by decide +kernel)
set_option maxRecDepth 20000 in
theorem gX4_duty_X3_carries : GoodIn wsX4_duty (wsV RX4 121 RX3 yX3_carries wsX3_carries) := goodIn_app (goodIn_of _ (by decide +kernel)) ggX4_duty_X3_carries
set_option maxRecDepth 20000 in
theorem ggX4_duty_X3_isOnDuty : GoodIn wsX4_duty wsX3_isOnDuty := goodIn_r _ [26, 27, 28, 39, 40, 41, 42, 43, 44, 45, 46, 47, 48, 49] (by decide +kernel) (by decide +kernel)
set_option maxRecDepth 20000 in
theorem gX4_duty_X3_isOnDuty : GoodIn wsX4_duty (wsV RX4 124 RX3 yX3_isOnDuty wsX3_isOnDuty) := goodIn_app (goodIn_of _ (by decide +kernel)) ggX4_duty_X3_isOnDuty
set_option maxRecDepth 20000 in
theorem ggX4_bare_X4_isMinute : GoodIn wsX4_bare wsX4_isMinute := goodIn_r _ [8] (by decide +kernel) (by decide +kernel)
set_option maxRecDepth 20000 in
theorem gX4_bare_X4_isMinute : GoodIn wsX4_bare (va_wsS RX4 70 yX4_isMinute wsX4_isMinute) := goodIn_app (goodIn_of _ (by decide +kernel)) ggX4_bare_X4_isMinute
set_option maxRecDepth 20000 in
theorem ggX4_bare_X4_isKind : GoodIn wsX4_bare wsX4_isKind := goodIn_r _ [11] (by decide +kernel) (by decide +kernel)
set_option maxRecDepth 20000 in
theorem gX4_bare_X4_isKind : GoodIn wsX4_bare (va_wsS RX4 118 yX4_isKind wsX4_isKind) := goodIn_app (goodIn_of _ (by decide +kernel)) ggX4_bare_X4_isKind
set_option maxRecDepth 20000 in
theorem ggX4_bare_X4_lastOnDuty : GoodIn wsX4_bare wsX4_lastOnDuty := goodIn_r _ [15, 16, 17, 1, 2, 3, 4, 18, 19, 20, 7, 21, 22, 23, 24, 25, 26, 27, 28, 29, 30, 31, 32, 33, 34, 35, 36, 37, 38, 39, 40, 41, 42, 43, 44, 45, 46, 47, 48, 49, 50, 51, 52, 53, 54, 55, 56, 57, 58] (by decide +kernel) (by decide +kernel)
set_option maxRecDepth 20000 in
theorem gX4_bare_X4_lastOnDuty : GoodIn wsX4_bare (wsV RX4 127 RX4 yX4_lastOnDuty wsX4_lastOnDuty) := goodIn_app (goodIn_of _ (by decide +kernel)) ggX4_bare_X4_lastOnDuty
set_option maxRecDepth 20000 in
theorem ggX4_call_X4_isKind : GoodIn wsX4_call wsX4_isKind := goodIn_r _ [9] (by decide +kernel) (by decide +kernel)
set_option maxRecDepth 20000 in
theorem gX4_call_X4_isKind : GoodIn wsX4_call (va_wsS RX4 118 yX4_isKind wsX4_isKind) := goodIn_app (goodIn_of _ (by decide +kernel)) ggX4_call_X4_isKind
set_option maxRecDepth 20000 in
theorem ggX4_call_X4_isPlace : GoodIn wsX4_call wsX4_isPlace := goodIn_r _ [13, 14, 34, 35, 36, 37, 38, 39, 40, 41, 42, 43] (by decide +kernel) (by decide +kernel)
set_option maxRecDepth 20000 in
theorem gX4_call_X4_isPlace : GoodIn wsX4_call (wsV RX4 51 RX4 yX4_isPlace wsX4_isPlace) := goodIn_app (goodIn_of _ (by decide +kernel)) ggX4_call_X4_isPlace
set_option maxRecDepth 20000 in
theorem ggX4_call_X4_isMinute : GoodIn wsX4_call wsX4_isMinute := goodIn_r _ [17] (by decide +kernel) (by decide +kernel)
set_option maxRecDepth 20000 in
theorem gX4_call_X4_isMinute : GoodIn wsX4_call (va_wsS RX4 70 yX4_isMinute wsX4_isMinute) := goodIn_app (goodIn_of _ (by decide +kernel)) ggX4_call_X4_isMinute
set_option maxRecDepth 20000 in
theorem ggX4_call_X2_init : GoodIn wsX4_call wsX2_init := goodIn_r _ [20, 21, 22, 23, 24, 25, 26, 27, 28, 29, 30, 31, 32, 33, 44, 45, 46, 47, 48, 49, 50, 51, 52] (by decide +kernel) (by decide +kernel)
set_option maxRecDepth 20000 in
theorem gX4_call_X2_init : GoodIn wsX4_call (wsX2_init) := ggX4_call_X2_init
set_option maxRecDepth 20000 in
theorem ggX4_best_X4_requestAt : GoodIn wsX4_best wsX4_requestAt := goodIn_r _ [9, 10, 11, 128, 129, 130, 131, 132, 133, 134, 135, 136, 137] (by decide +kernel) (by decide +kernel)
set_option maxRecDepth 20000 in
theorem gX4_best_X4_requestAt : GoodIn wsX4_best (wsV RX4 137 RX4 yX4_requestAt wsX4_requestAt) := goodIn_app (goodIn_of _ (by decide +kernel)) ggX4_best_X4_requestAt
set_option maxRecDepth 20000 in
theorem ggX4_best_X4_findChain : GoodIn wsX4_best wsX4_findChain := goodIn_r _ [15, 16, 17, 18, 19, 20, 4, 21, 22, 23, 24, 8, 25, 26, 27, 28, 29, 30, 31, 32, 33, 34, 35, 36, 37, 38, 39, 40, 41, 42, 43, 44, 45, 46, 47, 48, 49, 50, 51, 52, 53, 54, 55, 56, 57, 58, 59, 60, 61, 62, 63, 64, 65, 66, 67, 68, 69, 70, 71, 72, 73, 74, 75, 76, 77, 78, 79, 80, 81, 82, 83, 84, 85, 86, 87, 88, 89, 90, 91, 92, 93, 94, 95, 96, 97, 98, 99, 100, 101, 102, 103, 104, 105, 106, 107, 108, 109, 110, 111, 112, 113, 114, 115, 116, 117, 118, 128, 129, 130, 131, 132, 133, 134, 135, 136, 137, 119, 120, 121, 122, 123, 124, 125, 126, 127, 138, 139, 140, 141, 142, 143, 144, 145, 146, 147, 148, 149, 150, 151, 152, 153, 154, 155, 156] (by decide +kernel) (by decide +kernel)
set_option maxRecDepth 20000 in
theorem gX4_best_X4_findChain : GoodIn wsX4_best (wsV RX4 150 RX4 yX4_findChain wsX4_findChain) := goodIn_app (goodIn_of _ (by decide +kernel)) ggX4_best_X4_findChain
set_option maxRecDepth 20000 in
theorem ggX4_best_X0_lastEnd : GoodIn wsX4_best wsX0_lastEnd := goodIn_r _ [75, 76, 77, 138, 139, 140, 141, 142, 143, 144, 145] (by decide +kernel) (by decide +kernel)
set_option maxRecDepth 20000 in
theorem gX4_best_X0_lastEnd : GoodIn wsX4_best (wsV RX4 154 RX0 yX0_lastEnd wsX0_lastEnd) := goodIn_app (goodIn_of _ (by decide +kernel)) ggX4_best_X0_lastEnd
set_option maxRecDepth 20000 in
theorem ggX4_send_X4_requestAt : GoodIn wsX4_send wsX4_requestAt := goodIn_r _ [9, 10, 11, 178, 179, 180, 181, 182, 183, 184, 185, 186, 187] (by decide +kernel) (by decide +kernel)
set_option maxRecDepth 20000 in
theorem gX4_send_X4_requestAt : GoodIn wsX4_send (wsV RX4 137 RX4 yX4_requestAt wsX4_requestAt) := goodIn_app (goodIn_of _ (by decide +kernel)) ggX4_send_X4_requestAt
set_option maxRecDepth 20000 in
theorem ggX4_send_X4_findChain : GoodIn wsX4_send wsX4_findChain := goodIn_r _ [15, 16, 17, 18, 19, 20, 21, 22, 23, 24, 25, 8, 26, 27, 28, 29, 30, 31, 32, 33, 34, 35, 36, 37, 38, 39, 40, 41, 42, 43, 44, 45, 46, 47, 48, 49, 50, 51, 52, 53, 54, 55, 56, 57, 58, 59, 60, 61, 62, 63, 64, 65, 66, 67, 68, 69, 70, 71, 72, 73, 74, 75, 76, 77, 78, 79, 80, 81, 82, 83, 84, 85, 86, 87, 88, 89, 90, 91, 92, 93, 94, 95, 96, 97, 98, 99, 100, 101, 102, 103, 104, 105, 106, 107, 108, 109, 110, 111, 112, 113, 114, 115, 116, 117, 118, 119, 178, 179, 180, 181, 182, 183, 184, 185, 186, 187, 169, 170, 171, 172, 173, 174, 175, 176, 177, 188, 189, 190, 191, 192, 193, 194, 195, 196, 197, 198, 199, 200, 201, 202, 203, 204, 205, 206] (by decide +kernel) (by decide +kernel)
set_option maxRecDepth 20000 in
theorem gX4_send_X4_findChain : GoodIn wsX4_send (wsV RX4 150 RX4 yX4_findChain wsX4_findChain) := goodIn_app (goodIn_of _ (by decide +kernel)) ggX4_send_X4_findChain
set_option maxRecDepth 20000 in
theorem ggX4_send_X4_rideChosen : GoodIn wsX4_send wsX4_rideChosen := goodIn_r _ [123, 21, 22, 83, 124, 125, 126, 127, 128, 129, 130, 56, 57, 131, 132, 133, 32, 33, 34, 8, 35, 27, 36, 134, 135, 136, 137, 138, 139, 140, 141, 142, 143, 144, 145, 146, 147, 148, 149, 150, 151, 152, 153, 154, 155, 156, 157, 49, 158, 77, 90, 159, 74, 75, 76, 78, 178, 179, 180, 181, 182, 183, 184, 185, 186, 187, 188, 189, 190, 191, 192, 193, 194, 195, 207, 208, 209, 210, 211, 212, 213, 214, 196, 197, 198, 199, 200, 201, 202, 203, 204, 205, 206, 169, 170, 171, 172, 173, 174, 175, 176, 177] (by decide +kernel) (by decide +kernel)
set_option maxRecDepth 20000 in
theorem gX4_send_X4_rideChosen : GoodIn wsX4_send (wsV RX4 158 RX4 yX4_rideChosen wsX4_rideChosen) := goodIn_app (goodIn_of _ (by decide +kernel)) ggX4_send_X4_rideChosen
set_option maxRecDepth 20000 in
theorem ggX4_send_X2_lastEnd : GoodIn wsX4_send wsX2_lastEnd := goodIn_r _ [163, 153, 164, 165, 166, 167, 151, 168, 154, 169, 170, 171, 172, 173, 174, 175, 176, 177, 207, 208, 209, 210, 211, 212, 213, 214] (by decide +kernel) (by decide +kernel)
set_option maxRecDepth 20000 in
theorem gX4_send_X2_lastEnd : GoodIn wsX4_send (wsV RX4 162 RX2 yX2_lastEnd wsX2_lastEnd) := goodIn_app (goodIn_of _ (by decide +kernel)) ggX4_send_X2_lastEnd
set_option maxRecDepth 20000 in
theorem ggX4_told_X4_requestAt : GoodIn wsX4_told wsX4_requestAt := goodIn_r _ [13, 14, 15, 37, 38, 39, 40, 41, 42, 43, 44, 45, 46] (by decide +kernel) (by decide +kernel)
set_option maxRecDepth 20000 in
theorem gX4_told_X4_requestAt : GoodIn wsX4_told (wsV RX4 137 RX4 yX4_requestAt wsX4_requestAt) := goodIn_app (goodIn_of _ (by decide +kernel)) ggX4_told_X4_requestAt
set_option maxRecDepth 20000 in
theorem ggX4_told_X2_lastEnd : GoodIn wsX4_told wsX2_lastEnd := goodIn_r _ [20, 21, 22, 23, 24, 25, 19, 26, 27, 28, 29, 30, 31, 32, 33, 34, 35, 36, 47, 48, 49, 50, 51, 52, 53, 54] (by decide +kernel) (by decide +kernel)
set_option maxRecDepth 20000 in
theorem gX4_told_X2_lastEnd : GoodIn wsX4_told (wsV RX4 162 RX2 yX2_lastEnd wsX2_lastEnd) := goodIn_app (goodIn_of _ (by decide +kernel)) ggX4_told_X2_lastEnd
set_option maxRecDepth 20000 in
theorem ggX4_leg_X4_requestAt : GoodIn wsX4_leg wsX4_requestAt := goodIn_r _ [11, 12, 13, 29, 30, 31, 32, 33, 34, 35, 36, 37, 38] (by decide +kernel) (by decide +kernel)
set_option maxRecDepth 20000 in
theorem gX4_leg_X4_requestAt : GoodIn wsX4_leg (wsV RX4 137 RX4 yX4_requestAt wsX4_requestAt) := goodIn_app (goodIn_of _ (by decide +kernel)) ggX4_leg_X4_requestAt
set_option maxRecDepth 20000 in
theorem ggX4_leg_X2_legAt : GoodIn wsX4_leg wsX2_legAt := goodIn_r _ [18, 19, 20, 39, 40, 41, 42, 43, 44, 45, 46, 47] (by decide +kernel) (by decide +kernel)
set_option maxRecDepth 20000 in
theorem gX4_leg_X2_legAt : GoodIn wsX4_leg (wsV RX4 178 RX2 yX2_legAt wsX2_legAt) := goodIn_app (goodIn_of _ (by decide +kernel)) ggX4_leg_X2_legAt
set_option maxRecDepth 20000 in
theorem ggX4_hand_X4_requestAt : GoodIn wsX4_hand wsX4_requestAt := goodIn_r _ [9, 10, 11, 45, 46, 47, 48, 49, 50, 51, 52, 53, 54] (by decide +kernel) (by decide +kernel)
set_option maxRecDepth 20000 in
theorem gX4_hand_X4_requestAt : GoodIn wsX4_hand (wsV RX4 137 RX4 yX4_requestAt wsX4_requestAt) := goodIn_app (goodIn_of _ (by decide +kernel)) ggX4_hand_X4_requestAt
set_option maxRecDepth 20000 in
theorem ggX4_hand_X4_isMinute : GoodIn wsX4_hand wsX4_isMinute := goodIn_r _ [14] (by decide +kernel) (by decide +kernel)
set_option maxRecDepth 20000 in
theorem gX4_hand_X4_isMinute : GoodIn wsX4_hand (va_wsS RX4 70 yX4_isMinute wsX4_isMinute) := goodIn_app (goodIn_of _ (by decide +kernel)) ggX4_hand_X4_isMinute
set_option maxRecDepth 20000 in
theorem ggX4_hand_X2_lastEnd : GoodIn wsX4_hand wsX2_lastEnd := goodIn_r _ [19, 20, 21, 22, 23, 24, 18, 25, 26, 28, 29, 30, 31, 32, 33, 34, 35, 36, 37, 38, 39, 40, 41, 42, 43, 44] (by decide +kernel) (by decide +kernel)
set_option maxRecDepth 20000 in
theorem gX4_hand_X2_lastEnd : GoodIn wsX4_hand (wsV RX4 162 RX2 yX2_lastEnd wsX2_lastEnd) := goodIn_app (goodIn_of _ (by decide +kernel)) ggX4_hand_X2_lastEnd
set_option maxRecDepth 20000 in
theorem ggX4_hand_X2_legAt : GoodIn wsX4_hand wsX2_legAt := goodIn_r _ [25, 20, 26, 28, 29, 30, 31, 32, 33, 34, 35, 36] (by decide +kernel) (by decide +kernel)
set_option maxRecDepth 20000 in
theorem gX4_hand_X2_legAt : GoodIn wsX4_hand (wsV RX4 178 RX2 yX2_legAt wsX2_legAt) := goodIn_app (goodIn_of _ (by decide +kernel)) ggX4_hand_X2_legAt
set_option maxRecDepth 20000 in
theorem ggX4_fail_X4_requestAt : GoodIn wsX4_fail wsX4_requestAt := goodIn_r _ [8, 9, 10, 189, 190, 191, 192, 193, 194, 195, 196, 197, 198] (by decide +kernel) (by decide +kernel)
set_option maxRecDepth 20000 in
theorem gX4_fail_X4_requestAt : GoodIn wsX4_fail (wsV RX4 137 RX4 yX4_requestAt wsX4_requestAt) := goodIn_app (goodIn_of _ (by decide +kernel)) ggX4_fail_X4_requestAt
set_option maxRecDepth 20000 in
theorem ggX4_fail_X4_mayFail : GoodIn wsX4_fail wsX4_mayFail := goodIn_r _ [13, 14, 15, 16, 17, 18, 19, 20, 21, 22, 23, 24, 199, 200, 201, 202, 203, 204, 205, 206, 207, 208, 209, 210, 211, 212, 213, 214, 215] (by decide +kernel) (by decide +kernel)
set_option maxRecDepth 20000 in
theorem gX4_fail_X4_mayFail : GoodIn wsX4_fail (va_wsS RX4 196 yX4_mayFail wsX4_mayFail) := goodIn_app (goodIn_of _ (by decide +kernel)) ggX4_fail_X4_mayFail
set_option maxRecDepth 20000 in
theorem ggX4_fail_X2_legAt : GoodIn wsX4_fail wsX2_legAt := goodIn_r _ [22, 23, 24, 207, 208, 209, 210, 211, 212, 213, 214, 215] (by decide +kernel) (by decide +kernel)
set_option maxRecDepth 20000 in
theorem gX4_fail_X2_legAt : GoodIn wsX4_fail (wsV RX4 178 RX2 yX2_legAt wsX2_legAt) := goodIn_app (goodIn_of _ (by decide +kernel)) ggX4_fail_X2_legAt
set_option maxRecDepth 20000 in
theorem ggX4_fail_X4_dropLegsBehind : GoodIn wsX4_fail wsX4_dropLegsBehind := goodIn_r _ [28, 16, 29, 30, 31, 32, 33, 34, 35, 15, 14, 18, 19, 20, 21, 22, 23, 24, 36, 37, 38, 7, 39, 40, 41, 207, 208, 209, 210, 211, 212, 213, 214, 215, 199, 200, 201, 202, 203, 204, 205, 206, 216, 217, 218, 219, 220, 221, 222, 223, 224, 225, 226, 189, 190, 191, 192, 193, 194, 195, 196, 197, 198] (by decide +kernel) (by decide +kernel)
set_option maxRecDepth 20000 in
theorem gX4_fail_X4_dropLegsBehind : GoodIn wsX4_fail (wsV RX4 199 RX4 yX4_dropLegsBehind wsX4_dropLegsBehind) := goodIn_app (goodIn_of _ (by decide +kernel)) ggX4_fail_X4_dropLegsBehind
set_option maxRecDepth 20000 in
theorem ggX4_fail_X4_failLeg : GoodIn wsX4_fail wsX4_failLeg := goodIn_r _ [45, 29, 35, 15, 2, 31, 46, 47, 17, 36, 37, 38, 7, 39, 40, 41, 199, 200, 201, 202, 203, 204, 205, 206, 216, 217, 218, 219, 220, 221, 222, 223, 224, 225, 226, 189, 190, 191, 192, 193, 194, 195, 196, 197, 198] (by decide +kernel) (by decide +kernel)
set_option maxRecDepth 20000 in
theorem gX4_fail_X4_failLeg : GoodIn wsX4_fail (wsV RX4 203 RX4 yX4_failLeg wsX4_failLeg) := goodIn_app (goodIn_of _ (by decide +kernel)) ggX4_fail_X4_failLeg
set_option maxRecDepth 20000 in
theorem ggX4_fail_X4_findChain : GoodIn wsX4_fail wsX4_findChain := goodIn_r _ [51, 52, 53, 54, 55, 56, 57, 58, 59, 60, 61, 7, 62, 40, 63, 64, 65, 66, 36, 37, 38, 39, 41, 67, 68, 69, 70, 71, 72, 73, 74, 75, 76, 77, 78, 79, 80, 81, 82, 83, 84, 85, 31, 33, 86, 87, 88, 89, 90, 91, 92, 93, 94, 95, 96, 97, 98, 99, 100, 101, 102, 103, 104, 105, 106, 107, 108, 109, 110, 111, 112, 113, 114, 115, 116, 117, 118, 119, 120, 121, 122, 123, 124, 125, 126, 127, 128, 129, 130, 131, 132, 133, 134, 135, 136, 137, 138, 139, 140, 141, 142, 143, 144, 145, 146, 147, 189, 190, 191, 192, 193, 194, 195, 196, 197, 198, 207, 208, 209, 210, 211, 212, 213, 214, 215, 227, 228, 229, 230, 231, 232, 233, 234, 216, 217, 218, 219, 220, 221, 222, 223, 224, 225, 226] (by decide +kernel) (by decide +kernel)
set_option maxRecDepth 20000 in
theorem gX4_fail_X4_findChain : GoodIn wsX4_fail (wsV RX4 150 RX4 yX4_findChain wsX4_findChain) := goodIn_app (goodIn_of _ (by decide +kernel)) ggX4_fail_X4_findChain
set_option maxRecDepth 20000 in
theorem ggX4_fail_X4_rideChosen : GoodIn wsX4_fail wsX4_rideChosen := goodIn_r _ [151, 57, 58, 111, 152, 153, 154, 155, 156, 157, 158, 31, 33, 159, 34, 35, 36, 37, 38, 7, 39, 40, 41, 160, 161, 162, 163, 164, 165, 166, 167, 168, 169, 170, 171, 172, 173, 174, 175, 176, 21, 177, 23, 24, 178, 179, 180, 79, 181, 105, 118, 182, 102, 103, 104, 106, 189, 190, 191, 192, 193, 194, 195, 196, 197, 198, 227, 228, 229, 230, 231, 232, 233, 234, 199, 200, 201, 202, 203, 204, 205, 206, 216, 217, 218, 219, 220, 221, 222, 223, 224, 225, 226, 207, 208, 209, 210, 211, 212, 213, 214, 215] (by decide +kernel) (by decide +kernel)
set_option maxRecDepth 20000 in
theorem gX4_fail_X4_rideChosen : GoodIn wsX4_fail (wsV RX4 158 RX4 yX4_rideChosen wsX4_rideChosen) := goodIn_app (goodIn_of _ (by decide +kernel)) ggX4_fail_X4_rideChosen
set_option maxRecDepth 20000 in
theorem ggX4_fail_X2_lastEnd : GoodIn wsX4_fail wsX2_lastEnd := goodIn_r _ [186, 23, 187, 188, 19, 20, 21, 22, 24, 207, 208, 209, 210, 211, 212, 213, 214, 215, 199, 200, 201, 202, 203, 204, 205, 206] (by decide +kernel) (by decide +kernel)
set_option maxRecDepth 20000 in
theorem gX4_fail_X2_lastEnd : GoodIn wsX4_fail (wsV RX4 162 RX2 yX2_lastEnd wsX2_lastEnd) := goodIn_app (goodIn_of _ (by decide +kernel)) ggX4_fail_X2_lastEnd
set_option maxRecDepth 20000 in
theorem ggX4_next_X4_isKind : GoodIn wsX4_next wsX4_isKind := goodIn_r _ [7] (by decide +kernel) (by decide +kernel)
set_option maxRecDepth 20000 in
theorem gX4_next_X4_isKind : GoodIn wsX4_next (va_wsS RX4 118 yX4_isKind wsX4_isKind) := goodIn_app (goodIn_of _ (by decide +kernel)) ggX4_next_X4_isKind
set_option maxRecDepth 20000 in
theorem ggX4_next_X4_isPlace : GoodIn wsX4_next wsX4_isPlace := goodIn_r _ [11, 12, 43, 44, 45, 46, 47, 48, 49, 50, 51, 52] (by decide +kernel) (by decide +kernel)
set_option maxRecDepth 20000 in
theorem gX4_next_X4_isPlace : GoodIn wsX4_next (wsV RX4 51 RX4 yX4_isPlace wsX4_isPlace) := goodIn_app (goodIn_of _ (by decide +kernel)) ggX4_next_X4_isPlace
set_option maxRecDepth 20000 in
theorem ggX4_next_X4_riderAt : GoodIn wsX4_next wsX4_riderAt := goodIn_r _ [16, 1, 17, 43, 44, 45, 46, 47, 48, 49, 50, 51, 52] (by decide +kernel) (by decide +kernel)
set_option maxRecDepth 20000 in
theorem gX4_next_X4_riderAt : GoodIn wsX4_next (wsV RX4 55 RX4 yX4_riderAt wsX4_riderAt) := goodIn_app (goodIn_of _ (by decide +kernel)) ggX4_next_X4_riderAt
set_option maxRecDepth 20000 in
theorem ggX4_next_X3_carries : GoodIn wsX4_next wsX3_carries := goodIn_r _ [22, 23, 24, 25, 6, 26, 53, 54, 55, 56, 57, 58, 59, 60, 61, 62, 63] (by decide +kernel) (by decide +kernel)
set_option maxRecDepth 20000 in
theorem gX4_next_X3_carries : GoodIn wsX4_next (wsV RX4 121 RX3 yX3_carries wsX3_carries) := goodIn_app (goodIn_of _ (by decide +kernel)) ggX4_next_X3_carries
set_option maxRecDepth 20000 in
theorem ggX4_next_X4_thereFrom : GoodIn wsX4_next wsX4_thereFrom := goodIn_r _ [30, 31, 32, 33, 34, 35, 36, 37, 38, 39, 40, 6, 41, 42, 8, 9, 10, 11, 12, 53, 54, 55, 56, 57, 58, 59, 60, 61, 62, 63, 43, 44, 45, 46, 47, 48, 49, 50, 51, 52] (by decide +kernel) (by decide +kernel)
set_option maxRecDepth 20000 in
theorem gX4_next_X4_thereFrom : GoodIn wsX4_next (wsV RX4 207 RX4 yX4_thereFrom wsX4_thereFrom) := goodIn_app (goodIn_of _ (by decide +kernel)) ggX4_next_X4_thereFrom
set_option maxRecDepth 20000 in
theorem ggX4_wayOf_X4_isPlace : GoodIn wsX4_wayOf wsX4_isPlace := goodIn_r _ [6, 7, 19, 20, 21, 22, 23, 24, 25, 26, 27, 28] (by decide +kernel) (by decide +kernel)
set_option maxRecDepth 20000 in
theorem gX4_wayOf_X4_isPlace : GoodIn wsX4_wayOf (wsV RX4 51 RX4 yX4_isPlace wsX4_isPlace) := goodIn_app (goodIn_of _ (by decide +kernel)) ggX4_wayOf_X4_isPlace
set_option maxRecDepth 20000 in
theorem ggX4_settleWays_X4_roadWithin : GoodIn wsX4_settleWays wsX4_roadWithin := goodIn_r _ [7, 8, 9, 10, 11, 6, 12, 13, 14, 15, 16, 34, 35, 36, 37, 38, 39, 40, 41, 42, 43] (by decide +kernel) (by decide +kernel)
set_option maxRecDepth 20000 in
theorem gX4_settleWays_X4_roadWithin : GoodIn wsX4_settleWays (wsV RX4 217 RX4 yX4_roadWithin wsX4_roadWithin) := goodIn_app (goodIn_of _ (by decide +kernel)) ggX4_settleWays_X4_roadWithin
set_option maxRecDepth 20000 in
theorem ggX4_settleWays_X3_shortenWays : GoodIn wsX4_settleWays wsX3_shortenWays := goodIn_r _ [21, 22, 23, 24, 25, 26, 27, 28, 29, 30, 31, 32, 33] (by decide +kernel) (by decide +kernel)
set_option maxRecDepth 20000 in
theorem gX4_settleWays_X3_shortenWays : GoodIn wsX4_settleWays (wsV RX4 221 RX3 yX3_shortenWays wsX3_shortenWays) := goodIn_app (goodIn_of _ (by decide +kernel)) ggX4_settleWays_X3_shortenWays
set_option maxRecDepth 20000 in
theorem ggX4_roadWithin_X4_isPlace : GoodIn wsX4_roadWithin wsX4_isPlace := goodIn_r _ [6, 7, 11, 12, 13, 14, 15, 16, 17, 18, 19, 20] (by decide +kernel) (by decide +kernel)
set_option maxRecDepth 20000 in
theorem gX4_roadWithin_X4_isPlace : GoodIn wsX4_roadWithin (wsV RX4 51 RX4 yX4_isPlace wsX4_isPlace) := goodIn_app (goodIn_of _ (by decide +kernel)) ggX4_roadWithin_X4_isPlace
set_option maxRecDepth 20000 in
theorem ggX4_roadWithin_X4_hasBit : GoodIn wsX4_roadWithin wsX4_hasBit := goodIn_r _ [10] (by decide +kernel) (by decide +kernel)
set_option maxRecDepth 20000 in
theorem gX4_roadWithin_X4_hasBit : GoodIn wsX4_roadWithin (va_wsS RX4 67 yX4_hasBit wsX4_hasBit) := goodIn_app (goodIn_of _ (by decide +kernel)) ggX4_roadWithin_X4_hasBit
set_option maxRecDepth 20000 in
theorem ggX4_thereFrom_X4_wayOf : GoodIn wsX4_thereFrom wsX4_wayOf := goodIn_r _ [12, 13, 14, 15, 16, 11, 17, 18, 19, 20, 21, 22, 23, 24, 25, 26, 27, 28, 29, 30, 31, 32, 33, 34, 35, 36, 37, 38, 39] (by decide +kernel) (by decide +kernel)
set_option maxRecDepth 20000 in
theorem gX4_thereFrom_X4_wayOf : GoodIn wsX4_thereFrom (wsV RX4 80 RX4 yX4_wayOf wsX4_wayOf) := goodIn_app (goodIn_of _ (by decide +kernel)) ggX4_thereFrom_X4_wayOf
set_option maxRecDepth 20000 in
theorem ggX4_countRequests_X4_requestAt : GoodIn wsX4_countRequests wsX4_requestAt := goodIn_r _ [6, 1, 7, 33, 34, 35, 36, 37, 38, 39, 40, 41, 42] (by decide +kernel) (by decide +kernel)
set_option maxRecDepth 20000 in
theorem gX4_countRequests_X4_requestAt : GoodIn wsX4_countRequests (wsV RX4 137 RX4 yX4_requestAt wsX4_requestAt) := goodIn_app (goodIn_of _ (by decide +kernel)) ggX4_countRequests_X4_requestAt
set_option maxRecDepth 20000 in
theorem ggX4_countRequests_X4_isCounted : GoodIn wsX4_countRequests wsX4_isCounted := goodIn_r _ [10, 11, 12, 13, 14, 15, 16, 17, 18, 19, 20, 21, 22, 23, 24, 25, 26, 27, 28, 29, 30, 31, 32, 43, 44, 45, 46, 47, 48, 49, 50, 51, 52, 53, 54, 55, 56, 57, 58, 59] (by decide +kernel) (by decide +kernel)
set_option maxRecDepth 20000 in
theorem gX4_countRequests_X4_isCounted : GoodIn wsX4_countRequests (va_wsS RX4 227 yX4_isCounted wsX4_isCounted) := goodIn_app (goodIn_of _ (by decide +kernel)) ggX4_countRequests_X4_isCounted
set_option maxRecDepth 20000 in
theorem ggX4_isCounted_X2_cameWarm : GoodIn wsX4_isCounted wsX2_cameWarm := goodIn_r _ [7, 8, 9, 10, 11, 12, 13, 14, 6, 15, 16, 17, 18, 19, 20, 21, 22, 23, 24, 25, 26, 27, 28, 29, 30, 31, 32, 33, 34, 35, 36, 37, 38, 39] (by decide +kernel) (by decide +kernel)
set_option maxRecDepth 20000 in
theorem gX4_isCounted_X2_cameWarm : GoodIn wsX4_isCounted (wsV RX4 231 RX2 yX2_cameWarm wsX2_cameWarm) := goodIn_app (goodIn_of _ (by decide +kernel)) ggX4_isCounted_X2_cameWarm
set_option maxRecDepth 20000 in
theorem ggX4_lastOnDuty_X4_riderAt : GoodIn wsX4_lastOnDuty wsX4_riderAt := goodIn_r _ [11, 1, 12, 28, 29, 30, 31, 32, 33, 34, 35, 36, 37] (by decide +kernel) (by decide +kernel)
set_option maxRecDepth 20000 in
theorem gX4_lastOnDuty_X4_riderAt : GoodIn wsX4_lastOnDuty (wsV RX4 55 RX4 yX4_riderAt wsX4_riderAt) := goodIn_app (goodIn_of _ (by decide +kernel)) ggX4_lastOnDuty_X4_riderAt
set_option maxRecDepth 20000 in
theorem ggX4_lastOnDuty_X3_carries : GoodIn wsX4_lastOnDuty wsX3_carries := goodIn_r _ [17, 18, 19, 20, 10, 21, 38, 39, 40, 41, 42, 43, 44, 45, 46, 47, 48] (by decide +kernel) (by decide +kernel)
set_option maxRecDepth 20000 in
theorem gX4_lastOnDuty_X3_carries : GoodIn wsX4_lastOnDuty (wsV RX4 121 RX3 yX3_carries wsX3_carries) := goodIn_app (goodIn_of _ (by decide +kernel)) ggX4_lastOnDuty_X3_carries
set_option maxRecDepth 20000 in
theorem ggX4_lastOnDuty_X3_isOnDuty : GoodIn wsX4_lastOnDuty wsX3_isOnDuty := goodIn_r _ [25, 26, 27, 38, 39, 40, 41, 42, 43, 44, 45, 46, 47, 48] (by decide +kernel) (by decide +kernel)
set_option maxRecDepth 20000 in
theorem gX4_lastOnDuty_X3_isOnDuty : GoodIn wsX4_lastOnDuty (wsV RX4 124 RX3 yX3_isOnDuty wsX3_isOnDuty) := goodIn_app (goodIn_of _ (by decide +kernel)) ggX4_lastOnDuty_X3_isOnDuty
set_option maxRecDepth 20000 in
theorem ggX4_findChain_X4_tryRiders : GoodIn wsX4_findChain wsX4_tryRiders := goodIn_r _ [12, 13, 1, 3, 14, 15, 16, 17, 18, 19, 20, 11, 21, 22, 23, 24, 25, 26, 27, 28, 29, 30, 31, 32, 33, 34, 35, 36, 37, 38, 39, 40, 41, 42, 43, 44, 45, 46, 47, 48, 49, 50, 51, 52, 53, 54, 55, 56, 57, 58, 6, 7, 59, 60, 61, 62, 63, 64, 65, 66, 67, 68, 69, 70, 71, 72, 73, 74, 75, 76, 77, 78, 79, 80, 5, 81, 82, 83, 84, 85, 86, 87, 88, 89, 90, 91, 92, 93, 94, 95, 96, 97, 98, 99, 100, 101, 8, 9, 10, 102, 103, 104, 105, 106, 107, 108, 109, 110, 111, 112, 113, 114, 115, 133, 134, 135, 136, 137, 138, 139, 140, 141, 142, 143, 125, 126, 127, 128, 129, 130, 131, 132] (by decide +kernel) (by decide +kernel)
set_option maxRecDepth 20000 in
theorem gX4_findChain_X4_tryRiders : GoodIn wsX4_findChain (wsV RX4 242 RX4 yX4_tryRiders wsX4_tryRiders) := goodIn_app (goodIn_of _ (by decide +kernel)) ggX4_findChain_X4_tryRiders
set_option maxRecDepth 20000 in
theorem ggX4_tryRiders_X4_riderAt : GoodIn wsX4_tryRiders wsX4_riderAt := goodIn_r _ [12, 1, 13, 103, 104, 105, 106, 107, 108, 109, 110, 111, 112] (by decide +kernel) (by decide +kernel)
set_option maxRecDepth 20000 in
theorem gX4_tryRiders_X4_riderAt : GoodIn wsX4_tryRiders (wsV RX4 55 RX4 yX4_riderAt wsX4_riderAt) := goodIn_app (goodIn_of _ (by decide +kernel)) ggX4_tryRiders_X4_riderAt
set_option maxRecDepth 20000 in
theorem ggX4_tryRiders_X3_carries : GoodIn wsX4_tryRiders wsX3_carries := goodIn_r _ [18, 19, 20, 21, 11, 22, 113, 114, 115, 116, 117, 118, 119, 120, 121, 122, 123] (by decide +kernel) (by decide +kernel)
set_option maxRecDepth 20000 in
theorem gX4_tryRiders_X3_carries : GoodIn wsX4_tryRiders (wsV RX4 121 RX3 yX3_carries wsX3_carries) := goodIn_app (goodIn_of _ (by decide +kernel)) ggX4_tryRiders_X3_carries
set_option maxRecDepth 20000 in
theorem ggX4_tryRiders_X0_isRiddenBy : GoodIn wsX4_tryRiders wsX0_isRiddenBy := goodIn_r _ [27, 28, 124, 125, 126, 127, 128, 129, 130, 131] (by decide +kernel) (by decide +kernel)
set_option maxRecDepth 20000 in
theorem gX4_tryRiders_X0_isRiddenBy : GoodIn wsX4_tryRiders (wsV RX4 246 RX0 yX0_isRiddenBy wsX0_isRiddenBy) := goodIn_app (goodIn_of _ (by decide +kernel)) ggX4_tryRiders_X0_isRiddenBy
set_option maxRecDepth 20000 in
theorem ggX4_tryRiders_X4_thereFrom : GoodIn wsX4_tryRiders wsX4_thereFrom := goodIn_r _ [32, 33, 34, 35, 4, 5, 6, 7, 36, 37, 38, 11, 39, 40, 41, 42, 43, 44, 45, 113, 114, 115, 116, 117, 118, 119, 120, 121, 122, 123, 103, 104, 105, 106, 107, 108, 109, 110, 111, 112] (by decide +kernel) (by decide +kernel)
set_option maxRecDepth 20000 in
theorem gX4_tryRiders_X4_thereFrom : GoodIn wsX4_tryRiders (wsV RX4 207 RX4 yX4_thereFrom wsX4_thereFrom) := goodIn_app (goodIn_of _ (by decide +kernel)) ggX4_tryRiders_X4_thereFrom
set_option maxRecDepth 20000 in
theorem ggX4_tryRiders_X4_isTooLate : GoodIn wsX4_tryRiders wsX4_isTooLate := goodIn_r _ [49, 50, 51, 52, 53, 54, 26, 55, 56, 57, 103, 104, 105, 106, 107, 108, 109, 110, 111, 112, 124, 125, 126, 127, 128, 129, 130, 131] (by decide +kernel) (by decide +kernel)
set_option maxRecDepth 20000 in
theorem gX4_tryRiders_X4_isTooLate : GoodIn wsX4_tryRiders (wsV RX4 249 RX4 yX4_isTooLate wsX4_isTooLate) := goodIn_app (goodIn_of _ (by decide +kernel)) ggX4_tryRiders_X4_isTooLate
set_option maxRecDepth 20000 in
theorem ggX4_tryRiders_X4_waitsUntil : GoodIn wsX4_tryRiders wsX4_waitsUntil := goodIn_r _ [61, 2, 62, 63, 8, 9, 10, 11, 12, 1, 13, 103, 104, 105, 106, 107, 108, 109, 110, 111, 112, 124, 125, 126, 127, 128, 129, 130, 131, 113, 114, 115, 116, 117, 118, 119, 120, 121, 122, 123] (by decide +kernel) (by decide +kernel)
set_option maxRecDepth 20000 in
theorem gX4_tryRiders_X4_waitsUntil : GoodIn wsX4_tryRiders (wsV RX4 252 RX4 yX4_waitsUntil wsX4_waitsUntil) := goodIn_app (goodIn_of _ (by decide +kernel)) ggX4_tryRiders_X4_waitsUntil
set_option maxRecDepth 20000 in
theorem ggX4_tryRiders_X0_open : GoodIn wsX4_tryRiders wsX0_open := goodIn_r _ [67, 28, 68, 69, 124, 125, 126, 127, 128, 129, 130, 131] (by decide +kernel) (by decide +kernel)
set_option maxRecDepth 20000 in
theorem gX4_tryRiders_X0_open : GoodIn wsX4_tryRiders (wsV RX4 255 RX0 yX0_open wsX0_open) := goodIn_app (goodIn_of _ (by decide +kernel)) ggX4_tryRiders_X0_open
set_option maxRecDepth 20000 in
theorem ggX4_tryRiders_X4_tryEnds : GoodIn wsX4_tryRiders wsX4_tryEnds := goodIn_r _ [99, 2, 74, 45, 100, 101, 102, 11, 73, 63, 75, 76, 77, 26, 78, 68, 36, 37, 38, 39, 40, 41, 42, 43, 44, 79, 80, 81, 82, 83, 84, 85, 86, 87, 57, 56, 88, 89, 90, 91, 50, 51, 52, 53, 54, 55, 92, 93, 94, 95, 28, 69, 96, 97, 98, 0, 1, 3, 4, 5, 6, 7, 8, 9, 10, 12, 13, 14, 15, 16, 17, 18, 19, 20, 21, 22, 23, 24, 25, 27, 29, 30, 31, 32, 33, 34, 35, 46, 47, 48, 49, 58, 59, 60, 61, 62, 64, 65, 66, 67, 70, 71, 72, 103, 104, 105, 106, 107, 108, 109, 110, 111, 112, 113, 114, 115, 116, 117, 118, 119, 120, 121, 122, 123, 124, 125, 126, 127, 128, 129, 130, 131] (by decide +kernel) (by decide +kernel)
set_option maxRecDepth 20000 in
theorem gX4_tryRiders_X4_tryEnds : GoodIn wsX4_tryRiders (wsV RX4 259 RX4 yX4_tryEnds wsX4_tryEnds) := goodIn_app (goodIn_of _ (by decide +kernel)) ggX4_tryRiders_X4_tryEnds
set_option maxRecDepth 20000 in
theorem ggX4_isTooLate_X0_lastEnd : GoodIn wsX4_isTooLate wsX0_lastEnd := goodIn_r _ [7, 8, 9, 20, 21, 22, 23, 24, 25, 26, 27] (by decide +kernel) (by decide +kernel)
set_option maxRecDepth 20000 in
theorem gX4_isTooLate_X0_lastEnd : GoodIn wsX4_isTooLate (wsV RX4 154 RX0 yX0_lastEnd wsX0_lastEnd) := goodIn_app (goodIn_of _ (by decide +kernel)) ggX4_isTooLate_X0_lastEnd
set_option maxRecDepth 20000 in
theorem ggX4_waitsUntil_X4_riderAt : GoodIn wsX4_waitsUntil wsX4_riderAt := goodIn_r _ [8, 9, 10, 11, 12, 13, 14, 15, 16, 17, 18, 19, 20] (by decide +kernel) (by decide +kernel)
set_option maxRecDepth 20000 in
theorem gX4_waitsUntil_X4_riderAt : GoodIn wsX4_waitsUntil (wsV RX4 55 RX4 yX4_riderAt wsX4_riderAt) := goodIn_app (goodIn_of _ (by decide +kernel)) ggX4_waitsUntil_X4_riderAt
set_option maxRecDepth 20000 in
theorem ggX4_tryEnds_X4_tryEnd : GoodIn wsX4_tryEnds wsX4_tryEnd := goodIn_r _ [8, 1, 9, 2, 10, 11, 12, 13, 14, 15, 16, 17, 18, 7, 19, 20, 21, 22, 23, 24, 3, 25, 26, 27, 28, 29, 30, 31, 32, 33, 34, 35, 36, 37, 38, 39, 40, 41, 42, 43, 44, 45, 46, 47, 48, 49, 50, 51, 52, 53, 54, 0, 4, 5, 6, 55, 56, 57, 58, 59, 60, 61, 62, 63, 64, 65, 66, 67, 68, 69, 70, 71, 72, 73, 74, 75, 76, 77, 78, 79, 80, 81, 82, 83, 84, 85, 86, 87, 88, 89, 90, 91, 92, 93, 94, 95, 96, 97, 98, 99, 100, 101, 102, 103, 104, 105, 106, 107, 108, 109, 110, 111, 112, 113, 114, 115, 116, 117, 118, 119, 120, 121, 122, 123, 124, 125, 126, 127, 128, 129, 130, 131] (by decide +kernel) (by decide +kernel)
set_option maxRecDepth 20000 in
theorem gX4_tryEnds_X4_tryEnd : GoodIn wsX4_tryEnds (wsV RX4 265 RX4 yX4_tryEnd wsX4_tryEnd) := goodIn_app (goodIn_of _ (by decide +kernel)) ggX4_tryEnds_X4_tryEnd
set_option maxRecDepth 20000 in
theorem ggX4_tryEnd_X0_fromOf : GoodIn wsX4_tryEnd wsX0_fromOf := goodIn_r _ [8, 9, 124, 125, 126, 127, 128, 129, 130, 131] (by decide +kernel) (by decide +kernel)
set_option maxRecDepth 20000 in
theorem gX4_tryEnd_X0_fromOf : GoodIn wsX4_tryEnd (wsV RX4 269 RX0 yX0_fromOf wsX0_fromOf) := goodIn_app (goodIn_of _ (by decide +kernel)) ggX4_tryEnd_X0_fromOf
set_option maxRecDepth 20000 in
theorem ggX4_tryEnd_X4_wayOf : GoodIn wsX4_tryEnd wsX4_wayOf := goodIn_r _ [14, 15, 16, 17, 18, 13, 19, 20, 113, 114, 115, 116, 117, 118, 119, 120, 121, 122, 123, 103, 104, 105, 106, 107, 108, 109, 110, 111, 112] (by decide +kernel) (by decide +kernel)
set_option maxRecDepth 20000 in
theorem gX4_tryEnd_X4_wayOf : GoodIn wsX4_tryEnd (wsV RX4 80 RX4 yX4_wayOf wsX4_wayOf) := goodIn_app (goodIn_of _ (by decide +kernel)) ggX4_tryEnd_X4_wayOf
set_option maxRecDepth 20000 in
theorem ggX4_tryEnd_X0_comesFrom : GoodIn wsX4_tryEnd wsX0_comesFrom := goodIn_r _ [24, 9, 124, 125, 126, 127, 128, 129, 130, 131] (by decide +kernel) (by decide +kernel)
set_option maxRecDepth 20000 in
theorem gX4_tryEnd_X0_comesFrom : GoodIn wsX4_tryEnd (wsV RX4 272 RX0 yX0_comesFrom wsX0_comesFrom) := goodIn_app (goodIn_of _ (by decide +kernel)) ggX4_tryEnd_X0_comesFrom
set_option maxRecDepth 20000 in
theorem ggX4_tryEnd_X0_close : GoodIn wsX4_tryEnd wsX0_close := goodIn_r _ [28, 29, 30, 31, 124, 125, 126, 127, 128, 129, 130, 131] (by decide +kernel) (by decide +kernel)
set_option maxRecDepth 20000 in
theorem gX4_tryEnd_X0_close : GoodIn wsX4_tryEnd (wsV RX4 275 RX0 yX0_close wsX0_close) := goodIn_app (goodIn_of _ (by decide +kernel)) ggX4_tryEnd_X0_close
set_option maxRecDepth 20000 in
theorem ggX4_tryEnd_X4_keepIfBetter : GoodIn wsX4_tryEnd wsX4_keepIfBetter := goodIn_r _ [35, 1, 36, 37, 38, 39, 40, 7, 41, 31, 30, 42, 43, 44, 45, 46, 9, 29, 47, 103, 104, 105, 106, 107, 108, 109, 110, 111, 112, 124, 125, 126, 127, 128, 129, 130, 131] (by decide +kernel) (by decide +kernel)
set_option maxRecDepth 20000 in
theorem gX4_tryEnd_X4_keepIfBetter : GoodIn wsX4_tryEnd (wsV RX4 278 RX4 yX4_keepIfBetter wsX4_keepIfBetter) := goodIn_app (goodIn_of _ (by decide +kernel)) ggX4_tryEnd_X4_keepIfBetter
set_option maxRecDepth 20000 in
theorem ggX4_tryEnd_X4_tryRiders : GoodIn wsX4_tryEnd wsX4_tryRiders := goodIn_r _ [55, 56, 1, 57, 58, 59, 60, 61, 62, 63, 64, 13, 65, 66, 67, 68, 69, 70, 71, 72, 73, 74, 75, 76, 77, 78, 7, 79, 46, 80, 81, 82, 83, 84, 85, 86, 10, 11, 12, 14, 15, 16, 17, 18, 19, 20, 87, 88, 89, 90, 36, 37, 38, 39, 40, 41, 31, 30, 91, 92, 93, 94, 95, 2, 96, 97, 98, 99, 9, 47, 100, 101, 102, 0, 3, 4, 5, 6, 8, 21, 22, 23, 24, 25, 26, 27, 28, 29, 32, 33, 34, 35, 42, 43, 44, 45, 48, 49, 50, 51, 52, 53, 54, 103, 104, 105, 106, 107, 108, 109, 110, 111, 112, 113, 114, 115, 116, 117, 118, 119, 120, 121, 122, 123, 124, 125, 126, 127, 128, 129, 130, 131] (by decide +kernel) (by decide +kernel)
set_option maxRecDepth 20000 in
theorem gX4_tryEnd_X4_tryRiders : GoodIn wsX4_tryEnd (wsV RX4 242 RX4 yX4_tryRiders wsX4_tryRiders) := goodIn_app (goodIn_of _ (by decide +kernel)) ggX4_tryEnd_X4_tryRiders
set_option maxRecDepth 20000 in
theorem ggX4_keepIfBetter_X0_lastEnd : GoodIn wsX4_keepIfBetter wsX0_lastEnd := goodIn_r _ [8, 9, 10, 29, 30, 31, 32, 33, 34, 35, 36] (by decide +kernel) (by decide +kernel)
set_option maxRecDepth 20000 in
theorem gX4_keepIfBetter_X0_lastEnd : GoodIn wsX4_keepIfBetter (wsV RX4 154 RX0 yX0_lastEnd wsX0_lastEnd) := goodIn_app (goodIn_of _ (by decide +kernel)) ggX4_keepIfBetter_X0_lastEnd
set_option maxRecDepth 20000 in
theorem ggX4_keepIfBetter_X0_take : GoodIn wsX4_keepIfBetter wsX0_take := goodIn_r _ [14, 15, 16, 17, 18, 10, 9, 29, 30, 31, 32, 33, 34, 35, 36] (by decide +kernel) (by decide +kernel)
set_option maxRecDepth 20000 in
theorem gX4_keepIfBetter_X0_take : GoodIn wsX4_keepIfBetter (wsV RX4 281 RX0 yX0_take wsX0_take) := goodIn_app (goodIn_of _ (by decide +kernel)) ggX4_keepIfBetter_X0_take
set_option maxRecDepth 20000 in
theorem ggX4_rideChosen_X4_riderAt : GoodIn wsX4_rideChosen wsX4_riderAt := goodIn_r _ [20, 21, 22, 56, 57, 58, 59, 60, 61, 62, 63, 64, 65] (by decide +kernel) (by decide +kernel)
set_option maxRecDepth 20000 in
theorem gX4_rideChosen_X4_riderAt : GoodIn wsX4_rideChosen (wsV RX4 55 RX4 yX4_riderAt wsX4_riderAt) := goodIn_app (goodIn_of _ (by decide +kernel)) ggX4_rideChosen_X4_riderAt
set_option maxRecDepth 20000 in
theorem ggX4_rideChosen_X1_init : GoodIn wsX4_rideChosen wsX1_init := goodIn_r _ [25, 26, 27, 28, 29, 30, 31, 32, 33, 34, 35, 36, 74, 75, 76, 77, 78, 79, 80, 81] (by decide +kernel) (by decide +kernel)
set_option maxRecDepth 20000 in
theorem gX4_rideChosen_X1_init : GoodIn wsX4_rideChosen (wsX1_init) := ggX4_rideChosen_X1_init
set_option maxRecDepth 20000 in
theorem ggX4_rideChosen_X2_addLeg : GoodIn wsX4_rideChosen wsX2_addLeg := goodIn_r _ [41, 42, 43, 93, 94, 95, 96, 97, 98, 99, 100, 101] (by decide +kernel) (by decide +kernel)
set_option maxRecDepth 20000 in
theorem gX4_rideChosen_X2_addLeg : GoodIn wsX4_rideChosen (wsV RX4 298 RX2 yX2_addLeg wsX2_addLeg) := goodIn_app (goodIn_of _ (by decide +kernel)) ggX4_rideChosen_X2_addLeg
set_option maxRecDepth 20000 in
theorem ggX4_rideChosen_X0_handsOn : GoodIn wsX4_rideChosen wsX0_handsOn := goodIn_r _ [48, 49, 50, 51, 52, 53, 47, 54, 55, 66, 67, 68, 69, 70, 71, 72, 73] (by decide +kernel) (by decide +kernel)
set_option maxRecDepth 20000 in
theorem gX4_rideChosen_X0_handsOn : GoodIn wsX4_rideChosen (wsV RX4 302 RX0 yX0_handsOn wsX0_handsOn) := goodIn_app (goodIn_of _ (by decide +kernel)) ggX4_rideChosen_X0_handsOn
set_option maxRecDepth 20000 in
theorem ggX4_mayFail_X2_legAt : GoodIn wsX4_mayFail wsX2_legAt := goodIn_r _ [9, 10, 11, 20, 21, 22, 23, 24, 25, 26, 27, 28] (by decide +kernel) (by decide +kernel)
set_option maxRecDepth 20000 in
theorem gX4_mayFail_X2_legAt : GoodIn wsX4_mayFail (wsV RX4 178 RX2 yX2_legAt wsX2_legAt) := goodIn_app (goodIn_of _ (by decide +kernel)) ggX4_mayFail_X2_legAt
set_option maxRecDepth 20000 in
theorem ggX4_dropLegsBehind_X2_legAt : GoodIn wsX4_dropLegsBehind wsX2_legAt := goodIn_r _ [15, 16, 17, 25, 26, 27, 28, 29, 30, 31, 32, 33] (by decide +kernel) (by decide +kernel)
set_option maxRecDepth 20000 in
theorem gX4_dropLegsBehind_X2_legAt : GoodIn wsX4_dropLegsBehind (wsV RX4 178 RX2 yX2_legAt wsX2_legAt) := goodIn_app (goodIn_of _ (by decide +kernel)) ggX4_dropLegsBehind_X2_legAt
set_option maxRecDepth 20000 in
theorem ggX4_dropLegsBehind_X4_riderAt : GoodIn wsX4_dropLegsBehind wsX4_riderAt := goodIn_r _ [22, 23, 24, 53, 54, 55, 56, 57, 58, 59, 60, 61, 62] (by decide +kernel) (by decide +kernel)
set_option maxRecDepth 20000 in
theorem gX4_dropLegsBehind_X4_riderAt : GoodIn wsX4_dropLegsBehind (wsV RX4 55 RX4 yX4_riderAt wsX4_riderAt) := goodIn_app (goodIn_of _ (by decide +kernel)) ggX4_dropLegsBehind_X4_riderAt
set_option maxRecDepth 20000 in
theorem ggX4_failLeg_X4_riderAt : GoodIn wsX4_failLeg wsX4_riderAt := goodIn_r _ [13, 14, 15, 35, 36, 37, 38, 39, 40, 41, 42, 43, 44] (by decide +kernel) (by decide +kernel)
set_option maxRecDepth 20000 in
theorem gX4_failLeg_X4_riderAt : GoodIn wsX4_failLeg (wsV RX4 55 RX4 yX4_riderAt wsX4_riderAt) := goodIn_app (goodIn_of _ (by decide +kernel)) ggX4_failLeg_X4_riderAt
set_option maxRecDepth 20000 in
theorem ggX5_isPlace_X5_in : GoodIn wsX5_isPlace wsX5_in := goodIn_r _ [5] (by decide +kernel) (by decide +kernel)
set_option maxRecDepth 20000 in
theorem gX5_isPlace_X5_in : GoodIn wsX5_isPlace (va_wsS RX5 108 yX5_in wsX5_in) := goodIn_app (goodIn_of _ (by decide +kernel)) ggX5_isPlace_X5_in
set_option maxRecDepth 20000 in
theorem ggX5_isRider_X5_in : GoodIn wsX5_isRider wsX5_in := goodIn_r _ [5] (by decide +kernel) (by decide +kernel)
set_option maxRecDepth 20000 in
theorem gX5_isRider_X5_in : GoodIn wsX5_isRider (va_wsS RX5 108 yX5_in wsX5_in) := goodIn_app (goodIn_of _ (by decide +kernel)) ggX5_isRider_X5_in
set_option maxRecDepth 20000 in
theorem ggX5_isCall_X5_in : GoodIn wsX5_isCall wsX5_in := goodIn_r _ [5] (by decide +kernel) (by decide +kernel)
set_option maxRecDepth 20000 in
theorem gX5_isCall_X5_in : GoodIn wsX5_isCall (va_wsS RX5 108 yX5_in wsX5_in) := goodIn_app (goodIn_of _ (by decide +kernel)) ggX5_isCall_X5_in
set_option maxRecDepth 20000 in
theorem ggX5_road_X5_isPlace : GoodIn wsX5_road wsX5_isPlace := goodIn_r _ [7, 8, 9, 10, 6, 11, 12, 13, 14, 15, 16, 17, 18, 19, 20, 21, 22, 23, 24, 25, 26, 27, 28, 29, 30, 31, 32, 33, 34, 35, 36, 37, 38, 39, 40, 41, 42, 43, 44, 45, 46] (by decide +kernel) (by decide +kernel)
set_option maxRecDepth 20000 in
theorem gX5_road_X5_isPlace : GoodIn wsX5_road (wsV RX5 118 RX5 yX5_isPlace wsX5_isPlace) := goodIn_app (goodIn_of _ (by decide +kernel)) ggX5_road_X5_isPlace
set_option maxRecDepth 20000 in
theorem ggX5_road_X5_in : GoodIn wsX5_road wsX5_in := goodIn_r _ [11] (by decide +kernel) (by decide +kernel)
set_option maxRecDepth 20000 in
theorem gX5_road_X5_in : GoodIn wsX5_road (va_wsS RX5 108 yX5_in wsX5_in) := goodIn_app (goodIn_of _ (by decide +kernel)) ggX5_road_X5_in
set_option maxRecDepth 20000 in
theorem ggX5_rider_X5_isPlace : GoodIn wsX5_rider wsX5_isPlace := goodIn_r _ [15, 2, 16, 17, 14, 18, 19, 20, 21, 22, 23, 24, 25, 26, 27, 28, 29, 30, 31, 32, 33, 34, 35, 36, 37, 38, 39, 40, 41, 42, 43, 44, 45, 46, 47, 48, 49, 50, 51, 52, 53] (by decide +kernel) (by decide +kernel)
set_option maxRecDepth 20000 in
theorem gX5_rider_X5_isPlace : GoodIn wsX5_rider (wsV RX5 118 RX5 yX5_isPlace wsX5_isPlace) := goodIn_app (goodIn_of _ (by decide +kernel)) ggX5_rider_X5_isPlace
set_option maxRecDepth 20000 in
theorem ggX5_rider_X5_in : GoodIn wsX5_rider wsX5_in := goodIn_r _ [18] (by decide +kernel) (by decide +kernel)
set_option maxRecDepth 20000 in
theorem gX5_rider_X5_in : GoodIn wsX5_rider (va_wsS RX5 108 yX5_in wsX5_in) := goodIn_app (goodIn_of _ (by decide +kernel)) ggX5_rider_X5_in
set_option maxRecDepth 20000 in
theorem ggX5_rest_X5_in : GoodIn wsX5_rest wsX5_in := goodIn_r _ [6] (by decide +kernel) (by decide +kernel)
set_option maxRecDepth 20000 in
theorem gX5_rest_X5_in : GoodIn wsX5_rest (va_wsS RX5 108 yX5_in wsX5_in) := goodIn_app (goodIn_of _ (by decide +kernel)) ggX5_rest_X5_in
set_option maxRecDepth 20000 in
theorem ggX5_way_X5_isRider : GoodIn wsX5_way wsX5_isRider := goodIn_r _ [7, 8, 9, 10, 6, 11, 24, 25, 26, 27, 28, 29, 30, 31, 32, 33, 34, 35, 36, 37, 38, 39, 40, 41, 42, 43, 44, 45, 46, 47, 48, 49, 50, 51, 52, 53, 54, 55, 56, 57, 58] (by decide +kernel) (by decide +kernel)
set_option maxRecDepth 20000 in
theorem gX5_way_X5_isRider : GoodIn wsX5_way (wsV RX5 123 RX5 yX5_isRider wsX5_isRider) := goodIn_app (goodIn_of _ (by decide +kernel)) ggX5_way_X5_isRider
set_option maxRecDepth 20000 in
theorem ggX5_way_X5_isPlace : GoodIn wsX5_way wsX5_isPlace := goodIn_r _ [15, 16, 9, 10, 6, 11, 24, 25, 26, 27, 28, 29, 30, 31, 32, 33, 34, 35, 36, 37, 38, 39, 40, 41, 42, 43, 44, 45, 46, 47, 48, 49, 50, 51, 52, 53, 54, 55, 56, 57, 58] (by decide +kernel) (by decide +kernel)
set_option maxRecDepth 20000 in
theorem gX5_way_X5_isPlace : GoodIn wsX5_way (wsV RX5 118 RX5 yX5_isPlace wsX5_isPlace) := goodIn_app (goodIn_of _ (by decide +kernel)) ggX5_way_X5_isPlace
set_option maxRecDepth 20000 in
theorem ggX5_way_X5_wayOf : GoodIn wsX5_way wsX5_wayOf := goodIn_r _ [20, 21, 2, 22, 16, 23, 24, 25, 26, 27, 28, 29, 30, 31, 32, 33, 34, 35, 36, 37, 38, 39, 40, 41, 42, 43, 44, 45, 46, 47, 48, 49, 50, 51, 52, 53, 54, 55, 56, 57, 58] (by decide +kernel) (by decide +kernel)
set_option maxRecDepth 20000 in
theorem gX5_way_X5_wayOf : GoodIn wsX5_way (wsV RX5 126 RX5 yX5_wayOf wsX5_wayOf) := goodIn_app (goodIn_of _ (by decide +kernel)) ggX5_way_X5_wayOf
set_option maxRecDepth 20000 in
theorem ggX5_count_X5_endOf : GoodIn wsX5_count wsX5_endOf := goodIn_r _ [12, 13, 14, 15, 16, 17, 18, 19, 20, 21, 22, 23, 24, 25, 26, 27, 28, 29, 30, 31, 32, 33, 34, 35, 36, 37, 38, 39, 40, 41, 42, 43, 44, 45, 46, 47, 48, 49] (by decide +kernel) (by decide +kernel)
set_option maxRecDepth 20000 in
theorem gX5_count_X5_endOf : GoodIn wsX5_count (wsV RX5 130 RX5 yX5_endOf wsX5_endOf) := goodIn_app (goodIn_of _ (by decide +kernel)) ggX5_count_X5_endOf
set_option maxRecDepth 20000 in
theorem ggX5_of_X5_isRider : GoodIn wsX5_of wsX5_isRider := goodIn_r _ [14, 15, 16, 17, 13, 18, 19, 20, 21, 22, 23, 24, 25, 26, 27, 28, 29, 30, 31, 32, 33, 34, 35, 36, 37, 38, 39, 40, 41, 42, 43, 44, 45, 46, 47, 48, 49, 50, 51, 52, 53] (by decide +kernel) (by decide +kernel)
set_option maxRecDepth 20000 in
theorem gX5_of_X5_isRider : GoodIn wsX5_of (wsV RX5 123 RX5 yX5_isRider wsX5_isRider) := goodIn_app (goodIn_of _ (by decide +kernel)) ggX5_of_X5_isRider
set_option maxRecDepth 20000 in
theorem ggX5_of_X5_in : GoodIn wsX5_of wsX5_in := goodIn_r _ [18] (by decide +kernel) (by decide +kernel)
set_option maxRecDepth 20000 in
theorem gX5_of_X5_in : GoodIn wsX5_of (va_wsS RX5 108 yX5_in wsX5_in) := goodIn_app (goodIn_of _ (by decide +kernel)) ggX5_of_X5_in
set_option maxRecDepth 20000 in
theorem ggX5_onDuty_X5_mayCarry : GoodIn wsX5_onDuty wsX5_mayCarry := goodIn_r _ [8, 9, 10, 14, 15, 16, 17, 18, 19, 20, 21, 22, 23, 24, 25, 26, 27, 28, 29, 30, 31, 32, 33, 34, 35, 36, 37, 38, 39, 40, 41, 42, 43, 44, 45, 46, 47, 48] (by decide +kernel) (by decide +kernel)
set_option maxRecDepth 20000 in
theorem gX5_onDuty_X5_mayCarry : GoodIn wsX5_onDuty (wsV RX5 134 RX5 yX5_mayCarry wsX5_mayCarry) := goodIn_app (goodIn_of _ (by decide +kernel)) ggX5_onDuty_X5_mayCarry
set_option maxRecDepth 20000 in
theorem ggX5_onDuty_X5_in : GoodIn wsX5_onDuty wsX5_in := goodIn_r _ [13] (by decide +kernel) (by decide +kernel)
set_option maxRecDepth 20000 in
theorem gX5_onDuty_X5_in : GoodIn wsX5_onDuty (va_wsS RX5 108 yX5_in wsX5_in) := goodIn_app (goodIn_of _ (by decide +kernel)) ggX5_onDuty_X5_in
set_option maxRecDepth 20000 in
theorem ggX5_duty_X5_in : GoodIn wsX5_duty wsX5_in := goodIn_r _ [5] (by decide +kernel) (by decide +kernel)
set_option maxRecDepth 20000 in
theorem gX5_duty_X5_in : GoodIn wsX5_duty (va_wsS RX5 108 yX5_in wsX5_in) := goodIn_app (goodIn_of _ (by decide +kernel)) ggX5_duty_X5_in
set_option maxRecDepth 20000 in
theorem ggX5_duty_X5_onDuty : GoodIn wsX5_duty wsX5_onDuty := goodIn_r _ [9, 10, 11, 12, 13, 14, 15, 4, 16, 17, 18, 2, 3, 5, 19, 20, 21, 22, 23, 24, 25, 26, 27, 28, 29, 30, 31, 32, 33, 34, 35, 36, 37, 38, 39, 40, 41, 42, 43, 44, 45, 46, 47, 48, 49, 50, 51, 52, 53] (by decide +kernel) (by decide +kernel)
set_option maxRecDepth 20000 in
theorem gX5_duty_X5_onDuty : GoodIn wsX5_duty (wsV RX5 138 RX5 yX5_onDuty wsX5_onDuty) := goodIn_app (goodIn_of _ (by decide +kernel)) ggX5_duty_X5_onDuty
set_option maxRecDepth 20000 in
theorem ggX5_bare_X5_in : GoodIn wsX5_bare wsX5_in := goodIn_r _ [5] (by decide +kernel) (by decide +kernel)
set_option maxRecDepth 20000 in
theorem gX5_bare_X5_in : GoodIn wsX5_bare (va_wsS RX5 108 yX5_in wsX5_in) := goodIn_app (goodIn_of _ (by decide +kernel)) ggX5_bare_X5_in
set_option maxRecDepth 20000 in
theorem ggX5_bare_X5_onDuty : GoodIn wsX5_bare wsX5_onDuty := goodIn_r _ [9, 10, 11, 12, 13, 14, 15, 4, 16, 17, 18, 2, 3, 5, 19, 20, 21, 22, 23, 24, 25, 26, 27, 28, 29, 30, 31, 32, 33, 34, 35, 36, 37, 38, 39, 40, 41, 42, 43, 44, 45, 46, 47, 48, 49, 50, 51, 52, 53] (by decide +kernel) (by decide +kernel)
set_option maxRecDepth 20000 in
theorem gX5_bare_X5_onDuty : GoodIn wsX5_bare (wsV RX5 138 RX5 yX5_onDuty wsX5_onDuty) := goodIn_app (goodIn_of _ (by decide +kernel)) ggX5_bare_X5_onDuty
set_option maxRecDepth 20000 in
theorem ggX5_tryLeg_X5_mayCarry : GoodIn wsX5_tryLeg wsX5_mayCarry := goodIn_r _ [25, 26, 27, 42, 43, 44, 45, 46, 47, 48, 49, 50, 51, 52, 53, 54, 55, 56, 57, 58, 59, 60, 61, 62, 63, 64, 65, 66, 67, 68, 69, 70, 71, 72, 73, 74, 75, 76] (by decide +kernel) (by decide +kernel)
set_option maxRecDepth 20000 in
theorem gX5_tryLeg_X5_mayCarry : GoodIn wsX5_tryLeg (wsV RX5 134 RX5 yX5_mayCarry wsX5_mayCarry) := goodIn_app (goodIn_of _ (by decide +kernel)) ggX5_tryLeg_X5_mayCarry
set_option maxRecDepth 20000 in
theorem ggX5_tryLeg_X5_wayOf : GoodIn wsX5_tryLeg wsX5_wayOf := goodIn_r _ [31, 32, 4, 33, 12, 34, 42, 43, 44, 45, 46, 47, 48, 49, 50, 51, 52, 53, 54, 55, 56, 57, 58, 59, 60, 61, 62, 63, 64, 65, 66, 67, 68, 69, 70, 71, 72, 73, 74, 75, 76] (by decide +kernel) (by decide +kernel)
set_option maxRecDepth 20000 in
theorem gX5_tryLeg_X5_wayOf : GoodIn wsX5_tryLeg (wsV RX5 126 RX5 yX5_wayOf wsX5_wayOf) := goodIn_app (goodIn_of _ (by decide +kernel)) ggX5_tryLeg_X5_wayOf
set_option maxRecDepth 20000 in
theorem ggX5_tryLeg_X5_tryLeg : GoodIn wsX5_tryLeg wsX5_tryLeg := goodIn_r _ [0, 1, 2, 3, 4, 5, 6, 7, 8, 9, 10, 11, 12, 13, 14, 15, 16, 17, 18, 19, 20, 21, 22, 23, 24, 25, 26, 27, 28, 29, 30, 31, 32, 33, 34, 35, 36, 37, 38, 39, 40, 41, 42, 43, 44, 45, 46, 47, 48, 49, 50, 51, 52, 53, 54, 55, 56, 57, 58, 59, 60, 61, 62, 63, 64, 65, 66, 67, 68, 69, 70, 71, 72, 73, 74, 75, 76] (by decide +kernel) (by decide +kernel)
set_option maxRecDepth 20000 in
theorem gX5_tryLeg_X5_tryLeg : GoodIn wsX5_tryLeg (wsV RX5 150 RX5 yX5_tryLeg wsX5_tryLeg) := goodIn_app (goodIn_of _ (by decide +kernel)) ggX5_tryLeg_X5_tryLeg
set_option maxRecDepth 20000 in
theorem ggX5_tryLeg_X5_isBetter : GoodIn wsX5_tryLeg wsX5_isBetter := goodIn_r _ [41, 16, 15, 20, 2, 17, 13, 18, 42, 43, 44, 45, 46, 47, 48, 49, 50, 51, 52, 53, 54, 55, 56, 57, 58, 59, 60, 61, 62, 63, 64, 65, 66, 67, 68, 69, 70, 71, 72, 73, 74, 75, 76] (by decide +kernel) (by decide +kernel)
set_option maxRecDepth 20000 in
theorem gX5_tryLeg_X5_isBetter : GoodIn wsX5_tryLeg (wsV RX5 154 RX5 yX5_isBetter wsX5_isBetter) := goodIn_app (goodIn_of _ (by decide +kernel)) ggX5_tryLeg_X5_isBetter
set_option maxRecDepth 20000 in
theorem ggX5_findBest_X5_tryLeg : GoodIn wsX5_findBest wsX5_tryLeg := goodIn_r _ [6, 7, 8, 9, 10, 11, 12, 13, 14, 15, 16, 17, 18, 19, 20, 21, 1, 22, 23, 24, 25, 26, 27, 28, 5, 29, 30, 31, 32, 33, 34, 35, 36, 37, 38, 2, 3, 4, 39, 40, 41, 42, 43, 44, 45, 46, 47, 48, 49, 50, 51, 52, 53, 54, 55, 56, 57, 58, 59, 60, 61, 62, 63, 64, 65, 66, 67, 68, 69, 70, 71, 72, 73, 74, 75, 76, 77] (by decide +kernel) (by decide +kernel)
set_option maxRecDepth 20000 in
theorem gX5_findBest_X5_tryLeg : GoodIn wsX5_findBest (wsV RX5 150 RX5 yX5_tryLeg wsX5_tryLeg) := goodIn_app (goodIn_of _ (by decide +kernel)) ggX5_findBest_X5_tryLeg
set_option maxRecDepth 20000 in
theorem ggX5_call_X5_in : GoodIn wsX5_call wsX5_in := goodIn_r _ [11] (by decide +kernel) (by decide +kernel)
set_option maxRecDepth 20000 in
theorem gX5_call_X5_in : GoodIn wsX5_call (va_wsS RX5 108 yX5_in wsX5_in) := goodIn_app (goodIn_of _ (by decide +kernel)) ggX5_call_X5_in
set_option maxRecDepth 20000 in
theorem ggX5_call_X5_isPlace : GoodIn wsX5_call wsX5_isPlace := goodIn_r _ [15, 16, 8, 9, 10, 11, 17, 18, 19, 20, 21, 22, 23, 24, 25, 26, 27, 28, 29, 30, 31, 32, 33, 34, 35, 36, 37, 38, 39, 40, 41, 42, 43, 44, 45, 46, 47, 48, 49, 50, 51] (by decide +kernel) (by decide +kernel)
set_option maxRecDepth 20000 in
theorem gX5_call_X5_isPlace : GoodIn wsX5_call (wsV RX5 118 RX5 yX5_isPlace wsX5_isPlace) := goodIn_app (goodIn_of _ (by decide +kernel)) ggX5_call_X5_isPlace
set_option maxRecDepth 20000 in
theorem ggX5_best_X5_isCall : GoodIn wsX5_best wsX5_isCall := goodIn_r _ [13, 14, 15, 16, 12, 17, 61, 62, 63, 64, 65, 66, 67, 68, 69, 70, 71, 72, 73, 74, 75, 76, 77, 78, 79, 80, 81, 82, 83, 84, 85, 86, 87, 88, 89, 90, 91, 92, 93, 94, 95] (by decide +kernel) (by decide +kernel)
set_option maxRecDepth 20000 in
theorem gX5_best_X5_isCall : GoodIn wsX5_best (wsV RX5 157 RX5 yX5_isCall wsX5_isCall) := goodIn_app (goodIn_of _ (by decide +kernel)) ggX5_best_X5_isCall
set_option maxRecDepth 20000 in
theorem ggX5_best_X5_findBest : GoodIn wsX5_best wsX5_findBest := goodIn_r _ [21, 8, 22, 23, 24, 12, 25, 26, 27, 28, 29, 30, 31, 32, 33, 34, 35, 36, 37, 38, 39, 40, 41, 42, 43, 7, 44, 45, 46, 47, 48, 49, 50, 51, 52, 53, 54, 55, 56, 57, 58, 59, 60, 61, 62, 63, 64, 65, 66, 67, 68, 69, 70, 71, 72, 73, 74, 75, 76, 77, 78, 79, 80, 81, 82, 83, 84, 85, 86, 87, 88, 89, 90, 91, 92, 93, 94, 95] (by decide +kernel) (by decide +kernel)
set_option maxRecDepth 20000 in
theorem gX5_best_X5_findBest : GoodIn wsX5_best (wsV RX5 160 RX5 yX5_findBest wsX5_findBest) := goodIn_app (goodIn_of _ (by decide +kernel)) ggX5_best_X5_findBest
set_option maxRecDepth 20000 in
theorem ggX5_send_X5_isCall : GoodIn wsX5_send wsX5_isCall := goodIn_r _ [12, 13, 14, 15, 11, 16, 75, 76, 77, 78, 79, 80, 81, 82, 83, 84, 85, 86, 87, 88, 89, 90, 91, 92, 93, 94, 95, 96, 97, 98, 99, 100, 101, 102, 103, 104, 105, 106, 107, 108, 109] (by decide +kernel) (by decide +kernel)
set_option maxRecDepth 20000 in
theorem gX5_send_X5_isCall : GoodIn wsX5_send (wsV RX5 157 RX5 yX5_isCall wsX5_isCall) := goodIn_app (goodIn_of _ (by decide +kernel)) ggX5_send_X5_isCall
set_option maxRecDepth 20000 in
theorem ggX5_send_X5_findBest : GoodIn wsX5_send wsX5_findBest := goodIn_r _ [20, 21, 22, 23, 24, 11, 25, 26, 27, 28, 29, 30, 31, 32, 33, 34, 35, 36, 37, 38, 39, 40, 41, 42, 43, 44, 45, 46, 47, 48, 49, 50, 51, 52, 53, 54, 55, 56, 57, 58, 59, 60, 61, 75, 76, 77, 78, 79, 80, 81, 82, 83, 84, 85, 86, 87, 88, 89, 90, 91, 92, 93, 94, 95, 96, 97, 98, 99, 100, 101, 102, 103, 104, 105, 106, 107, 108, 109] (by decide +kernel) (by decide +kernel)
set_option maxRecDepth 20000 in
theorem gX5_send_X5_findBest : GoodIn wsX5_send (wsV RX5 160 RX5 yX5_findBest wsX5_findBest) := goodIn_app (goodIn_of _ (by decide +kernel)) ggX5_send_X5_findBest
set_option maxRecDepth 20000 in
theorem ggX5_send_X5_ride : GoodIn wsX5_send wsX5_ride := goodIn_r _ [65, 21, 41, 66, 67, 42, 43, 44, 28, 30, 68, 69, 70, 75, 76, 77, 78, 79, 80, 81, 82, 83, 84, 85, 86, 87, 88, 89, 90, 91, 92, 93, 94, 95, 96, 97, 98, 99, 100, 101, 102, 103, 104, 105, 106, 107, 108, 109] (by decide +kernel) (by decide +kernel)
set_option maxRecDepth 20000 in
theorem gX5_send_X5_ride : GoodIn wsX5_send (wsV RX5 164 RX5 yX5_ride wsX5_ride) := goodIn_app (goodIn_of _ (by decide +kernel)) ggX5_send_X5_ride
set_option maxRecDepth 20000 in
theorem ggX5_send_X5_endOf : GoodIn wsX5_send wsX5_endOf := goodIn_r _ [74, 67, 66, 75, 76, 77, 78, 79, 80, 81, 82, 83, 84, 85, 86, 87, 88, 89, 90, 91, 92, 93, 94, 95, 96, 97, 98, 99, 100, 101, 102, 103, 104, 105, 106, 107, 108, 109] (by decide +kernel) (by decide +kernel)
set_option maxRecDepth 20000 in
theorem gX5_send_X5_endOf : GoodIn wsX5_send (wsV RX5 130 RX5 yX5_endOf wsX5_endOf) := goodIn_app (goodIn_of _ (by decide +kernel)) ggX5_send_X5_endOf
set_option maxRecDepth 20000 in
theorem ggX5_told_X5_isCall : GoodIn wsX5_told wsX5_isCall := goodIn_r _ [13, 14, 15, 16, 12, 17, 23, 24, 25, 26, 27, 28, 29, 30, 31, 32, 33, 34, 35, 36, 37, 38, 39, 40, 41, 42, 43, 44, 45, 46, 47, 48, 49, 50, 51, 52, 53, 54, 55, 56, 57] (by decide +kernel) (by decide +kernel)
set_option maxRecDepth 20000 in
theorem gX5_told_X5_isCall : GoodIn wsX5_told (wsV RX5 157 RX5 yX5_isCall wsX5_isCall) := goodIn_app (goodIn_of _ (by decide +kernel)) ggX5_told_X5_isCall
set_option maxRecDepth 20000 in
theorem ggX5_told_X5_endOf : GoodIn wsX5_told wsX5_endOf := goodIn_r _ [21, 22, 8, 23, 24, 25, 26, 27, 28, 29, 30, 31, 32, 33, 34, 35, 36, 37, 38, 39, 40, 41, 42, 43, 44, 45, 46, 47, 48, 49, 50, 51, 52, 53, 54, 55, 56, 57] (by decide +kernel) (by decide +kernel)
set_option maxRecDepth 20000 in
theorem gX5_told_X5_endOf : GoodIn wsX5_told (wsV RX5 130 RX5 yX5_endOf wsX5_endOf) := goodIn_app (goodIn_of _ (by decide +kernel)) ggX5_told_X5_endOf
set_option maxRecDepth 20000 in
theorem ggX5_leg_X5_isCall : GoodIn wsX5_leg wsX5_isCall := goodIn_r _ [8, 9, 10, 11, 7, 12, 13, 14, 15, 16, 17, 18, 19, 20, 21, 22, 23, 24, 25, 26, 27, 28, 29, 30, 31, 32, 33, 34, 35, 36, 37, 38, 39, 40, 41, 42, 43, 44, 45, 46, 47] (by decide +kernel) (by decide +kernel)
set_option maxRecDepth 20000 in
theorem gX5_leg_X5_isCall : GoodIn wsX5_leg (wsV RX5 157 RX5 yX5_isCall wsX5_isCall) := goodIn_app (goodIn_of _ (by decide +kernel)) ggX5_leg_X5_isCall
set_option maxRecDepth 20000 in
theorem ggX5_leg_X5_in : GoodIn wsX5_leg wsX5_in := goodIn_r _ [12] (by decide +kernel) (by decide +kernel)
set_option maxRecDepth 20000 in
theorem gX5_leg_X5_in : GoodIn wsX5_leg (va_wsS RX5 108 yX5_in wsX5_in) := goodIn_app (goodIn_of _ (by decide +kernel)) ggX5_leg_X5_in
set_option maxRecDepth 20000 in
theorem ggX5_hand_X5_isCall : GoodIn wsX5_hand wsX5_isCall := goodIn_r _ [9, 10, 11, 12, 8, 13, 18, 19, 20, 21, 22, 23, 24, 25, 26, 27, 28, 29, 30, 31, 32, 33, 34, 35, 36, 37, 38, 39, 40, 41, 42, 43, 44, 45, 46, 47, 48, 49, 50, 51, 52] (by decide +kernel) (by decide +kernel)
set_option maxRecDepth 20000 in
theorem gX5_hand_X5_isCall : GoodIn wsX5_hand (wsV RX5 157 RX5 yX5_isCall wsX5_isCall) := goodIn_app (goodIn_of _ (by decide +kernel)) ggX5_hand_X5_isCall
set_option maxRecDepth 20000 in
theorem ggX5_hand_X5_in : GoodIn wsX5_hand wsX5_in := goodIn_r _ [13] (by decide +kernel) (by decide +kernel)
set_option maxRecDepth 20000 in
theorem gX5_hand_X5_in : GoodIn wsX5_hand (va_wsS RX5 108 yX5_in wsX5_in) := goodIn_app (goodIn_of _ (by decide +kernel)) ggX5_hand_X5_in
set_option maxRecDepth 20000 in
theorem ggX5_hand_X5_endOf : GoodIn wsX5_hand wsX5_endOf := goodIn_r _ [17, 4, 3, 18, 19, 20, 21, 22, 23, 24, 25, 26, 27, 28, 29, 30, 31, 32, 33, 34, 35, 36, 37, 38, 39, 40, 41, 42, 43, 44, 45, 46, 47, 48, 49, 50, 51, 52] (by decide +kernel) (by decide +kernel)
set_option maxRecDepth 20000 in
theorem gX5_hand_X5_endOf : GoodIn wsX5_hand (wsV RX5 130 RX5 yX5_endOf wsX5_endOf) := goodIn_app (goodIn_of _ (by decide +kernel)) ggX5_hand_X5_endOf
set_option maxRecDepth 20000 in
theorem ggX5_fail_X5_isCall : GoodIn wsX5_fail wsX5_isCall := goodIn_r _ [17, 18, 19, 20, 16, 21, 73, 74, 75, 76, 77, 78, 79, 80, 81, 82, 83, 84, 85, 86, 87, 88, 89, 90, 91, 92, 93, 94, 95, 96, 97, 98, 99, 100, 101, 102, 103, 104, 105, 106, 107] (by decide +kernel) (by decide +kernel)
set_option maxRecDepth 20000 in
theorem gX5_fail_X5_isCall : GoodIn wsX5_fail (wsV RX5 157 RX5 yX5_isCall wsX5_isCall) := goodIn_app (goodIn_of _ (by decide +kernel)) ggX5_fail_X5_isCall
set_option maxRecDepth 20000 in
theorem ggX5_fail_X5_in : GoodIn wsX5_fail wsX5_in := goodIn_r _ [21] (by decide +kernel) (by decide +kernel)
set_option maxRecDepth 20000 in
theorem gX5_fail_X5_in : GoodIn wsX5_fail (va_wsS RX5 108 yX5_in wsX5_in) := goodIn_app (goodIn_of _ (by decide +kernel)) ggX5_fail_X5_in
set_option maxRecDepth 20000 in
theorem ggX5_fail_X5_findBest : GoodIn wsX5_fail wsX5_findBest := goodIn_r _ [25, 26, 27, 28, 29, 16, 30, 31, 32, 5, 33, 6, 34, 35, 36, 37, 38, 39, 40, 41, 42, 43, 44, 45, 46, 47, 48, 49, 50, 51, 9, 52, 53, 54, 55, 56, 57, 58, 59, 60, 61, 62, 63, 73, 74, 75, 76, 77, 78, 79, 80, 81, 82, 83, 84, 85, 86, 87, 88, 89, 90, 91, 92, 93, 94, 95, 96, 97, 98, 99, 100, 101, 102, 103, 104, 105, 106, 107] (by decide +kernel) (by decide +kernel)
set_option maxRecDepth 20000 in
theorem gX5_fail_X5_findBest : GoodIn wsX5_fail (wsV RX5 160 RX5 yX5_findBest wsX5_findBest) := goodIn_app (goodIn_of _ (by decide +kernel)) ggX5_fail_X5_findBest
set_option maxRecDepth 20000 in
theorem ggX5_fail_X5_ride : GoodIn wsX5_fail wsX5_ride := goodIn_r _ [67, 26, 44, 3, 4, 45, 46, 47, 5, 6, 68, 7, 8, 73, 74, 75, 76, 77, 78, 79, 80, 81, 82, 83, 84, 85, 86, 87, 88, 89, 90, 91, 92, 93, 94, 95, 96, 97, 98, 99, 100, 101, 102, 103, 104, 105, 106, 107] (by decide +kernel) (by decide +kernel)
set_option maxRecDepth 20000 in
theorem gX5_fail_X5_ride : GoodIn wsX5_fail (wsV RX5 164 RX5 yX5_ride wsX5_ride) := goodIn_app (goodIn_of _ (by decide +kernel)) ggX5_fail_X5_ride
set_option maxRecDepth 20000 in
theorem ggX5_fail_X5_endOf : GoodIn wsX5_fail wsX5_endOf := goodIn_r _ [72, 4, 3, 73, 74, 75, 76, 77, 78, 79, 80, 81, 82, 83, 84, 85, 86, 87, 88, 89, 90, 91, 92, 93, 94, 95, 96, 97, 98, 99, 100, 101, 102, 103, 104, 105, 106, 107] (by decide +kernel) (by decide +kernel)
set_option maxRecDepth 20000 in
theorem gX5_fail_X5_endOf : GoodIn wsX5_fail (wsV RX5 130 RX5 yX5_endOf wsX5_endOf) := goodIn_app (goodIn_of _ (by decide +kernel)) ggX5_fail_X5_endOf
set_option maxRecDepth 20000 in
theorem ggX5_next_X5_in : GoodIn wsX5_next wsX5_in := goodIn_r _ [16] (by decide +kernel) (by decide +kernel)
set_option maxRecDepth 20000 in
theorem gX5_next_X5_in : GoodIn wsX5_next (va_wsS RX5 108 yX5_in wsX5_in) := goodIn_app (goodIn_of _ (by decide +kernel)) ggX5_next_X5_in
set_option maxRecDepth 20000 in
theorem ggX5_next_X5_isPlace : GoodIn wsX5_next wsX5_isPlace := goodIn_r _ [20, 21, 13, 14, 15, 16, 35, 36, 37, 38, 39, 40, 41, 42, 43, 44, 45, 46, 47, 48, 49, 50, 51, 52, 53, 54, 55, 56, 57, 58, 59, 60, 61, 62, 63, 64, 65, 66, 67, 68, 69] (by decide +kernel) (by decide +kernel)
set_option maxRecDepth 20000 in
theorem gX5_next_X5_isPlace : GoodIn wsX5_next (wsV RX5 118 RX5 yX5_isPlace wsX5_isPlace) := goodIn_app (goodIn_of _ (by decide +kernel)) ggX5_next_X5_isPlace
set_option maxRecDepth 20000 in
theorem ggX5_next_X5_wayOf : GoodIn wsX5_next wsX5_wayOf := goodIn_r _ [25, 26, 4, 27, 21, 28, 35, 36, 37, 38, 39, 40, 41, 42, 43, 44, 45, 46, 47, 48, 49, 50, 51, 52, 53, 54, 55, 56, 57, 58, 59, 60, 61, 62, 63, 64, 65, 66, 67, 68, 69] (by decide +kernel) (by decide +kernel)
set_option maxRecDepth 20000 in
theorem gX5_next_X5_wayOf : GoodIn wsX5_next (wsV RX5 126 RX5 yX5_wayOf wsX5_wayOf) := goodIn_app (goodIn_of _ (by decide +kernel)) ggX5_next_X5_wayOf
set_option maxRecDepth 20000 in
theorem ggX5_next_X5_mayCarry : GoodIn wsX5_next wsX5_mayCarry := goodIn_r _ [32, 33, 34, 35, 36, 37, 38, 39, 40, 41, 42, 43, 44, 45, 46, 47, 48, 49, 50, 51, 52, 53, 54, 55, 56, 57, 58, 59, 60, 61, 62, 63, 64, 65, 66, 67, 68, 69] (by decide +kernel) (by decide +kernel)
set_option maxRecDepth 20000 in
theorem gX5_next_X5_mayCarry : GoodIn wsX5_next (wsV RX5 134 RX5 yX5_mayCarry wsX5_mayCarry) := goodIn_app (goodIn_of _ (by decide +kernel)) ggX5_next_X5_mayCarry
set_option maxRecDepth 20000 in
theorem ggL_of_X4_of : GoodIn wsL_of wsX4_of := goodIn_ca (goodIn_r _ [6, 7, 8, 9, 10, 11, 12, 13, 14, 15, 16, 17, 18, 19, 5, 20, 21, 22, 23, 24, 25, 26, 27, 28, 29, 30, 31, 32, 33, 34, 35, 36, 37, 38, 39, 40, 41, 42, 43] (by decide +kernel) (by decide +kernel)) (goodIn_sub (fun _ h => List.mem_cons_of_mem _ (List.mem_append_right _ h)) (by decide +kernel))
set_option maxRecDepth 20000 in
theorem gL_of_X4_of : GoodIn wsL_of (wsV RL 7 RX4 yX4_of wsX4_of) := goodIn_app (goodIn_of _ (by decide +kernel)) ggL_of_X4_of
set_option maxRecDepth 20000 in
theorem ggL_law_X4_init : GoodIn wsL_law wsX4_init := goodIn_r _ [9, 10, 11, 12, 13, 14, 15, 16, 17, 18, 19, 20, 21, 22, 23, 24, 25, 26, 27, 28, 29, 30, 31, 32, 33, 34, 35, 36, 37, 38, 39, 521, 522, 523, 524, 525, 526, 527, 528, 529, 530, 566, 567, 568, 569, 570, 571, 572, 573] (by decide +kernel) (by decide +kernel)
set_option maxRecDepth 20000 in
theorem gL_law_X4_init : GoodIn wsL_law (wsX4_init) := ggL_law_X4_init
set_option maxRecDepth 20000 in
theorem ggL_law_X5_init : GoodIn wsL_law wsX5_init := goodIn_r _ [42, 43, 11, 12, 13, 44, 45, 46, 47, 48, 49, 50, 51, 52, 53, 54, 55, 56, 57, 58, 59, 60, 61, 62, 63, 64, 65, 66, 67, 68, 69, 70, 71, 72, 73, 74, 531, 532, 533, 534, 535, 536, 537, 538, 539, 540, 541, 542, 543, 544, 545, 546, 547, 548, 549, 550, 551, 552, 553, 554, 555, 556, 557, 558, 559, 560, 561, 562, 563, 564, 565] (by decide +kernel) (by decide +kernel)
set_option maxRecDepth 20000 in
theorem gL_law_X5_init : GoodIn wsL_law (wsX5_init) := ggL_law_X5_init
set_option maxRecDepth 20000 in
theorem ggL_law_X4_place : GoodIn wsL_law wsX4_place := goodIn_r _ [78, 24, 521, 522, 523, 524, 525, 526, 527, 528, 529, 530] (by decide +kernel) (by decide +kernel)
set_option maxRecDepth 20000 in
theorem gL_law_X4_place : GoodIn wsL_law (wsV RL 19 RX4 yX4_place wsX4_place) := goodIn_app (goodIn_of _ (by decide +kernel)) ggL_law_X4_place
set_option maxRecDepth 20000 in
theorem ggL_law_X5_place : GoodIn wsL_law wsX5_place := goodIn_r _ [82, 83, 84, 531, 532, 533, 534, 535, 536, 537, 538, 539, 540, 541, 542, 543, 544, 545, 546, 547, 548, 549, 550, 551, 552, 553, 554, 555, 556, 557, 558, 559, 560, 561, 562, 563, 564, 565] (by decide +kernel) (by decide +kernel)
set_option maxRecDepth 20000 in
theorem gL_law_X5_place : GoodIn wsL_law (wsV RL 23 RX5 yX5_place wsX5_place) := goodIn_app (goodIn_of _ (by decide +kernel)) ggL_law_X5_place
set_option maxRecDepth 20000 in
theorem ggL_law_X4_road : GoodIn wsL_law wsX4_road := goodIn_r _ [88, 14, 25, 89, 90, 91, 2, 92, 24, 93, 94, 95, 96, 16, 97, 98, 99, 100, 101, 102, 103, 104, 105, 106, 107, 108, 109, 110, 111, 112, 113, 114, 115, 521, 522, 523, 524, 525, 526, 527, 528, 529, 530, 574, 575, 576, 577, 578, 579, 580, 581, 582, 583, 584] (by decide +kernel) (by decide +kernel)
set_option maxRecDepth 20000 in
theorem gL_law_X4_road : GoodIn wsL_law (wsV RL 24 RX4 yX4_road wsX4_road) := goodIn_app (goodIn_of _ (by decide +kernel)) ggL_law_X4_road
set_option maxRecDepth 20000 in
theorem ggL_law_X5_road : GoodIn wsL_law wsX5_road := goodIn_r _ [119, 83, 44, 120, 121, 122, 5, 123, 84, 124, 125, 126, 531, 532, 533, 534, 535, 536, 537, 538, 539, 540, 541, 542, 543, 544, 545, 546, 547, 548, 549, 550, 551, 552, 553, 554, 555, 556, 557, 558, 559, 560, 561, 562, 563, 564, 565] (by decide +kernel) (by decide +kernel)
set_option maxRecDepth 20000 in
theorem gL_law_X5_road : GoodIn wsL_law (wsV RL 28 RX5 yX5_road wsX5_road) := goodIn_app (goodIn_of _ (by decide +kernel)) ggL_law_X5_road
set_option maxRecDepth 20000 in
theorem ggL_law_X4_rider : GoodIn wsL_law wsX4_rider := goodIn_r _ [130, 25, 24, 15, 131, 113, 16, 89, 90, 91, 2, 92, 132, 133, 134, 107, 108, 109, 135, 136, 137, 138, 139, 140, 141, 11, 12, 13, 115, 142, 143, 144, 145, 146, 147, 148, 149, 150, 151, 97, 98, 99, 100, 101, 102, 103, 104, 105, 106, 14, 110, 111, 112, 114, 521, 522, 523, 524, 525, 526, 527, 528, 529, 530, 574, 575, 576, 577, 578, 579, 580, 581, 582, 583, 584] (by decide +kernel) (by decide +kernel)
set_option maxRecDepth 20000 in
theorem gL_law_X4_rider : GoodIn wsL_law (wsV RL 29 RX4 yX4_rider wsX4_rider) := goodIn_app (goodIn_of _ (by decide +kernel)) ggL_law_X4_rider
set_option maxRecDepth 20000 in
theorem ggL_law_X5_rider : GoodIn wsL_law wsX5_rider := goodIn_r _ [155, 83, 84, 156, 45, 46, 47, 48, 49, 50, 51, 120, 121, 122, 5, 123, 124, 125, 126, 531, 532, 533, 534, 535, 536, 537, 538, 539, 540, 541, 542, 543, 544, 545, 546, 547, 548, 549, 550, 551, 552, 553, 554, 555, 556, 557, 558, 559, 560, 561, 562, 563, 564, 565] (by decide +kernel) (by decide +kernel)
set_option maxRecDepth 20000 in
theorem gL_law_X5_rider : GoodIn wsL_law (wsV RL 33 RX5 yX5_rider wsX5_rider) := goodIn_app (goodIn_of _ (by decide +kernel)) ggL_law_X5_rider
set_option maxRecDepth 20000 in
theorem ggL_law_X4_rest : GoodIn wsL_law wsX4_rest := goodIn_r _ [160, 27, 521, 522, 523, 524, 525, 526, 527, 528, 529, 530] (by decide +kernel) (by decide +kernel)
set_option maxRecDepth 20000 in
theorem gL_law_X4_rest : GoodIn wsL_law (wsV RL 34 RX4 yX4_rest wsX4_rest) := goodIn_app (goodIn_of _ (by decide +kernel)) ggL_law_X4_rest
set_option maxRecDepth 20000 in
theorem ggL_law_X5_rest : GoodIn wsL_law wsX5_rest := goodIn_r _ [164, 83, 56, 124, 125, 5, 126, 531, 532, 533, 534, 535, 536, 537, 538, 539, 540, 541, 542, 543, 544, 545, 546, 547, 548, 549, 550, 551, 552, 553, 554, 555, 556, 557, 558, 559, 560, 561, 562, 563, 564, 565] (by decide +kernel) (by decide +kernel)
set_option maxRecDepth 20000 in
theorem gL_law_X5_rest : GoodIn wsL_law (wsV RL 38 RX5 yX5_rest wsX5_rest) := goodIn_app (goodIn_of _ (by decide +kernel)) ggL_law_X5_rest
set_option maxRecDepth 20000 in
theorem ggL_law_X4_count : GoodIn wsL_law wsX4_count := goodIn_r _ [168, 24, 25, 26, 169, 170, 171, 2, 172, 173, 174, 175, 176, 18, 177, 178, 179, 180, 181, 182, 183, 184, 185, 186, 187, 188, 189, 190, 191, 192, 193, 194, 195, 196, 197, 198, 199, 200, 201, 521, 522, 523, 524, 525, 526, 527, 528, 529, 530, 585, 586, 587, 588, 589, 590, 591, 592, 593, 594, 595, 596, 597, 598, 599, 600, 601] (by decide +kernel) (by decide +kernel)
set_option maxRecDepth 20000 in
theorem gL_law_X4_count : GoodIn wsL_law (wsV RL 39 RX4 yX4_count wsX4_count) := goodIn_app (goodIn_of _ (by decide +kernel)) ggL_law_X4_count
set_option maxRecDepth 20000 in
theorem ggL_law_X5_count : GoodIn wsL_law wsX5_count := goodIn_r _ [205, 83, 84, 156, 206, 62, 60, 61, 207, 208, 209, 5, 210, 64, 65, 531, 532, 533, 534, 535, 536, 537, 538, 539, 540, 541, 542, 543, 544, 545, 546, 547, 548, 549, 550, 551, 552, 553, 554, 555, 556, 557, 558, 559, 560, 561, 562, 563, 564, 565] (by decide +kernel) (by decide +kernel)
set_option maxRecDepth 20000 in
theorem gL_law_X5_count : GoodIn wsL_law (wsV RL 42 RX5 yX5_count wsX5_count) := goodIn_app (goodIn_of _ (by decide +kernel)) ggL_law_X5_count
set_option maxRecDepth 20000 in
theorem ggL_law_X4_way : GoodIn wsL_law wsX4_way := goodIn_r _ [214, 93, 94, 95, 2, 96, 25, 16, 215, 216, 217, 218, 101, 89, 90, 91, 92, 24, 521, 522, 523, 524, 525, 526, 527, 528, 529, 530, 574, 575, 576, 577, 578, 579, 580, 581, 582, 583, 584] (by decide +kernel) (by decide +kernel)
set_option maxRecDepth 20000 in
theorem gL_law_X4_way : GoodIn wsL_law (wsV RL 43 RX4 yX4_way wsX4_way) := goodIn_app (goodIn_of _ (by decide +kernel)) ggL_law_X4_way
set_option maxRecDepth 20000 in
theorem ggL_law_X5_way : GoodIn wsL_law wsX5_way := goodIn_r _ [222, 83, 223, 224, 225, 226, 5, 227, 156, 124, 125, 126, 120, 121, 122, 123, 84, 228, 229, 230, 231, 46, 66, 44, 531, 532, 533, 534, 535, 536, 537, 538, 539, 540, 541, 542, 543, 544, 545, 546, 547, 548, 549, 550, 551, 552, 553, 554, 555, 556, 557, 558, 559, 560, 561, 562, 563, 564, 565] (by decide +kernel) (by decide +kernel)
set_option maxRecDepth 20000 in
theorem gL_law_X5_way : GoodIn wsL_law (wsV RL 47 RX5 yX5_way wsX5_way) := goodIn_app (goodIn_of _ (by decide +kernel)) ggL_law_X5_way
set_option maxRecDepth 20000 in
theorem ggL_law_L_of : GoodIn wsL_law wsL_of := goodIn_ca (goodIn_r _ [235, 236, 237, 238, 239, 2, 240, 241, 242, 243, 244, 245, 246, 247, 248, 102, 249, 93, 94, 95, 96, 25, 16, 574, 575, 576, 577, 578, 579, 580, 581, 582, 583, 584, 521, 522, 523, 524, 525, 526, 527, 528, 529, 530] (by decide +kernel) (by decide +kernel)) (goodIn_sub (fun _ h => List.mem_append_right _ h) (by decide +kernel))
set_option maxRecDepth 20000 in
theorem gL_law_L_of : GoodIn wsL_law (va_wsS RL 48 yL_of wsL_of) := goodIn_app (goodIn_of _ (by decide +kernel)) ggL_law_L_of
set_option maxRecDepth 20000 in
theorem ggL_law_X5_of : GoodIn wsL_law wsX5_of := goodIn_r _ [253, 83, 45, 50, 53, 51, 54, 55, 46, 49, 224, 225, 226, 5, 227, 156, 124, 125, 126, 531, 532, 533, 534, 535, 536, 537, 538, 539, 540, 541, 542, 543, 544, 545, 546, 547, 548, 549, 550, 551, 552, 553, 554, 555, 556, 557, 558, 559, 560, 561, 562, 563, 564, 565] (by decide +kernel) (by decide +kernel)
set_option maxRecDepth 20000 in
theorem gL_law_X5_of : GoodIn wsL_law (wsV RL 53 RX5 yX5_of wsX5_of) := goodIn_app (goodIn_of _ (by decide +kernel)) ggL_law_X5_of
set_option maxRecDepth 20000 in
theorem ggL_law_X5_thrown : GoodIn wsL_law wsX5_thrown := goodIn_r _ [257, 83, 531, 532, 533, 534, 535, 536, 537, 538, 539, 540, 541, 542, 543, 544, 545, 546, 547, 548, 549, 550, 551, 552, 553, 554, 555, 556, 557, 558, 559, 560, 561, 562, 563, 564, 565] (by decide +kernel) (by decide +kernel)
set_option maxRecDepth 20000 in
theorem gL_law_X5_thrown : GoodIn wsL_law (wsV RL 54 RX5 yX5_thrown wsX5_thrown) := goodIn_app (goodIn_of _ (by decide +kernel)) ggL_law_X5_thrown
set_option maxRecDepth 20000 in
theorem ggL_law_X4_duty : GoodIn wsL_law wsX4_duty := goodIn_r _ [261, 25, 135, 136, 2, 137, 262, 263, 264, 93, 94, 95, 96, 16, 265, 266, 267, 113, 268, 144, 149, 108, 109, 269, 270, 271, 272, 147, 148, 521, 522, 523, 524, 525, 526, 527, 528, 529, 530, 574, 575, 576, 577, 578, 579, 580, 581, 582, 583, 584] (by decide +kernel) (by decide +kernel)
set_option maxRecDepth 20000 in
theorem gL_law_X4_duty : GoodIn wsL_law (wsV RL 57 RX4 yX4_duty wsX4_duty) := goodIn_app (goodIn_of _ (by decide +kernel)) ggL_law_X4_duty
set_option maxRecDepth 20000 in
theorem ggL_law_X5_duty : GoodIn wsL_law wsX5_duty := goodIn_r _ [276, 83, 124, 125, 5, 126, 277, 278, 279, 280, 156, 47, 48, 281, 282, 283, 284, 53, 49, 531, 532, 533, 534, 535, 536, 537, 538, 539, 540, 541, 542, 543, 544, 545, 546, 547, 548, 549, 550, 551, 552, 553, 554, 555, 556, 557, 558, 559, 560, 561, 562, 563, 564, 565] (by decide +kernel) (by decide +kernel)
set_option maxRecDepth 20000 in
theorem gL_law_X5_duty : GoodIn wsL_law (wsV RL 60 RX5 yX5_duty wsX5_duty) := goodIn_app (goodIn_of _ (by decide +kernel)) ggL_law_X5_duty
set_option maxRecDepth 20000 in
theorem ggL_law_X4_bare : GoodIn wsL_law wsX4_bare := goodIn_r _ [288, 289, 290, 291, 292, 135, 136, 2, 137, 262, 263, 264, 293, 294, 295, 296, 25, 297, 93, 94, 95, 96, 16, 265, 266, 267, 113, 268, 144, 149, 108, 109, 269, 270, 271, 272, 147, 148, 521, 522, 523, 524, 525, 526, 527, 528, 529, 530, 574, 575, 576, 577, 578, 579, 580, 581, 582, 583, 584] (by decide +kernel) (by decide +kernel)
set_option maxRecDepth 20000 in
theorem gL_law_X4_bare : GoodIn wsL_law (wsV RL 61 RX4 yX4_bare wsX4_bare) := goodIn_app (goodIn_of _ (by decide +kernel)) ggL_law_X4_bare
set_option maxRecDepth 20000 in
theorem ggL_law_X5_bare : GoodIn wsL_law wsX5_bare := goodIn_r _ [301, 83, 124, 125, 5, 126, 277, 278, 279, 280, 156, 47, 48, 281, 282, 283, 284, 53, 49, 531, 532, 533, 534, 535, 536, 537, 538, 539, 540, 541, 542, 543, 544, 545, 546, 547, 548, 549, 550, 551, 552, 553, 554, 555, 556, 557, 558, 559, 560, 561, 562, 563, 564, 565] (by decide +kernel) (by decide +kernel)
set_option maxRecDepth 20000 in
theorem gL_law_X5_bare : GoodIn wsL_law (wsV RL 64 RX5 yX5_bare wsX5_bare) := goodIn_app (goodIn_of _ (by decide +kernel)) ggL_law_X5_bare
set_option maxRecDepth 20000 in
theorem ggL_law_X4_call : GoodIn wsL_law wsX4_call := goodIn_r _ [305, 26, 18, 17, 306, 185, 262, 263, 2, 264, 89, 90, 91, 92, 24, 135, 136, 137, 307, 308, 309, 310, 11, 12, 311, 201, 195, 187, 188, 312, 313, 314, 189, 190, 521, 522, 523, 524, 525, 526, 527, 528, 529, 530, 585, 586, 587, 588, 589, 590, 591, 592, 593] (by decide +kernel) (by decide +kernel)
set_option maxRecDepth 20000 in
theorem gL_law_X4_call : GoodIn wsL_law (wsV RL 65 RX4 yX4_call wsX4_call) := goodIn_app (goodIn_of _ (by decide +kernel)) ggL_law_X4_call
set_option maxRecDepth 20000 in
theorem ggL_law_X5_call : GoodIn wsL_law wsX5_call := goodIn_r _ [318, 83, 206, 57, 58, 59, 60, 61, 124, 125, 5, 126, 120, 121, 122, 123, 84, 531, 532, 533, 534, 535, 536, 537, 538, 539, 540, 541, 542, 543, 544, 545, 546, 547, 548, 549, 550, 551, 552, 553, 554, 555, 556, 557, 558, 559, 560, 561, 562, 563, 564, 565] (by decide +kernel) (by decide +kernel)
set_option maxRecDepth 20000 in
theorem gL_law_X5_call : GoodIn wsL_law (wsV RL 68 RX5 yX5_call wsX5_call) := goodIn_app (goodIn_of _ (by decide +kernel)) ggL_law_X5_call
set_option maxRecDepth 20000 in
theorem ggL_law_X4_best : GoodIn wsL_law wsX4_best := goodIn_r _ [322, 180, 323, 324, 23, 173, 174, 175, 2, 176, 26, 18, 325, 326, 327, 328, 22, 329, 330, 331, 332, 333, 334, 335, 336, 337, 25, 289, 290, 291, 292, 93, 94, 95, 96, 16, 265, 266, 267, 113, 268, 144, 149, 108, 109, 338, 339, 340, 21, 341, 32, 342, 343, 344, 345, 244, 246, 346, 215, 216, 217, 218, 101, 89, 90, 91, 92, 24, 347, 348, 349, 350, 351, 352, 353, 354, 37, 36, 355, 356, 357, 358, 359, 297, 360, 361, 362, 363, 33, 35, 364, 365, 366, 367, 368, 369, 370, 371, 372, 373, 374, 375, 376, 377, 378, 379, 34, 380, 381, 382, 383, 384, 385, 386, 387, 388, 389, 390, 391, 585, 586, 587, 588, 589, 590, 591, 592, 593, 521, 522, 523, 524, 525, 526, 527, 528, 529, 530, 566, 567, 568, 569, 570, 571, 572, 573, 574, 575, 576, 577, 578, 579, 580, 581, 582, 583, 584] (by decide +kernel) (by decide +kernel)
set_option maxRecDepth 20000 in
theorem gL_law_X4_best : GoodIn wsL_law (wsV RL 69 RX4 yX4_best wsX4_best) := goodIn_app (goodIn_of _ (by decide +kernel)) ggL_law_X4_best
set_option maxRecDepth 20000 in
theorem ggL_law_X5_best : GoodIn wsL_law wsX5_best := goodIn_r _ [395, 83, 62, 57, 58, 60, 59, 74, 396, 397, 398, 399, 5, 400, 206, 124, 125, 126, 401, 402, 403, 404, 405, 406, 407, 408, 156, 67, 50, 223, 51, 47, 409, 290, 291, 292, 48, 84, 68, 69, 70, 71, 72, 73, 281, 282, 283, 284, 53, 49, 228, 229, 230, 231, 46, 66, 44, 410, 411, 412, 413, 531, 532, 533, 534, 535, 536, 537, 538, 539, 540, 541, 542, 543, 544, 545, 546, 547, 548, 549, 550, 551, 552, 553, 554, 555, 556, 557, 558, 559, 560, 561, 562, 563, 564, 565] (by decide +kernel) (by decide +kernel)
set_option maxRecDepth 20000 in
theorem gL_law_X5_best : GoodIn wsL_law (wsV RL 72 RX5 yX5_best wsX5_best) := goodIn_app (goodIn_of _ (by decide +kernel)) ggL_law_X5_best
set_option maxRecDepth 20000 in
theorem ggL_law_X4_send : GoodIn wsL_law wsX4_send := goodIn_r _ [417, 180, 323, 324, 28, 173, 174, 175, 2, 176, 26, 18, 325, 326, 327, 328, 22, 329, 330, 331, 332, 23, 333, 334, 335, 336, 337, 25, 289, 290, 291, 292, 93, 94, 95, 96, 16, 265, 266, 267, 113, 268, 144, 149, 108, 109, 338, 339, 340, 21, 341, 32, 342, 343, 344, 345, 244, 246, 346, 215, 216, 217, 218, 101, 89, 90, 91, 92, 24, 347, 348, 349, 350, 351, 352, 353, 354, 37, 36, 355, 356, 357, 358, 359, 297, 360, 361, 362, 363, 33, 35, 364, 365, 366, 367, 368, 369, 370, 371, 372, 373, 374, 375, 376, 377, 378, 379, 34, 380, 381, 382, 383, 384, 385, 386, 387, 388, 389, 390, 391, 418, 419, 420, 421, 422, 423, 424, 425, 426, 427, 428, 27, 247, 248, 429, 430, 431, 432, 11, 12, 433, 434, 435, 436, 437, 438, 439, 440, 441, 442, 443, 185, 444, 195, 201, 445, 446, 447, 448, 449, 450, 192, 193, 194, 196, 197, 198, 199, 200, 585, 586, 587, 588, 589, 590, 591, 592, 593, 521, 522, 523, 524, 525, 526, 527, 528, 529, 530, 566, 567, 568, 569, 570, 571, 572, 573, 574, 575, 576, 577, 578, 579, 580, 581, 582, 583, 584, 594, 595, 596, 597, 598, 599, 600, 601] (by decide +kernel) (by decide +kernel)
set_option maxRecDepth 20000 in
theorem gL_law_X4_send : GoodIn wsL_law (wsV RL 73 RX4 yX4_send wsX4_send) := goodIn_app (goodIn_of _ (by decide +kernel)) ggL_law_X4_send
set_option maxRecDepth 20000 in
theorem ggL_law_X5_send : GoodIn wsL_law wsX5_send := goodIn_r _ [454, 83, 62, 57, 58, 60, 59, 63, 397, 398, 399, 5, 400, 206, 124, 125, 126, 401, 402, 403, 404, 396, 405, 406, 407, 408, 156, 67, 50, 223, 51, 47, 409, 290, 291, 292, 48, 84, 68, 69, 70, 71, 72, 73, 74, 281, 282, 283, 284, 53, 49, 228, 229, 230, 231, 46, 66, 44, 410, 411, 412, 413, 455, 456, 457, 458, 65, 64, 56, 54, 55, 207, 208, 209, 210, 531, 532, 533, 534, 535, 536, 537, 538, 539, 540, 541, 542, 543, 544, 545, 546, 547, 548, 549, 550, 551, 552, 553, 554, 555, 556, 557, 558, 559, 560, 561, 562, 563, 564, 565] (by decide +kernel) (by decide +kernel)
set_option maxRecDepth 20000 in
theorem gL_law_X5_send : GoodIn wsL_law (wsV RL 76 RX5 yX5_send wsX5_send) := goodIn_app (goodIn_of _ (by decide +kernel)) ggL_law_X5_send
set_option maxRecDepth 20000 in
theorem ggL_law_X4_told : GoodIn wsL_law wsX4_told := goodIn_r _ [462, 329, 323, 331, 324, 463, 181, 180, 464, 173, 174, 175, 2, 176, 26, 18, 450, 192, 193, 185, 194, 195, 196, 197, 198, 199, 200, 201, 585, 586, 587, 588, 589, 590, 591, 592, 593, 521, 522, 523, 524, 525, 526, 527, 528, 529, 530, 594, 595, 596, 597, 598, 599, 600, 601] (by decide +kernel) (by decide +kernel)
set_option maxRecDepth 20000 in
theorem gL_law_X4_told : GoodIn wsL_law (wsV RL 77 RX4 yX4_told wsX4_told) := goodIn_app (goodIn_of _ (by decide +kernel)) ggL_law_X4_told
set_option maxRecDepth 20000 in
theorem ggL_law_X5_told : GoodIn wsL_law wsX5_told := goodIn_r _ [468, 83, 57, 58, 59, 60, 61, 62, 65, 397, 398, 399, 5, 400, 206, 124, 125, 126, 207, 208, 209, 210, 64, 531, 532, 533, 534, 535, 536, 537, 538, 539, 540, 541, 542, 543, 544, 545, 546, 547, 548, 549, 550, 551, 552, 553, 554, 555, 556, 557, 558, 559, 560, 561, 562, 563, 564, 565] (by decide +kernel) (by decide +kernel)
set_option maxRecDepth 20000 in
theorem gL_law_X5_told : GoodIn wsL_law (wsV RL 80 RX5 yX5_told wsX5_told) := goodIn_app (goodIn_of _ (by decide +kernel)) ggL_law_X5_told
set_option maxRecDepth 20000 in
theorem ggL_law_X4_leg : GoodIn wsL_law wsX4_leg := goodIn_r _ [472, 473, 474, 475, 476, 477, 478, 173, 174, 175, 2, 176, 26, 18, 479, 198, 199, 185, 200, 195, 201, 594, 595, 596, 597, 598, 599, 600, 601, 521, 522, 523, 524, 525, 526, 527, 528, 529, 530, 585, 586, 587, 588, 589, 590, 591, 592, 593] (by decide +kernel) (by decide +kernel)
set_option maxRecDepth 20000 in
theorem gL_law_X4_leg : GoodIn wsL_law (wsV RL 81 RX4 yX4_leg wsX4_leg) := goodIn_app (goodIn_of _ (by decide +kernel)) ggL_law_X4_leg
set_option maxRecDepth 20000 in
theorem ggL_law_X5_leg : GoodIn wsL_law wsX5_leg := goodIn_r _ [483, 83, 65, 64, 397, 398, 399, 5, 400, 206, 124, 125, 126, 531, 532, 533, 534, 535, 536, 537, 538, 539, 540, 541, 542, 543, 544, 545, 546, 547, 548, 549, 550, 551, 552, 553, 554, 555, 556, 557, 558, 559, 560, 561, 562, 563, 564, 565] (by decide +kernel) (by decide +kernel)
set_option maxRecDepth 20000 in
theorem gL_law_X5_leg : GoodIn wsL_law (wsV RL 84 RX5 yX5_leg wsX5_leg) := goodIn_app (goodIn_of _ (by decide +kernel)) ggL_law_X5_leg
set_option maxRecDepth 20000 in
theorem ggL_law_X4_hand : GoodIn wsL_law wsX4_hand := goodIn_r _ [487, 180, 464, 476, 473, 173, 174, 175, 2, 176, 26, 18, 135, 136, 137, 450, 192, 193, 185, 194, 195, 196, 197, 198, 199, 200, 201, 479, 585, 586, 587, 588, 589, 590, 591, 592, 593, 594, 595, 596, 597, 598, 599, 600, 601, 521, 522, 523, 524, 525, 526, 527, 528, 529, 530] (by decide +kernel) (by decide +kernel)
set_option maxRecDepth 20000 in
theorem gL_law_X4_hand : GoodIn wsL_law (wsV RL 85 RX4 yX4_hand wsX4_hand) := goodIn_app (goodIn_of _ (by decide +kernel)) ggL_law_X4_hand
set_option maxRecDepth 20000 in
theorem ggL_law_X5_hand : GoodIn wsL_law wsX5_hand := goodIn_r _ [491, 83, 62, 65, 64, 397, 398, 399, 5, 400, 206, 124, 125, 126, 207, 208, 209, 210, 531, 532, 533, 534, 535, 536, 537, 538, 539, 540, 541, 542, 543, 544, 545, 546, 547, 548, 549, 550, 551, 552, 553, 554, 555, 556, 557, 558, 559, 560, 561, 562, 563, 564, 565] (by decide +kernel) (by decide +kernel)
set_option maxRecDepth 20000 in
theorem gL_law_X5_hand : GoodIn wsL_law (wsV RL 88 RX5 yX5_hand wsX5_hand) := goodIn_app (goodIn_of _ (by decide +kernel)) ggL_law_X5_hand
set_option maxRecDepth 20000 in
theorem ggL_law_X4_fail : GoodIn wsL_law wsX4_fail := goodIn_r _ [495, 28, 474, 181, 173, 174, 175, 2, 176, 26, 18, 496, 497, 498, 476, 477, 464, 478, 479, 198, 199, 185, 200, 195, 201, 499, 500, 501, 502, 473, 503, 244, 504, 246, 247, 248, 93, 94, 95, 96, 25, 16, 505, 506, 507, 508, 245, 475, 325, 326, 327, 328, 22, 329, 330, 331, 332, 23, 333, 334, 335, 336, 337, 289, 290, 291, 292, 265, 266, 267, 113, 268, 144, 149, 108, 109, 338, 339, 340, 21, 341, 32, 342, 343, 344, 345, 346, 215, 216, 217, 218, 101, 89, 90, 91, 92, 24, 347, 348, 349, 350, 351, 352, 353, 354, 37, 36, 355, 356, 357, 358, 359, 297, 360, 361, 362, 363, 33, 35, 364, 365, 366, 367, 368, 369, 370, 371, 372, 373, 374, 375, 376, 377, 378, 379, 34, 380, 381, 382, 383, 384, 385, 386, 387, 388, 389, 390, 391, 418, 419, 420, 421, 422, 423, 424, 425, 426, 427, 428, 27, 429, 430, 431, 432, 11, 12, 433, 434, 435, 436, 437, 438, 439, 440, 441, 442, 443, 444, 445, 446, 447, 448, 449, 450, 192, 193, 194, 196, 197, 521, 522, 523, 524, 525, 526, 527, 528, 529, 530, 594, 595, 596, 597, 598, 599, 600, 601, 585, 586, 587, 588, 589, 590, 591, 592, 593, 574, 575, 576, 577, 578, 579, 580, 581, 582, 583, 584, 566, 567, 568, 569, 570, 571, 572, 573] (by decide +kernel) (by decide +kernel)
set_option maxRecDepth 20000 in
theorem gL_law_X4_fail : GoodIn wsL_law (wsV RL 89 RX4 yX4_fail wsX4_fail) := goodIn_app (goodIn_of _ (by decide +kernel)) ggL_law_X4_fail
set_option maxRecDepth 20000 in
theorem ggL_law_X5_fail : GoodIn wsL_law wsX5_fail := goodIn_r _ [512, 83, 63, 65, 64, 50, 51, 54, 55, 53, 57, 59, 62, 397, 398, 399, 5, 400, 206, 124, 125, 126, 401, 402, 403, 404, 396, 405, 406, 407, 408, 156, 67, 223, 47, 409, 290, 291, 292, 48, 84, 68, 69, 70, 71, 72, 73, 74, 281, 282, 283, 284, 49, 228, 229, 230, 231, 46, 66, 44, 410, 411, 412, 413, 455, 456, 457, 458, 56, 207, 208, 209, 210, 531, 532, 533, 534, 535, 536, 537, 538, 539, 540, 541, 542, 543, 544, 545, 546, 547, 548, 549, 550, 551, 552, 553, 554, 555, 556, 557, 558, 559, 560, 561, 562, 563, 564, 565] (by decide +kernel) (by decide +kernel)
set_option maxRecDepth 20000 in
theorem gL_law_X5_fail : GoodIn wsL_law (wsV RL 92 RX5 yX5_fail wsX5_fail) := goodIn_app (goodIn_of _ (by decide +kernel)) ggL_law_X5_fail
set_option maxRecDepth 20000 in
theorem ggL_law_X4_next : GoodIn wsL_law wsX4_next := goodIn_r _ [516, 25, 297, 247, 262, 263, 2, 264, 89, 90, 91, 92, 24, 93, 94, 95, 96, 16, 265, 266, 267, 113, 268, 144, 149, 108, 109, 342, 343, 344, 345, 244, 246, 346, 289, 290, 291, 292, 215, 216, 217, 218, 101, 521, 522, 523, 524, 525, 526, 527, 528, 529, 530, 574, 575, 576, 577, 578, 579, 580, 581, 582, 583, 584] (by decide +kernel) (by decide +kernel)
set_option maxRecDepth 20000 in
theorem gL_law_X4_next : GoodIn wsL_law (wsV RL 93 RX4 yX4_next wsX4_next) := goodIn_app (goodIn_of _ (by decide +kernel)) ggL_law_X4_next
set_option maxRecDepth 20000 in
theorem ggL_law_X5_next : GoodIn wsL_law wsX5_next := goodIn_r _ [520, 83, 156, 50, 223, 51, 47, 409, 290, 291, 292, 48, 54, 124, 125, 5, 126, 120, 121, 122, 123, 84, 228, 229, 230, 231, 46, 66, 44, 281, 282, 283, 284, 53, 49, 531, 532, 533, 534, 535, 536, 537, 538, 539, 540, 541, 542, 543, 544, 545, 546, 547, 548, 549, 550, 551, 552, 553, 554, 555, 556, 557, 558, 559, 560, 561, 562, 563, 564, 565] (by decide +kernel) (by decide +kernel)
set_option maxRecDepth 20000 in
theorem gL_law_X5_next : GoodIn wsL_law (wsV RL 96 RX5 yX5_next wsX5_next) := goodIn_app (goodIn_of _ (by decide +kernel)) ggL_law_X5_next
abbrev vwCl : List vw_C := [(RX0, TX0, 8), (RX1, TX1, 8), (RX2, TX2, 9), (RX3, TX3, 11), (RX4, TX4, 10), (RX5, TX5, 35)]

