def RX0 : String := "Warren$Mind"
def TX0 : u_T := fun k => match k with
  | 0 => ("Warren$Mind", "ways", "LWarren$Ways;", true)
  | _ => ("Warren$Mind", "worths", "[I", true)
def tyX0 : Nat → FieldType := fun k => match k with
  | 0 => .object "Warren$Ways"
  | _ => .array .int
abbrev wsX00 : List Cond := u_ws RX0 TX0 2
theorem nmX0 : ∀ a, a < 2 → ∀ b, b < 2 → a ≠ b → (TX0 a).2.1 ≠ (TX0 b).2.1 := by decide +kernel
theorem tyX0_ok : ∀ k, k < 2 → parseFieldDescriptor (TX0 k).2.2.1 = some (tyX0 k) := by decide +kernel
abbrev cX0_init : ByteArray := prog_2_method_1_code
def yX0_init : MethodName := ⟨RX0, "<init>", "()V"⟩
abbrev cX0_wayOf : ByteArray := prog_2_method_2_code
def yX0_wayOf : MethodName := ⟨RX0, "wayOf", "(LWarren$State;II)I"⟩
abbrev cX0_weigh : ByteArray := prog_2_method_3_code
def yX0_weigh : MethodName := ⟨RX0, "weigh", "(LWarren$State;I)V"⟩
abbrev cX0_worthOf : ByteArray := prog_2_method_4_code
def yX0_worthOf : MethodName := ⟨RX0, "worthOf", "(I)I"⟩
abbrev cX0_best : ByteArray := prog_2_method_5_code
def yX0_best : MethodName := ⟨RX0, "best", "()I"⟩
abbrev cX0_worthIfPossible : ByteArray := prog_2_method_6_code
def yX0_worthIfPossible : MethodName := ⟨RX0, "worthIfPossible", "(LWarren$State;III)I"⟩
abbrev cX0_worthOfGuard : ByteArray := prog_2_method_7_code
def yX0_worthOfGuard : MethodName := ⟨RX0, "worthOfGuard", "(LWarren$State;I)I"⟩
abbrev cX0_worthOfGo : ByteArray := prog_2_method_8_code
def yX0_worthOfGo : MethodName := ⟨RX0, "worthOfGo", "(LWarren$State;II)I"⟩
def RX1 : String := "Warren$Rules"
def TX1 : u_T := fun k => match k with
  | _ => ("", "", "", false)
def tyX1 : Nat → FieldType := fun k => match k with
  | _ => .int
abbrev wsX10 : List Cond := u_ws RX1 TX1 0
theorem nmX1 : ∀ a, a < 0 → ∀ b, b < 0 → a ≠ b → (TX1 a).2.1 ≠ (TX1 b).2.1 := by decide +kernel
theorem tyX1_ok : ∀ k, k < 0 → parseFieldDescriptor (TX1 k).2.2.1 = some (tyX1 k) := by decide +kernel
abbrev cX1_isPossible : ByteArray := prog_3_method_2_code
def yX1_isPossible : MethodName := ⟨RX1, "isPossible", "(LWarren$State;II)Z"⟩
abbrev cX1_canGo : ByteArray := prog_3_method_3_code
def yX1_canGo : MethodName := ⟨RX1, "canGo", "(LWarren$State;II)Z"⟩
abbrev cX1_cellTowards : ByteArray := prog_3_method_4_code
def yX1_cellTowards : MethodName := ⟨RX1, "cellTowards", "(LWarren$State;II)I"⟩
abbrev cX1_perform : ByteArray := prog_3_method_5_code
def yX1_perform : MethodName := ⟨RX1, "perform", "(LWarren$State;II)I"⟩
abbrev cX1_go : ByteArray := prog_3_method_6_code
def yX1_go : MethodName := ⟨RX1, "go", "(LWarren$State;II)I"⟩
abbrev cX1_conjure : ByteArray := prog_3_method_7_code
def yX1_conjure : MethodName := ⟨RX1, "conjure", "(LWarren$State;II)V"⟩
abbrev cX1_wearOff : ByteArray := prog_3_method_8_code
def yX1_wearOff : MethodName := ⟨RX1, "wearOff", "(LWarren$State;I)V"⟩
abbrev cX1_passTime : ByteArray := prog_3_method_9_code
def yX1_passTime : MethodName := ⟨RX1, "passTime", "(LWarren$State;IZ)V"⟩
def RX2 : String := "Warren$State"
def TX2 : u_T := fun k => match k with
  | 0 => ("Warren$State", "kinds", "[I", true)
  | 1 => ("Warren$State", "known", "[I", true)
  | 2 => ("Warren$State", "traits", "[I", true)
  | 3 => ("Warren$State", "stacks", "[I", true)
  | 4 => ("Warren$State", "turns", "[I", true)
  | 5 => ("Warren$State", "beings", "I", false)
  | 6 => ("Warren$State", "actions", "I", false)
  | _ => ("Warren$State", "hits", "I", false)
def tyX2 : Nat → FieldType := fun k => match k with
  | 0 => .array .int
  | 1 => .array .int
  | 2 => .array .int
  | 3 => .array .int
  | 4 => .array .int
  | 5 => .int
  | 6 => .int
  | _ => .int
abbrev wsX20 : List Cond := u_ws RX2 TX2 8
theorem nmX2 : ∀ a, a < 8 → ∀ b, b < 8 → a ≠ b → (TX2 a).2.1 ≠ (TX2 b).2.1 := by decide +kernel
theorem tyX2_ok : ∀ k, k < 8 → parseFieldDescriptor (TX2 k).2.2.1 = some (tyX2 k) := by decide +kernel
abbrev cX2_init : ByteArray := prog_4_method_1_code
def yX2_init : MethodName := ⟨RX2, "<init>", "()V"⟩
abbrev cX2_copyFrom : ByteArray := prog_4_method_2_code
def yX2_copyFrom : MethodName := ⟨RX2, "copyFrom", "(LWarren$State;)V"⟩
abbrev cX2_kindAt : ByteArray := prog_4_method_3_code
def yX2_kindAt : MethodName := ⟨RX2, "kindAt", "(I)I"⟩
abbrev cX2_putKind : ByteArray := prog_4_method_4_code
def yX2_putKind : MethodName := ⟨RX2, "putKind", "(II)V"⟩
abbrev cX2_digRoom : ByteArray := prog_4_method_5_code
def yX2_digRoom : MethodName := ⟨RX2, "digRoom", "(IIII)I"⟩
abbrev cX2_apart : ByteArray := prog_4_method_6_code
def yX2_apart : MethodName := ⟨RX2, "apart", "(II)I"⟩
abbrev cX2_nearest : ByteArray := prog_4_method_7_code
def yX2_nearest : MethodName := ⟨RX2, "nearest", "(II)I"⟩
abbrev cX2_isSeenFrom : ByteArray := prog_4_method_8_code
def yX2_isSeenFrom : MethodName := ⟨RX2, "isSeenFrom", "(II)Z"⟩
abbrev cX2_isKnown : ByteArray := prog_4_method_9_code
def yX2_isKnown : MethodName := ⟨RX2, "isKnown", "(II)Z"⟩
abbrev cX2_knownCells : ByteArray := prog_4_method_10_code
def yX2_knownCells : MethodName := ⟨RX2, "knownCells", "(I)I"⟩
abbrev cX2_look : ByteArray := prog_4_method_11_code
def yX2_look : MethodName := ⟨RX2, "look", "(I)V"⟩
abbrev cX2_isBeing : ByteArray := prog_4_method_12_code
def yX2_isBeing : MethodName := ⟨RX2, "isBeing", "(I)Z"⟩
abbrev cX2_hasRoom : ByteArray := prog_4_method_13_code
def yX2_hasRoom : MethodName := ⟨RX2, "hasRoom", "()Z"⟩
abbrev cX2_trait : ByteArray := prog_4_method_14_code
def yX2_trait : MethodName := ⟨RX2, "trait", "(II)I"⟩
abbrev cX2_putTrait : ByteArray := prog_4_method_15_code
def yX2_putTrait : MethodName := ⟨RX2, "putTrait", "(III)V"⟩
abbrev cX2_stackOf : ByteArray := prog_4_method_16_code
def yX2_stackOf : MethodName := ⟨RX2, "stackOf", "(II)I"⟩
abbrev cX2_turnsOf : ByteArray := prog_4_method_17_code
def yX2_turnsOf : MethodName := ⟨RX2, "turnsOf", "(II)I"⟩
abbrev cX2_putEffect : ByteArray := prog_4_method_18_code
def yX2_putEffect : MethodName := ⟨RX2, "putEffect", "(IIII)V"⟩
abbrev cX2_addEffect : ByteArray := prog_4_method_19_code
def yX2_addEffect : MethodName := ⟨RX2, "addEffect", "(IIII)V"⟩
abbrev cX2_addBeing : ByteArray := prog_4_method_20_code
def yX2_addBeing : MethodName := ⟨RX2, "addBeing", "(III)I"⟩
abbrev cX2_isAlive : ByteArray := prog_4_method_21_code
def yX2_isAlive : MethodName := ⟨RX2, "isAlive", "(I)Z"⟩
abbrev cX2_isAfraid : ByteArray := prog_4_method_22_code
def yX2_isAfraid : MethodName := ⟨RX2, "isAfraid", "(I)Z"⟩
abbrev cX2_whoIsOn : ByteArray := prog_4_method_23_code
def yX2_whoIsOn : MethodName := ⟨RX2, "whoIsOn", "(I)I"⟩
abbrev cX2_living : ByteArray := prog_4_method_24_code
def yX2_living : MethodName := ⟨RX2, "living", "(I)I"⟩
abbrev cX2_lifeOf : ByteArray := prog_4_method_25_code
def yX2_lifeOf : MethodName := ⟨RX2, "lifeOf", "(I)I"⟩
abbrev cX2_whoseTurn : ByteArray := prog_4_method_26_code
def yX2_whoseTurn : MethodName := ⟨RX2, "whoseTurn", "()I"⟩
abbrev cX2_isFoe : ByteArray := prog_4_method_27_code
def yX2_isFoe : MethodName := ⟨RX2, "isFoe", "(II)Z"⟩
abbrev cX2_targetOf : ByteArray := prog_4_method_28_code
def yX2_targetOf : MethodName := ⟨RX2, "targetOf", "(I)I"⟩
abbrev cX2_firstFoe : ByteArray := prog_4_method_29_code
def yX2_firstFoe : MethodName := ⟨RX2, "firstFoe", "(I)I"⟩
abbrev cX2_hasFoeBeside : ByteArray := prog_4_method_30_code
def yX2_hasFoeBeside : MethodName := ⟨RX2, "hasFoeBeside", "(I)Z"⟩
abbrev cX2_watchersOf : ByteArray := prog_4_method_31_code
def yX2_watchersOf : MethodName := ⟨RX2, "watchersOf", "(II)I"⟩
abbrev cX2_hitOf : ByteArray := prog_4_method_32_code
def yX2_hitOf : MethodName := ⟨RX2, "hitOf", "(II)I"⟩
abbrev cX2_takeLife : ByteArray := prog_4_method_33_code
def yX2_takeLife : MethodName := ⟨RX2, "takeLife", "(II)I"⟩
def RX3 : String := "Warren$Ways"
def TX3 : u_T := fun k => match k with
  | 0 => ("Warren$Ways", "lengths", "[I", true)
  | 1 => ("Warren$Ways", "queue", "[I", true)
  | _ => ("Warren$Ways", "queued", "I", false)
def tyX3 : Nat → FieldType := fun k => match k with
  | 0 => .array .int
  | 1 => .array .int
  | _ => .int
abbrev wsX30 : List Cond := u_ws RX3 TX3 3
theorem nmX3 : ∀ a, a < 3 → ∀ b, b < 3 → a ≠ b → (TX3 a).2.1 ≠ (TX3 b).2.1 := by decide +kernel
theorem tyX3_ok : ∀ k, k < 3 → parseFieldDescriptor (TX3 k).2.2.1 = some (tyX3 k) := by decide +kernel
abbrev cX3_init : ByteArray := prog_5_method_1_code
def yX3_init : MethodName := ⟨RX3, "<init>", "()V"⟩
abbrev cX3_measure : ByteArray := prog_5_method_2_code
def yX3_measure : MethodName := ⟨RX3, "measure", "(LWarren$State;II)V"⟩
abbrev cX3_from : ByteArray := prog_5_method_3_code
def yX3_from : MethodName := ⟨RX3, "from", "(I)I"⟩
abbrev cX3_spread : ByteArray := prog_5_method_4_code
def yX3_spread : MethodName := ⟨RX3, "spread", "(LWarren$State;)V"⟩
abbrev cX3_reachAround : ByteArray := prog_5_method_5_code
def yX3_reachAround : MethodName := ⟨RX3, "reachAround", "(LWarren$State;II)V"⟩
abbrev cX3_enqueue : ByteArray := prog_5_method_6_code
def yX3_enqueue : MethodName := ⟨RX3, "enqueue", "(I)V"⟩
abbrev cX3_lengthAt : ByteArray := prog_5_method_7_code
def yX3_lengthAt : MethodName := ⟨RX3, "lengthAt", "(I)I"⟩
abbrev cX3_putLength : ByteArray := prog_5_method_8_code
def yX3_putLength : MethodName := ⟨RX3, "putLength", "(II)V"⟩
def RX4 : String := "Warren"
def TX4 : u_T := fun k => match k with
  | 0 => ("Warren", "state", "LWarren$State;", false)
  | 1 => ("Warren", "trial", "LWarren$State;", true)
  | 2 => ("Warren", "saved", "Ljava/util/List;", true)
  | _ => ("Warren", "mind", "LWarren$Mind;", true)
def tyX4 : Nat → FieldType := fun k => match k with
  | 0 => .object "Warren$State"
  | 1 => .object "Warren$State"
  | 2 => .object "java/util/List"
  | _ => .object "Warren$Mind"
abbrev wsX40 : List Cond := u_ws RX4 TX4 4
theorem nmX4 : ∀ a, a < 4 → ∀ b, b < 4 → a ≠ b → (TX4 a).2.1 ≠ (TX4 b).2.1 := by decide +kernel
theorem tyX4_ok : ∀ k, k < 4 → parseFieldDescriptor (TX4 k).2.2.1 = some (tyX4 k) := by decide +kernel
abbrev cX4_init : ByteArray := prog_1_method_1_code
def yX4_init : MethodName := ⟨RX4, "<init>", "()V"⟩
abbrev cX4_dig : ByteArray := prog_1_method_2_code
def yX4_dig : MethodName := ⟨RX4, "dig", "(IIII)I"⟩
abbrev cX4_set : ByteArray := prog_1_method_3_code
def yX4_set : MethodName := ⟨RX4, "set", "(II)I"⟩
abbrev cX4_cell : ByteArray := prog_1_method_4_code
def yX4_cell : MethodName := ⟨RX4, "cell", "(I)I"⟩
abbrev cX4_on : ByteArray := prog_1_method_5_code
def yX4_on : MethodName := ⟨RX4, "on", "(I)I"⟩
abbrev cX4_sees : ByteArray := prog_1_method_6_code
def yX4_sees : MethodName := ⟨RX4, "sees", "(II)Z"⟩
abbrev cX4_come : ByteArray := prog_1_method_8_code
def yX4_come : MethodName := ⟨RX4, "come", "(III)I"⟩
abbrev cX4_become : ByteArray := prog_1_method_9_code
def yX4_become : MethodName := ⟨RX4, "become", "(IIII)I"⟩
abbrev cX4_lay : ByteArray := prog_1_method_10_code
def yX4_lay : MethodName := ⟨RX4, "lay", "(IIII)I"⟩
abbrev cX4_of : ByteArray := prog_1_method_11_code
def yX4_of : MethodName := ⟨RX4, "of", "(II)I"⟩
abbrev cX4_effect : ByteArray := prog_1_method_12_code
def yX4_effect : MethodName := ⟨RX4, "effect", "(IIZ)I"⟩
abbrev cX4_many : ByteArray := prog_1_method_13_code
def yX4_many : MethodName := ⟨RX4, "many", "(I)I"⟩
abbrev cX4_act : ByteArray := prog_1_method_14_code
def yX4_act : MethodName := ⟨RX4, "act", "(I)I"⟩
abbrev cX4_follow : ByteArray := prog_1_method_15_code
def yX4_follow : MethodName := ⟨RX4, "follow", "(I)I"⟩
abbrev cX4_target : ByteArray := prog_1_method_16_code
def yX4_target : MethodName := ⟨RX4, "target", "(I)I"⟩
abbrev cX4_way : ByteArray := prog_1_method_17_code
def yX4_way : MethodName := ⟨RX4, "way", "(II)I"⟩
abbrev cX4_worth : ByteArray := prog_1_method_18_code
def yX4_worth : MethodName := ⟨RX4, "worth", "(II)I"⟩
abbrev cX4_plan : ByteArray := prog_1_method_19_code
def yX4_plan : MethodName := ⟨RX4, "plan", "(I)I"⟩
abbrev cX4_save : ByteArray := prog_1_method_20_code
def yX4_save : MethodName := ⟨RX4, "save", "()I"⟩
abbrev cX4_load : ByteArray := prog_1_method_21_code
def yX4_load : MethodName := ⟨RX4, "load", "(I)I"⟩
abbrev cX4_hit : ByteArray := prog_1_method_22_code
def yX4_hit : MethodName := ⟨RX4, "hit", "(II)I"⟩
abbrev cX4_ahead : ByteArray := prog_1_method_23_code
def yX4_ahead : MethodName := ⟨RX4, "ahead", "(I)I"⟩
abbrev cX4_danger : ByteArray := prog_1_method_24_code
def yX4_danger : MethodName := ⟨RX4, "danger", "(II)I"⟩
abbrev cX4_meanLife : ByteArray := prog_1_method_25_code
def yX4_meanLife : MethodName := ⟨RX4, "meanLife", "()D"⟩
abbrev cX4_digest : ByteArray := prog_1_method_26_code
def yX4_digest : MethodName := ⟨RX4, "digest", "()J"⟩
abbrev cX4_isWithin : ByteArray := prog_1_method_27_code
def yX4_isWithin : MethodName := ⟨RX4, "isWithin", "(III)Z"⟩
abbrev cX4_isCell : ByteArray := prog_1_method_28_code
def yX4_isCell : MethodName := ⟨RX4, "isCell", "(I)Z"⟩
abbrev cX4_isSide : ByteArray := prog_1_method_29_code
def yX4_isSide : MethodName := ⟨RX4, "isSide", "(I)Z"⟩
abbrev cX4_isEdge : ByteArray := prog_1_method_30_code
def yX4_isEdge : MethodName := ⟨RX4, "isEdge", "(I)Z"⟩
abbrev cX4_stopsSight : ByteArray := prog_1_method_31_code
def yX4_stopsSight : MethodName := ⟨RX4, "stopsSight", "(I)Z"⟩
abbrev cX4_answerOf : ByteArray := prog_1_method_32_code
def yX4_answerOf : MethodName := ⟨RX4, "answerOf", "(II)I"⟩
abbrev cX4_countOf : ByteArray := prog_1_method_33_code
def yX4_countOf : MethodName := ⟨RX4, "countOf", "(I)I"⟩
abbrev cX4_play : ByteArray := prog_1_method_34_code
def yX4_play : MethodName := ⟨RX4, "play", "(I)I"⟩
abbrev cX4_digestOf : ByteArray := prog_1_method_35_code
def yX4_digestOf : MethodName := ⟨RX4, "digestOf", "(JI)J"⟩
def RX5 : String := "WarrenLaw$Den"
def TX5 : u_T := fun k => match k with
  | 0 => ("WarrenLaw$Den", "m", "LWarren;", true)
  | 1 => ("WarrenLaw$Den", "s", "[I", true)
  | 2 => ("WarrenLaw$Den", "draws", "I", false)
  | 3 => ("WarrenLaw$Den", "kinds", "[I", false)
  | 4 => ("WarrenLaw$Den", "known", "[[Z", false)
  | 5 => ("WarrenLaw$Den", "beings", "[[I", false)
  | 6 => ("WarrenLaw$Den", "actions", "I", false)
  | _ => ("WarrenLaw$Den", "hits", "I", false)
def tyX5 : Nat → FieldType := fun k => match k with
  | 0 => .object "Warren"
  | 1 => .array .int
  | 2 => .int
  | 3 => .array .int
  | 4 => .array (.array .boolean)
  | 5 => .array (.array .int)
  | 6 => .int
  | _ => .int
abbrev wsX50 : List Cond := u_ws RX5 TX5 8
theorem nmX5 : ∀ a, a < 8 → ∀ b, b < 8 → a ≠ b → (TX5 a).2.1 ≠ (TX5 b).2.1 := by decide +kernel
theorem tyX5_ok : ∀ k, k < 8 → parseFieldDescriptor (TX5 k).2.2.1 = some (tyX5 k) := by decide +kernel
abbrev cX5_init : ByteArray := prog_7_method_1_code
def yX5_init : MethodName := ⟨RX5, "<init>", "([II)V"⟩
abbrev cX5_draw : ByteArray := prog_7_method_2_code
def yX5_draw : MethodName := ⟨RX5, "draw", "(I)I"⟩
abbrev cX5_isEdge : ByteArray := prog_7_method_3_code
def yX5_isEdge : MethodName := ⟨RX5, "isEdge", "(I)Z"⟩
abbrev cX5_on : ByteArray := prog_7_method_4_code
def yX5_on : MethodName := ⟨RX5, "on", "(I)I"⟩
abbrev cX5_dig : ByteArray := prog_7_method_5_code
def yX5_dig : MethodName := ⟨RX5, "dig", "()Z"⟩
abbrev cX5_set : ByteArray := prog_7_method_6_code
def yX5_set : MethodName := ⟨RX5, "set", "()Z"⟩
abbrev cX5_apart : ByteArray := prog_7_method_7_code
def yX5_apart : MethodName := ⟨RX5, "apart", "(II)I"⟩
abbrev cX5_nearest : ByteArray := prog_7_method_8_code
def yX5_nearest : MethodName := ⟨RX5, "nearest", "(II)I"⟩
abbrev cX5_sees : ByteArray := prog_7_method_9_code
def yX5_sees : MethodName := ⟨RX5, "sees", "(II)Z"⟩
abbrev cX5_look : ByteArray := prog_7_method_10_code
def yX5_look : MethodName := ⟨RX5, "look", "(I)V"⟩
abbrev cX5_turn : ByteArray := prog_7_method_11_code
def yX5_turn : MethodName := ⟨RX5, "turn", "()I"⟩
abbrev cX5_come : ByteArray := prog_7_method_13_code
def yX5_come : MethodName := ⟨RX5, "come", "()Z"⟩
abbrev cX5_become : ByteArray := prog_7_method_14_code
def yX5_become : MethodName := ⟨RX5, "become", "()Z"⟩
abbrev cX5_comeOn : ByteArray := prog_7_method_15_code
def yX5_comeOn : MethodName := ⟨RX5, "comeOn", "([IIII)V"⟩
abbrev cX5_lay : ByteArray := prog_7_method_16_code
def yX5_lay : MethodName := ⟨RX5, "lay", "()Z"⟩
abbrev cX5_target : ByteArray := prog_7_method_17_code
def yX5_target : MethodName := ⟨RX5, "target", "(I)I"⟩
abbrev cX5_step : ByteArray := prog_7_method_18_code
def yX5_step : MethodName := ⟨RX5, "step", "(I)I"⟩
abbrev cX5_isPossible : ByteArray := prog_7_method_19_code
def yX5_isPossible : MethodName := ⟨RX5, "isPossible", "(II)Z"⟩
abbrev cX5_hit : ByteArray := prog_7_method_20_code
def yX5_hit : MethodName := ⟨RX5, "hit", "(II)I"⟩
abbrev cX5_lose : ByteArray := prog_7_method_21_code
def yX5_lose : MethodName := ⟨RX5, "lose", "([II)V"⟩
abbrev cX5_act : ByteArray := prog_7_method_22_code
def yX5_act : MethodName := ⟨RX5, "act", "(II)I"⟩
abbrev cX5_found : ByteArray := prog_7_method_27_code
def yX5_found : MethodName := ⟨RX5, "found", "(I)Z"⟩
abbrev cX5_step_ : ByteArray := prog_7_method_28_code
def yX5_step_ : MethodName := ⟨RX5, "step", "()Z"⟩
def RX6 : String := "WarrenModel"
def TX6 : u_T := fun k => match k with
  | _ => ("", "", "", false)
def tyX6 : Nat → FieldType := fun k => match k with
  | _ => .int
abbrev wsX60 : List Cond := u_ws RX6 TX6 0
theorem nmX6 : ∀ a, a < 0 → ∀ b, b < 0 → a ≠ b → (TX6 a).2.1 ≠ (TX6 b).2.1 := by decide +kernel
theorem tyX6_ok : ∀ k, k < 0 → parseFieldDescriptor (TX6 k).2.2.1 = some (tyX6 k) := by decide +kernel
def RJx145de : String := "java/io/Serializable"
def TJx145de : u_T := fun k => match k with
  | _ => ("", "", "", false)
def tyJx145de : Nat → FieldType := fun k => match k with
  | _ => .int
abbrev wsJx145de0 : List Cond := u_ws RJx145de TJx145de 0
theorem nmJx145de : ∀ a, a < 0 → ∀ b, b < 0 → a ≠ b → (TJx145de a).2.1 ≠ (TJx145de b).2.1 := by decide +kernel
theorem tyJx145de_ok : ∀ k, k < 0 → parseFieldDescriptor (TJx145de k).2.2.1 = some (tyJx145de k) := by decide +kernel
def RJx8e188 : String := "java/lang/Cloneable"
def TJx8e188 : u_T := fun k => match k with
  | _ => ("", "", "", false)
def tyJx8e188 : Nat → FieldType := fun k => match k with
  | _ => .int
abbrev wsJx8e1880 : List Cond := u_ws RJx8e188 TJx8e188 0
theorem nmJx8e188 : ∀ a, a < 0 → ∀ b, b < 0 → a ≠ b → (TJx8e188 a).2.1 ≠ (TJx8e188 b).2.1 := by decide +kernel
theorem tyJx8e188_ok : ∀ k, k < 0 → parseFieldDescriptor (TJx8e188 k).2.2.1 = some (tyJx8e188 k) := by decide +kernel
def RJxab1ab : String := "java/lang/Iterable"
def TJxab1ab : u_T := fun k => match k with
  | _ => ("", "", "", false)
def tyJxab1ab : Nat → FieldType := fun k => match k with
  | _ => .int
abbrev wsJxab1ab0 : List Cond := u_ws RJxab1ab TJxab1ab 0
theorem nmJxab1ab : ∀ a, a < 0 → ∀ b, b < 0 → a ≠ b → (TJxab1ab a).2.1 ≠ (TJxab1ab b).2.1 := by decide +kernel
theorem tyJxab1ab_ok : ∀ k, k < 0 → parseFieldDescriptor (TJxab1ab k).2.2.1 = some (tyJxab1ab k) := by decide +kernel
def RJ9 : String := "java/lang/Math"
def TJ9 : u_T := fun k => match k with
  | _ => ("", "", "", false)
def tyJ9 : Nat → FieldType := fun k => match k with
  | _ => .int
abbrev wsJ90 : List Cond := u_ws RJ9 TJ9 0
theorem nmJ9 : ∀ a, a < 0 → ∀ b, b < 0 → a ≠ b → (TJ9 a).2.1 ≠ (TJ9 b).2.1 := by decide +kernel
theorem tyJ9_ok : ∀ k, k < 0 → parseFieldDescriptor (TJ9 k).2.2.1 = some (tyJ9 k) := by decide +kernel
abbrev cJ9_floorDiv_7cf53 : ByteArray := prog_16_method_47_code
def yJ9_floorDiv_7cf53 : MethodName := ⟨RJ9, "floorDiv", "(II)I"⟩
abbrev cJ9_abs_0f7a4 : ByteArray := prog_16_method_59_code
def yJ9_abs_0f7a4 : MethodName := ⟨RJ9, "abs", "(I)I"⟩
abbrev cJ9_max_7cf53 : ByteArray := prog_16_method_65_code
def yJ9_max_7cf53 : MethodName := ⟨RJ9, "max", "(II)I"⟩
abbrev cJ9_min_7cf53 : ByteArray := prog_16_method_69_code
def yJ9_min_7cf53 : MethodName := ⟨RJ9, "min", "(II)I"⟩
def RJ0 : String := "java/lang/String"
def TJ0 : u_T := fun k => match k with
  | _ => ("", "", "", false)
def tyJ0 : Nat → FieldType := fun k => match k with
  | _ => .int
abbrev wsJ00 : List Cond := u_ws RJ0 TJ0 0
theorem nmJ0 : ∀ a, a < 0 → ∀ b, b < 0 → a ≠ b → (TJ0 a).2.1 ≠ (TJ0 b).2.1 := by decide +kernel
theorem tyJ0_ok : ∀ k, k < 0 → parseFieldDescriptor (TJ0 k).2.2.1 = some (tyJ0 k) := by decide +kernel
def RJ10 : String := "java/lang/System"
def TJ10 : u_T := fun k => match k with
  | _ => ("", "", "", false)
def tyJ10 : Nat → FieldType := fun k => match k with
  | _ => .int
abbrev wsJ100 : List Cond := u_ws RJ10 TJ10 0
theorem nmJ10 : ∀ a, a < 0 → ∀ b, b < 0 → a ≠ b → (TJ10 a).2.1 ≠ (TJ10 b).2.1 := by decide +kernel
theorem tyJ10_ok : ∀ k, k < 0 → parseFieldDescriptor (TJ10 k).2.2.1 = some (tyJ10 k) := by decide +kernel
def RJxa1e45 : String := "java/util/AbstractCollection"
def TJxa1e45 : u_T := fun k => match k with
  | _ => ("", "", "", false)
def tyJxa1e45 : Nat → FieldType := fun k => match k with
  | _ => .int
abbrev wsJxa1e450 : List Cond := u_ws RJxa1e45 TJxa1e45 0
theorem nmJxa1e45 : ∀ a, a < 0 → ∀ b, b < 0 → a ≠ b → (TJxa1e45 a).2.1 ≠ (TJxa1e45 b).2.1 := by decide +kernel
theorem tyJxa1e45_ok : ∀ k, k < 0 → parseFieldDescriptor (TJxa1e45 k).2.2.1 = some (tyJxa1e45 k) := by decide +kernel
abbrev cJxa1e45_init_da8c8 : ByteArray := prog_21_method_1_code
def yJxa1e45_init_da8c8 : MethodName := ⟨RJxa1e45, "<init>", "()V"⟩
def RJxc12de : String := "java/util/AbstractList"
def TJxc12de : u_T := fun k => match k with
  | _ => ("", "", "", false)
def tyJxc12de : Nat → FieldType := fun k => match k with
  | _ => .int
abbrev wsJxc12de0 : List Cond := u_ws RJxc12de TJxc12de 0
theorem nmJxc12de : ∀ a, a < 0 → ∀ b, b < 0 → a ≠ b → (TJxc12de a).2.1 ≠ (TJxc12de b).2.1 := by decide +kernel
theorem tyJxc12de_ok : ∀ k, k < 0 → parseFieldDescriptor (TJxc12de k).2.2.1 = some (tyJxc12de k) := by decide +kernel
abbrev cJxc12de_init_da8c8 : ByteArray := prog_22_method_1_code
def yJxc12de_init_da8c8 : MethodName := ⟨RJxc12de, "<init>", "()V"⟩
def RJx4a65c : String := "java/util/ArrayList"
def TJx4a65c : u_T := fun k => match k with
  | 0 => ("java/util/AbstractList", "modCount", "I", false)
  | 1 => ("java/util/ArrayList", "elementData", "[Ljava/lang/Object;", false)
  | _ => ("java/util/ArrayList", "size", "I", false)
def tyJx4a65c : Nat → FieldType := fun k => match k with
  | 0 => .int
  | 1 => .array (.object "java/lang/Object")
  | _ => .int
abbrev wsJx4a65c0 : List Cond := u_ws RJx4a65c TJx4a65c 3
theorem nmJx4a65c : ∀ a, a < 3 → ∀ b, b < 3 → a ≠ b → (TJx4a65c a).2.1 ≠ (TJx4a65c b).2.1 := by decide +kernel
theorem tyJx4a65c_ok : ∀ k, k < 3 → parseFieldDescriptor (TJx4a65c k).2.2.1 = some (tyJx4a65c k) := by decide +kernel
abbrev cJx4a65c_init_da8c8 : ByteArray := prog_23_method_2_code
def yJx4a65c_init_da8c8 : MethodName := ⟨RJx4a65c, "<init>", "()V"⟩
abbrev cJx4a65c_grow_92f84 : ByteArray := prog_23_method_6_code
def yJx4a65c_grow_92f84 : MethodName := ⟨RJx4a65c, "grow", "(I)[Ljava/lang/Object;"⟩
abbrev cJx4a65c_grow_d5877 : ByteArray := prog_23_method_7_code
def yJx4a65c_grow_d5877 : MethodName := ⟨RJx4a65c, "grow", "()[Ljava/lang/Object;"⟩
abbrev cJx4a65c_size_8abf5 : ByteArray := prog_23_method_8_code
def yJx4a65c_size_8abf5 : MethodName := ⟨RJx4a65c, "size", "()I"⟩
abbrev cJx4a65c_elementData_915e3 : ByteArray := prog_23_method_18_code
def yJx4a65c_elementData_915e3 : MethodName := ⟨RJx4a65c, "elementData", "(I)Ljava/lang/Object;"⟩
abbrev cJx4a65c_get_915e3 : ByteArray := prog_23_method_20_code
def yJx4a65c_get_915e3 : MethodName := ⟨RJx4a65c, "get", "(I)Ljava/lang/Object;"⟩
abbrev cJx4a65c_add_72be8 : ByteArray := prog_23_method_24_code
def yJx4a65c_add_72be8 : MethodName := ⟨RJx4a65c, "add", "(Ljava/lang/Object;[Ljava/lang/Object;I)V"⟩
abbrev cJx4a65c_add_9ea2d : ByteArray := prog_23_method_25_code
def yJx4a65c_add_9ea2d : MethodName := ⟨RJx4a65c, "add", "(Ljava/lang/Object;)Z"⟩
def RJ7 : String := "java/util/Arrays"
def TJ7 : u_T := fun k => match k with
  | _ => ("", "", "", false)
def tyJ7 : Nat → FieldType := fun k => match k with
  | _ => .int
abbrev wsJ70 : List Cond := u_ws RJ7 TJ7 0
theorem nmJ7 : ∀ a, a < 0 → ∀ b, b < 0 → a ≠ b → (TJ7 a).2.1 ≠ (TJ7 b).2.1 := by decide +kernel
theorem tyJ7_ok : ∀ k, k < 0 → parseFieldDescriptor (TJ7 k).2.2.1 = some (tyJ7 k) := by decide +kernel
abbrev cJ7_fill_53178 : ByteArray := prog_24_method_103_code
def yJ7_fill_53178 : MethodName := ⟨RJ7, "fill", "([II)V"⟩
abbrev cJ7_copyOf_1904c : ByteArray := prog_24_method_119_code
def yJ7_copyOf_1904c : MethodName := ⟨RJ7, "copyOf", "([Ljava/lang/Object;I)[Ljava/lang/Object;"⟩
abbrev cJ7_copyOf_6403c : ByteArray := prog_24_method_120_code
def yJ7_copyOf_6403c : MethodName := ⟨RJ7, "copyOf", "([Ljava/lang/Object;ILjava/lang/Class;)[Ljava/lang/Object;"⟩
def RJx5ef63 : String := "java/util/Collection"
def TJx5ef63 : u_T := fun k => match k with
  | _ => ("", "", "", false)
def tyJx5ef63 : Nat → FieldType := fun k => match k with
  | _ => .int
abbrev wsJx5ef630 : List Cond := u_ws RJx5ef63 TJx5ef63 0
theorem nmJx5ef63 : ∀ a, a < 0 → ∀ b, b < 0 → a ≠ b → (TJx5ef63 a).2.1 ≠ (TJx5ef63 b).2.1 := by decide +kernel
theorem tyJx5ef63_ok : ∀ k, k < 0 → parseFieldDescriptor (TJx5ef63 k).2.2.1 = some (tyJx5ef63 k) := by decide +kernel
def RJxbd725 : String := "java/util/List"
def TJxbd725 : u_T := fun k => match k with
  | _ => ("", "", "", false)
def tyJxbd725 : Nat → FieldType := fun k => match k with
  | _ => .int
abbrev wsJxbd7250 : List Cond := u_ws RJxbd725 TJxbd725 0
theorem nmJxbd725 : ∀ a, a < 0 → ∀ b, b < 0 → a ≠ b → (TJxbd725 a).2.1 ≠ (TJxbd725 b).2.1 := by decide +kernel
theorem tyJxbd725_ok : ∀ k, k < 0 → parseFieldDescriptor (TJxbd725 k).2.2.1 = some (tyJxbd725 k) := by decide +kernel
def RJ15 : String := "java/util/Objects"
def TJ15 : u_T := fun k => match k with
  | _ => ("", "", "", false)
def tyJ15 : Nat → FieldType := fun k => match k with
  | _ => .int
abbrev wsJ150 : List Cond := u_ws RJ15 TJ15 0
theorem nmJ15 : ∀ a, a < 0 → ∀ b, b < 0 → a ≠ b → (TJ15 a).2.1 ≠ (TJ15 b).2.1 := by decide +kernel
theorem tyJ15_ok : ∀ k, k < 0 → parseFieldDescriptor (TJ15 k).2.2.1 = some (tyJ15 k) := by decide +kernel
abbrev cJ15_checkIndex_7cf53 : ByteArray := prog_27_method_17_code
def yJ15_checkIndex_7cf53 : MethodName := ⟨RJ15, "checkIndex", "(II)I"⟩
def RJxf0a74 : String := "java/util/RandomAccess"
def TJxf0a74 : u_T := fun k => match k with
  | _ => ("", "", "", false)
def tyJxf0a74 : Nat → FieldType := fun k => match k with
  | _ => .int
abbrev wsJxf0a740 : List Cond := u_ws RJxf0a74 TJxf0a74 0
theorem nmJxf0a74 : ∀ a, a < 0 → ∀ b, b < 0 → a ≠ b → (TJxf0a74 a).2.1 ≠ (TJxf0a74 b).2.1 := by decide +kernel
theorem tyJxf0a74_ok : ∀ k, k < 0 → parseFieldDescriptor (TJxf0a74 k).2.2.1 = some (tyJxf0a74 k) := by decide +kernel
def RJxa66e6 : String := "java/util/SequencedCollection"
def TJxa66e6 : u_T := fun k => match k with
  | _ => ("", "", "", false)
def tyJxa66e6 : Nat → FieldType := fun k => match k with
  | _ => .int
abbrev wsJxa66e60 : List Cond := u_ws RJxa66e6 TJxa66e6 0
theorem nmJxa66e6 : ∀ a, a < 0 → ∀ b, b < 0 → a ≠ b → (TJxa66e6 a).2.1 ≠ (TJxa66e6 b).2.1 := by decide +kernel
theorem tyJxa66e6_ok : ∀ k, k < 0 → parseFieldDescriptor (TJxa66e6 k).2.2.1 = some (tyJxa66e6 k) := by decide +kernel
def RJ8 : String := "jdk/internal/util/ArraysSupport"
def TJ8 : u_T := fun k => match k with
  | _ => ("", "", "", false)
def tyJ8 : Nat → FieldType := fun k => match k with
  | _ => .int
abbrev wsJ80 : List Cond := u_ws RJ8 TJ8 0
theorem nmJ8 : ∀ a, a < 0 → ∀ b, b < 0 → a ≠ b → (TJ8 a).2.1 ≠ (TJ8 b).2.1 := by decide +kernel
theorem tyJ8_ok : ∀ k, k < 0 → parseFieldDescriptor (TJ8 k).2.2.1 = some (tyJ8 k) := by decide +kernel
abbrev cJ8_newLength_cabcc : ByteArray := prog_30_method_27_code
def yJ8_newLength_cabcc : MethodName := ⟨RJ8, "newLength", "(III)I"⟩
abbrev cJ8_hugeLength_7cf53 : ByteArray := prog_30_method_28_code
def yJ8_hugeLength_7cf53 : MethodName := ⟨RJ8, "hugeLength", "(II)I"⟩
def RJ3 : String := "jdk/internal/util/Preconditions"
def TJ3 : u_T := fun k => match k with
  | _ => ("", "", "", false)
def tyJ3 : Nat → FieldType := fun k => match k with
  | _ => .int
abbrev wsJ30 : List Cond := u_ws RJ3 TJ3 0
theorem nmJ3 : ∀ a, a < 0 → ∀ b, b < 0 → a ≠ b → (TJ3 a).2.1 ≠ (TJ3 b).2.1 := by decide +kernel
theorem tyJ3_ok : ∀ k, k < 0 → parseFieldDescriptor (TJ3 k).2.2.1 = some (tyJ3 k) := by decide +kernel
abbrev cJ3_checkIndex_8e157 : ByteArray := prog_31_method_11_code
def yJ3_checkIndex_8e157 : MethodName := ⟨RJ3, "checkIndex", "(IILjava/util/function/BiFunction;)I"⟩
def RL : String := "WarrenLaw"
abbrev cL_below : ByteArray := method_2_code
def yL_below : MethodName := ⟨RL, "below", "(II)I"⟩
abbrev cL_cell : ByteArray := method_3_code
def yL_cell : MethodName := ⟨RL, "cell", "([II)I"⟩
abbrev cL_law : ByteArray := code
def yL_law : MethodName := ⟨RL, "law", "([I)Z"⟩
abbrev vwCl : List vw_C := [(RJx4a65c, TJx4a65c, 3), (RX0, TX0, 2), (RX2, TX2, 8), (RX3, TX3, 3), (RX4, TX4, 4), (RX5, TX5, 8)]
