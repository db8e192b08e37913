/-! ===== BEGIN printed: names, fields, word lists, decode rows ===== -/
def RX0 : String := "MarkdownPlanner$Plans"
def TX0 : u_T := fun k => match k with
  | 0 => ("MarkdownPlanner$Plans", "prices", "[I", true)
  | 1 => ("MarkdownPlanner$Plans", "demands", "[I", true)
  | 2 => ("MarkdownPlanner$Plans", "worths", "[I", true)
  | 3 => ("MarkdownPlanner$Plans", "ladder", "[I", true)
  | 4 => ("MarkdownPlanner$Plans", "firstWeek", "I", false)
  | 5 => ("MarkdownPlanner$Plans", "freeWeek", "I", false)
  | 6 => ("MarkdownPlanner$Plans", "endWeek", "I", false)
  | 7 => ("MarkdownPlanner$Plans", "gap", "I", false)
  | 8 => ("MarkdownPlanner$Plans", "remnant", "I", false)
  | 9 => ("MarkdownPlanner$Plans", "ownStep", "I", false)
  | 10 => ("MarkdownPlanner$Plans", "ownStock", "I", false)
  | _ => ("MarkdownPlanner$Plans", "mostLeft", "I", false)
def tyX0 : Nat → FieldType := fun k => match k with
  | 0 => .array .int
  | 1 => .array .int
  | 2 => .array .int
  | 3 => .array .int
  | 4 => .int
  | 5 => .int
  | 6 => .int
  | 7 => .int
  | 8 => .int
  | 9 => .int
  | 10 => .int
  | _ => .int
abbrev wsX00 : List Cond := u_ws RX0 TX0 12
theorem nmX0 : ∀ a, a < 12 → ∀ b, b < 12 → a ≠ b → (TX0 a).2.1 ≠ (TX0 b).2.1 := by decide +kernel
theorem tyX0_ok : ∀ k, k < 12 → parseFieldDescriptor (TX0 k).2.2.1 = some (tyX0 k) := by decide +kernel
abbrev cX0_init : ByteArray := prog_2_method_1_code
def yX0_init : MethodName := ⟨RX0, "<init>", "()V"⟩
abbrev cX0_lookAt : ByteArray := prog_2_method_2_code
def yX0_lookAt : MethodName := ⟨RX0, "lookAt", "(LMarkdownPlanner$Season;LMarkdownPlanner$Store;)V"⟩
abbrev cX0_greatestWorth : ByteArray := prog_2_method_3_code
def yX0_greatestWorth : MethodName := ⟨RX0, "greatestWorth", "(I)I"⟩
abbrev cX0_bestStepIn : ByteArray := prog_2_method_4_code
def yX0_bestStepIn : MethodName := ⟨RX0, "bestStepIn", "(I)I"⟩
abbrev cX0_tellWorths : ByteArray := prog_2_method_5_code
def yX0_tellWorths : MethodName := ⟨RX0, "tellWorths", "(I)V"⟩
abbrev cX0_placeOf : ByteArray := prog_2_method_6_code
def yX0_placeOf : MethodName := ⟨RX0, "placeOf", "(III)I"⟩
abbrev cX0_worthOfChoosing : ByteArray := prog_2_method_7_code
def yX0_worthOfChoosing : MethodName := ⟨RX0, "worthOfChoosing", "(III)I"⟩
abbrev cX0_lowestBestStep : ByteArray := prog_2_method_8_code
def yX0_lowestBestStep : MethodName := ⟨RX0, "lowestBestStep", "(III)I"⟩
abbrev cX0_worthOfTaking : ByteArray := prog_2_method_9_code
def yX0_worthOfTaking : MethodName := ⟨RX0, "worthOfTaking", "(IIII)I"⟩
abbrev cX0_worthOfKeeping : ByteArray := prog_2_method_10_code
def yX0_worthOfKeeping : MethodName := ⟨RX0, "worthOfKeeping", "(IIII)I"⟩
abbrev cX0_worthFrom : ByteArray := prog_2_method_11_code
def yX0_worthFrom : MethodName := ⟨RX0, "worthFrom", "(III)I"⟩
def RX1 : String := "MarkdownPlanner$Season"
def TX1 : u_T := fun k => match k with
  | 0 => ("MarkdownPlanner$Season", "prices", "[I", true)
  | 1 => ("MarkdownPlanner$Season", "weeks", "I", false)
  | 2 => ("MarkdownPlanner$Season", "week", "I", false)
  | 3 => ("MarkdownPlanner$Season", "gap", "I", false)
  | 4 => ("MarkdownPlanner$Season", "remnant", "I", false)
  | 5 => ("MarkdownPlanner$Season", "moving", "I", false)
  | _ => ("MarkdownPlanner$Season", "taken", "I", false)
def tyX1 : Nat → FieldType := fun k => match k with
  | 0 => .array .int
  | 1 => .int
  | 2 => .int
  | 3 => .int
  | 4 => .int
  | 5 => .int
  | _ => .int
abbrev wsX10 : List Cond := u_ws RX1 TX1 7
theorem nmX1 : ∀ a, a < 7 → ∀ b, b < 7 → a ≠ b → (TX1 a).2.1 ≠ (TX1 b).2.1 := by decide +kernel
theorem tyX1_ok : ∀ k, k < 7 → parseFieldDescriptor (TX1 k).2.2.1 = some (tyX1 k) := by decide +kernel
abbrev cX1_init : ByteArray := prog_3_method_1_code
def yX1_init : MethodName := ⟨RX1, "<init>", "()V"⟩
abbrev cX1_startAnew : ByteArray := prog_3_method_2_code
def yX1_startAnew : MethodName := ⟨RX1, "startAnew", "(I)V"⟩
abbrev cX1_keepsLadderDown : ByteArray := prog_3_method_3_code
def yX1_keepsLadderDown : MethodName := ⟨RX1, "keepsLadderDown", "(II)Z"⟩
def RX2 : String := "MarkdownPlanner$Store"
def TX2 : u_T := fun k => match k with
  | 0 => ("MarkdownPlanner$Store", "demands", "[I", true)
  | 1 => ("MarkdownPlanner$Store", "pieces", "[I", true)
  | 2 => ("MarkdownPlanner$Store", "step", "I", false)
  | 3 => ("MarkdownPlanner$Store", "markedDownIn", "I", false)
  | _ => ("MarkdownPlanner$Store", "piecesSold", "I", false)
def tyX2 : Nat → FieldType := fun k => match k with
  | 0 => .array .int
  | 1 => .array .int
  | 2 => .int
  | 3 => .int
  | _ => .int
abbrev wsX20 : List Cond := u_ws RX2 TX2 5
theorem nmX2 : ∀ a, a < 5 → ∀ b, b < 5 → a ≠ b → (TX2 a).2.1 ≠ (TX2 b).2.1 := by decide +kernel
theorem tyX2_ok : ∀ k, k < 5 → parseFieldDescriptor (TX2 k).2.2.1 = some (tyX2 k) := by decide +kernel
abbrev cX2_init : ByteArray := prog_4_method_1_code
def yX2_init : MethodName := ⟨RX2, "<init>", "()V"⟩
abbrev cX2_startAnew : ByteArray := prog_4_method_2_code
def yX2_startAnew : MethodName := ⟨RX2, "startAnew", "()V"⟩
abbrev cX2_waitFrom : ByteArray := prog_4_method_3_code
def yX2_waitFrom : MethodName := ⟨RX2, "waitFrom", "(II)I"⟩
abbrev cX2_wholeStock : ByteArray := prog_4_method_4_code
def yX2_wholeStock : MethodName := ⟨RX2, "wholeStock", "()I"⟩
abbrev cX2_sizesInStock : ByteArray := prog_4_method_5_code
def yX2_sizesInStock : MethodName := ⟨RX2, "sizesInStock", "()I"⟩
abbrev cX2_salesAt : ByteArray := prog_4_method_6_code
def yX2_salesAt : MethodName := ⟨RX2, "salesAt", "(I)I"⟩
abbrev cX2_sellForAWeek : ByteArray := prog_4_method_7_code
def yX2_sellForAWeek : MethodName := ⟨RX2, "sellForAWeek", "()I"⟩
abbrev cX2_fullestSize : ByteArray := prog_4_method_8_code
def yX2_fullestSize : MethodName := ⟨RX2, "fullestSize", "()I"⟩
def RX3 : String := "MarkdownPlanner"
def TX3 : u_T := fun k => match k with
  | 0 => ("MarkdownPlanner", "season", "LMarkdownPlanner$Season;", true)
  | 1 => ("MarkdownPlanner", "stores", "[LMarkdownPlanner$Store;", true)
  | _ => ("MarkdownPlanner", "plans", "LMarkdownPlanner$Plans;", true)
def tyX3 : Nat → FieldType := fun k => match k with
  | 0 => .object "MarkdownPlanner$Season"
  | 1 => .array (.object "MarkdownPlanner$Store")
  | _ => .object "MarkdownPlanner$Plans"
abbrev wsX30 : List Cond := u_ws RX3 TX3 3
theorem nmX3 : ∀ a, a < 3 → ∀ b, b < 3 → a ≠ b → (TX3 a).2.1 ≠ (TX3 b).2.1 := by decide +kernel
theorem tyX3_ok : ∀ k, k < 3 → parseFieldDescriptor (TX3 k).2.2.1 = some (tyX3 k) := by decide +kernel
abbrev cX3_init : ByteArray := prog_1_method_1_code
def yX3_init : MethodName := ⟨RX3, "<init>", "()V"⟩
abbrev cX3_begin : ByteArray := prog_1_method_2_code
def yX3_begin : MethodName := ⟨RX3, "begin", "(I)I"⟩
abbrev cX3_setPrice : ByteArray := prog_1_method_3_code
def yX3_setPrice : MethodName := ⟨RX3, "setPrice", "(II)I"⟩
abbrev cX3_setDemand : ByteArray := prog_1_method_4_code
def yX3_setDemand : MethodName := ⟨RX3, "setDemand", "(III)I"⟩
abbrev cX3_setRules : ByteArray := prog_1_method_5_code
def yX3_setRules : MethodName := ⟨RX3, "setRules", "(III)V"⟩
abbrev cX3_put : ByteArray := prog_1_method_6_code
def yX3_put : MethodName := ⟨RX3, "put", "(III)I"⟩
abbrev cX3_markDown : ByteArray := prog_1_method_7_code
def yX3_markDown : MethodName := ⟨RX3, "markDown", "(II)I"⟩
abbrev cX3_move : ByteArray := prog_1_method_8_code
def yX3_move : MethodName := ⟨RX3, "move", "(IIII)I"⟩
abbrev cX3_run : ByteArray := prog_1_method_9_code
def yX3_run : MethodName := ⟨RX3, "run", "()I"⟩
abbrev cX3_week : ByteArray := prog_1_method_10_code
def yX3_week : MethodName := ⟨RX3, "week", "()I"⟩
abbrev cX3_stock : ByteArray := prog_1_method_11_code
def yX3_stock : MethodName := ⟨RX3, "stock", "(II)I"⟩
abbrev cX3_step : ByteArray := prog_1_method_12_code
def yX3_step : MethodName := ⟨RX3, "step", "(I)I"⟩
abbrev cX3_weeksToWait : ByteArray := prog_1_method_13_code
def yX3_weeksToWait : MethodName := ⟨RX3, "weeksToWait", "(I)I"⟩
abbrev cX3_sold : ByteArray := prog_1_method_14_code
def yX3_sold : MethodName := ⟨RX3, "sold", "(I)I"⟩
abbrev cX3_taken : ByteArray := prog_1_method_15_code
def yX3_taken : MethodName := ⟨RX3, "taken", "()I"⟩
abbrev cX3_wouldSell : ByteArray := prog_1_method_16_code
def yX3_wouldSell : MethodName := ⟨RX3, "wouldSell", "(II)I"⟩
abbrev cX3_best : ByteArray := prog_1_method_17_code
def yX3_best : MethodName := ⟨RX3, "best", "(I)I"⟩
abbrev cX3_planned : ByteArray := prog_1_method_19_code
def yX3_planned : MethodName := ⟨RX3, "planned", "(II)I"⟩
abbrev cX3_bestLeaving : ByteArray := prog_1_method_20_code
def yX3_bestLeaving : MethodName := ⟨RX3, "bestLeaving", "(II)I"⟩
abbrev cX3_requireWithin : ByteArray := prog_1_method_21_code
def yX3_requireWithin : MethodName := ⟨RX3, "requireWithin", "(III)V"⟩
abbrev cX3_requireStep : ByteArray := prog_1_method_22_code
def yX3_requireStep : MethodName := ⟨RX3, "requireStep", "(I)V"⟩
abbrev cX3_requireSize : ByteArray := prog_1_method_23_code
def yX3_requireSize : MethodName := ⟨RX3, "requireSize", "(I)V"⟩
abbrev cX3_requireRoomFor : ByteArray := prog_1_method_24_code
def yX3_requireRoomFor : MethodName := ⟨RX3, "requireRoomFor", "(LMarkdownPlanner$Store;I)V"⟩
abbrev cX3_requireSeasonOn : ByteArray := prog_1_method_25_code
def yX3_requireSeasonOn : MethodName := ⟨RX3, "requireSeasonOn", "()V"⟩
abbrev cX3_storeOf : ByteArray := prog_1_method_26_code
def yX3_storeOf : MethodName := ⟨RX3, "storeOf", "(I)LMarkdownPlanner$Store;"⟩
def RX4 : String := "MarkdownPlannerModel"
def TX4 : u_T := fun k => match k with
  | _ => ("", "", "", false)
def tyX4 : Nat → FieldType := fun k => match k with
  | _ => .int
abbrev wsX40 : List Cond := u_ws RX4 TX4 0
theorem nmX4 : ∀ a, a < 0 → ∀ b, b < 0 → a ≠ b → (TX4 a).2.1 ≠ (TX4 b).2.1 := by decide +kernel
theorem tyX4_ok : ∀ k, k < 0 → parseFieldDescriptor (TX4 k).2.2.1 = some (tyX4 k) := by decide +kernel
def RJ9 : String := "java/lang/Math"
def TJ9 : u_T := fun k => match k with
  | _ => ("", "", "", false)
def tyJ9 : Nat → FieldType := fun k => match k with
  | _ => .int
abbrev wsJ90 : List Cond := u_ws RJ9 TJ9 0
theorem nmJ9 : ∀ a, a < 0 → ∀ b, b < 0 → a ≠ b → (TJ9 a).2.1 ≠ (TJ9 b).2.1 := by decide +kernel
theorem tyJ9_ok : ∀ k, k < 0 → parseFieldDescriptor (TJ9 k).2.2.1 = some (tyJ9 k) := by decide +kernel
abbrev cJ9_max_7cf53 : ByteArray := prog_10_method_65_code
def yJ9_max_7cf53 : MethodName := ⟨RJ9, "max", "(II)I"⟩
abbrev cJ9_min_7cf53 : ByteArray := prog_10_method_69_code
def yJ9_min_7cf53 : MethodName := ⟨RJ9, "min", "(II)I"⟩
def RJ0 : String := "java/lang/String"
def TJ0 : u_T := fun k => match k with
  | _ => ("", "", "", false)
def tyJ0 : Nat → FieldType := fun k => match k with
  | _ => .int
abbrev wsJ00 : List Cond := u_ws RJ0 TJ0 0
theorem nmJ0 : ∀ a, a < 0 → ∀ b, b < 0 → a ≠ b → (TJ0 a).2.1 ≠ (TJ0 b).2.1 := by decide +kernel
theorem tyJ0_ok : ∀ k, k < 0 → parseFieldDescriptor (TJ0 k).2.2.1 = some (tyJ0 k) := by decide +kernel
def RJ10 : String := "java/lang/System"
def TJ10 : u_T := fun k => match k with
  | _ => ("", "", "", false)
def tyJ10 : Nat → FieldType := fun k => match k with
  | _ => .int
abbrev wsJ100 : List Cond := u_ws RJ10 TJ10 0
theorem nmJ10 : ∀ a, a < 0 → ∀ b, b < 0 → a ≠ b → (TJ10 a).2.1 ≠ (TJ10 b).2.1 := by decide +kernel
theorem tyJ10_ok : ∀ k, k < 0 → parseFieldDescriptor (TJ10 k).2.2.1 = some (tyJ10 k) := by decide +kernel
def RL : String := "MarkdownPlannerLaw"
abbrev cL_drawn : ByteArray := method_2_code
def yL_drawn : MethodName := ⟨RL, "drawn", "([II)I"⟩
abbrev cL_does : ByteArray := method_3_code
def yL_does : MethodName := ⟨RL, "does", "(LMarkdownPlanner;IIIII)I"⟩
abbrev cL_rules : ByteArray := method_4_code
def yL_rules : MethodName := ⟨RL, "rules", "(LMarkdownPlanner;III)Z"⟩
abbrev cL_of : ByteArray := method_5_code
def yL_of : MethodName := ⟨RL, "of", "(LMarkdownPlanner;III)I"⟩
abbrev cL_law : ByteArray := code
def yL_law : MethodName := ⟨RL, "law", "([I)Z"⟩
def wsX0_init : List Cond := .code yX0_init cX0_init 1 none :: ([.methodLink RX0 3 objectInit, .instanceMethod objectInit, .code objectInit ⟨#[0xb1]⟩ 1 none, .arrayClass .int, .fieldLink RX0 9 "MarkdownPlanner$Plans" "prices" "[I", .fieldLink RX0 15 "MarkdownPlanner$Plans" "demands" "[I", .fieldLink RX0 18 "MarkdownPlanner$Plans" "worths" "[I", .fieldLink RX0 21 "MarkdownPlanner$Plans" "ladder" "[I"] ++ wsX00)
def wsX2_waitFrom : List Cond := .code yX2_waitFrom cX2_waitFrom 3 (some .int) :: ([.fieldLink RX2 18 "MarkdownPlanner$Store" "markedDownIn" "I", .methodLink RX2 28 Lib.Math.max.name, .static Lib.Math.max.name, .initialized "java/lang/Math", .code Lib.Math.max.name Lib.Math.max.code 2 (some .int)] ++ wsX20)
def wsX2_wholeStock : List Cond := .code yX2_wholeStock cX2_wholeStock 3 (some .int) :: ([.fieldLink RX2 15 "MarkdownPlanner$Store" "pieces" "[I"] ++ wsX20)
def wsX0_lookAt_r1 : List Cond := [Cond.fieldLink RX0 9 "MarkdownPlanner$Plans" "prices" "[I", Cond.methodLink RX0 27 arraycopyName, Cond.native arraycopyName, Cond.static arraycopyName, Cond.initialized "java/lang/System", Cond.fieldLink RX0 15 "MarkdownPlanner$Plans" "demands" "[I", Cond.fieldLink RX0 40 "MarkdownPlanner$Plans" "firstWeek" "I", Cond.fieldLink RX0 46 "MarkdownPlanner$Plans" "endWeek" "I", Cond.fieldLink RX0 52 "MarkdownPlanner$Plans" "gap" "I", Cond.fieldLink RX0 56 "MarkdownPlanner$Plans" "remnant" "I", Cond.methodLink RX0 61 Lib.Math.min.name, Cond.static Lib.Math.min.name, Cond.initialized "java/lang/Math", Cond.code Lib.Math.min.name Lib.Math.min.code 2 (some .int), Cond.fieldLink RX0 66 "MarkdownPlanner$Plans" "freeWeek" "I", Cond.fieldLink RX0 72 "MarkdownPlanner$Plans" "ownStep" "I", Cond.fieldLink RX0 79 "MarkdownPlanner$Plans" "ownStock" "I", Cond.instanceMethod yX2_waitFrom, Cond.initialized RX2, Cond.selects RX2 yX2_waitFrom yX2_waitFrom, Cond.code yX2_waitFrom cX2_waitFrom 3 (some .int), Cond.fieldLink RX2 18 "MarkdownPlanner$Store" "markedDownIn" "I", Cond.methodLink RX2 28 Lib.Math.max.name, Cond.static Lib.Math.max.name]
def wsX0_lookAt_r2 : List Cond := [Cond.code Lib.Math.max.name Lib.Math.max.code 2 (some .int), Cond.instanceMethod yX2_wholeStock, Cond.selects RX2 yX2_wholeStock yX2_wholeStock, Cond.code yX2_wholeStock cX2_wholeStock 3 (some .int), Cond.fieldLink RX2 15 "MarkdownPlanner$Store" "pieces" "[I"]
def wsX0_lookAt : List Cond := .code yX0_lookAt cX0_lookAt 3 none :: ((wsX0_lookAt_r1 ++ wsX0_lookAt_r2) ++ wsX10 ++ wsX00 ++ wsX20)
def wsX0_placeOf : List Cond := .code yX0_placeOf cX0_placeOf 3 (some .int) :: ([])
def wsX0_worthFrom : List Cond := .code yX0_worthFrom cX0_worthFrom 4 (some .int) :: ([.fieldLink RX0 46 "MarkdownPlanner$Plans" "endWeek" "I", .fieldLink RX0 18 "MarkdownPlanner$Plans" "worths" "[I", .fieldLink RX0 94 "MarkdownPlanner$Plans" "mostLeft" "I", .fieldLink RX0 56 "MarkdownPlanner$Plans" "remnant" "I", .methodLink RX0 97 yX0_placeOf, .static yX0_placeOf, .initialized RX0, .code yX0_placeOf cX0_placeOf 3 (some .int)] ++ wsX00)
def wsX0_worthOfKeeping : List Cond := .code yX0_worthOfKeeping cX0_worthOfKeeping 8 (some .int) :: ([.fieldLink RX0 46 "MarkdownPlanner$Plans" "endWeek" "I", .methodLink RX0 61 Lib.Math.min.name, .static Lib.Math.min.name, .initialized "java/lang/Math", .code Lib.Math.min.name Lib.Math.min.code 2 (some .int), .fieldLink RX0 15 "MarkdownPlanner$Plans" "demands" "[I", .fieldLink RX0 9 "MarkdownPlanner$Plans" "prices" "[I", .methodLink RX0 109 yX0_worthFrom, .instanceMethod yX0_worthFrom, .selects RX0 yX0_worthFrom yX0_worthFrom, .initialized RX0, .code yX0_worthFrom cX0_worthFrom 4 (some .int), .fieldLink RX0 18 "MarkdownPlanner$Plans" "worths" "[I", .fieldLink RX0 94 "MarkdownPlanner$Plans" "mostLeft" "I", .fieldLink RX0 56 "MarkdownPlanner$Plans" "remnant" "I", .methodLink RX0 97 yX0_placeOf, .static yX0_placeOf, .code yX0_placeOf cX0_placeOf 3 (some .int)] ++ wsX00)
def wsX0_worthOfTaking : List Cond := .code yX0_worthOfTaking cX0_worthOfTaking 5 (some .int) :: ([.fieldLink RX0 52 "MarkdownPlanner$Plans" "gap" "I", .methodLink RX0 86 yX0_worthOfKeeping, .instanceMethod yX0_worthOfKeeping, .selects RX0 yX0_worthOfKeeping yX0_worthOfKeeping, .initialized RX0, .code yX0_worthOfKeeping cX0_worthOfKeeping 8 (some .int), .fieldLink RX0 46 "MarkdownPlanner$Plans" "endWeek" "I", .methodLink RX0 61 Lib.Math.min.name, .static Lib.Math.min.name, .initialized "java/lang/Math", .code Lib.Math.min.name Lib.Math.min.code 2 (some .int), .fieldLink RX0 15 "MarkdownPlanner$Plans" "demands" "[I", .fieldLink RX0 9 "MarkdownPlanner$Plans" "prices" "[I", .methodLink RX0 109 yX0_worthFrom, .instanceMethod yX0_worthFrom, .selects RX0 yX0_worthFrom yX0_worthFrom, .code yX0_worthFrom cX0_worthFrom 4 (some .int), .fieldLink RX0 18 "MarkdownPlanner$Plans" "worths" "[I", .fieldLink RX0 94 "MarkdownPlanner$Plans" "mostLeft" "I", .fieldLink RX0 56 "MarkdownPlanner$Plans" "remnant" "I", .methodLink RX0 97 yX0_placeOf, .static yX0_placeOf, .code yX0_placeOf cX0_placeOf 3 (some .int)] ++ wsX00)
def wsX0_worthOfChoosing_r1 : List Cond := [Cond.methodLink RX0 106 Lib.Math.max.name, Cond.static Lib.Math.max.name, Cond.initialized "java/lang/Math", Cond.code Lib.Math.max.name Lib.Math.max.code 2 (some .int), Cond.methodLink RX0 103 yX0_worthOfTaking, Cond.instanceMethod yX0_worthOfTaking, Cond.selects RX0 yX0_worthOfTaking yX0_worthOfTaking, Cond.initialized RX0, Cond.code yX0_worthOfTaking cX0_worthOfTaking 5 (some .int), Cond.fieldLink RX0 52 "MarkdownPlanner$Plans" "gap" "I", Cond.methodLink RX0 86 yX0_worthOfKeeping, Cond.instanceMethod yX0_worthOfKeeping, Cond.selects RX0 yX0_worthOfKeeping yX0_worthOfKeeping, Cond.code yX0_worthOfKeeping cX0_worthOfKeeping 8 (some .int), Cond.fieldLink RX0 46 "MarkdownPlanner$Plans" "endWeek" "I", Cond.methodLink RX0 61 Lib.Math.min.name, Cond.static Lib.Math.min.name, Cond.code Lib.Math.min.name Lib.Math.min.code 2 (some .int), Cond.fieldLink RX0 15 "MarkdownPlanner$Plans" "demands" "[I", Cond.fieldLink RX0 9 "MarkdownPlanner$Plans" "prices" "[I", Cond.methodLink RX0 109 yX0_worthFrom, Cond.instanceMethod yX0_worthFrom, Cond.selects RX0 yX0_worthFrom yX0_worthFrom, Cond.code yX0_worthFrom cX0_worthFrom 4 (some .int)]
def wsX0_worthOfChoosing_r2 : List Cond := [Cond.fieldLink RX0 18 "MarkdownPlanner$Plans" "worths" "[I", Cond.fieldLink RX0 94 "MarkdownPlanner$Plans" "mostLeft" "I", Cond.fieldLink RX0 56 "MarkdownPlanner$Plans" "remnant" "I", Cond.methodLink RX0 97 yX0_placeOf, Cond.static yX0_placeOf, Cond.code yX0_placeOf cX0_placeOf 3 (some .int)]
def wsX0_worthOfChoosing : List Cond := .code yX0_worthOfChoosing cX0_worthOfChoosing 6 (some .int) :: ((wsX0_worthOfChoosing_r1 ++ wsX0_worthOfChoosing_r2) ++ wsX00)
def wsX0_tellWorths_r1 : List Cond := [Cond.fieldLink RX0 94 "MarkdownPlanner$Plans" "mostLeft" "I", Cond.fieldLink RX0 46 "MarkdownPlanner$Plans" "endWeek" "I", Cond.fieldLink RX0 66 "MarkdownPlanner$Plans" "freeWeek" "I", Cond.fieldLink RX0 72 "MarkdownPlanner$Plans" "ownStep" "I", Cond.fieldLink RX0 79 "MarkdownPlanner$Plans" "ownStock" "I", Cond.fieldLink RX0 18 "MarkdownPlanner$Plans" "worths" "[I", Cond.methodLink RX0 97 yX0_placeOf, Cond.static yX0_placeOf, Cond.initialized RX0, Cond.code yX0_placeOf cX0_placeOf 3 (some .int), Cond.methodLink RX0 100 yX0_worthOfChoosing, Cond.instanceMethod yX0_worthOfChoosing, Cond.selects RX0 yX0_worthOfChoosing yX0_worthOfChoosing, Cond.code yX0_worthOfChoosing cX0_worthOfChoosing 6 (some .int), Cond.methodLink RX0 106 Lib.Math.max.name, Cond.static Lib.Math.max.name, Cond.initialized "java/lang/Math", Cond.code Lib.Math.max.name Lib.Math.max.code 2 (some .int), Cond.methodLink RX0 103 yX0_worthOfTaking, Cond.instanceMethod yX0_worthOfTaking, Cond.selects RX0 yX0_worthOfTaking yX0_worthOfTaking, Cond.code yX0_worthOfTaking cX0_worthOfTaking 5 (some .int), Cond.fieldLink RX0 52 "MarkdownPlanner$Plans" "gap" "I", Cond.methodLink RX0 86 yX0_worthOfKeeping]
def wsX0_tellWorths_r2 : List Cond := [Cond.instanceMethod yX0_worthOfKeeping, Cond.selects RX0 yX0_worthOfKeeping yX0_worthOfKeeping, Cond.code yX0_worthOfKeeping cX0_worthOfKeeping 8 (some .int), Cond.methodLink RX0 61 Lib.Math.min.name, Cond.static Lib.Math.min.name, Cond.code Lib.Math.min.name Lib.Math.min.code 2 (some .int), Cond.fieldLink RX0 15 "MarkdownPlanner$Plans" "demands" "[I", Cond.fieldLink RX0 9 "MarkdownPlanner$Plans" "prices" "[I", Cond.methodLink RX0 109 yX0_worthFrom, Cond.instanceMethod yX0_worthFrom, Cond.selects RX0 yX0_worthFrom yX0_worthFrom, Cond.code yX0_worthFrom cX0_worthFrom 4 (some .int), Cond.fieldLink RX0 56 "MarkdownPlanner$Plans" "remnant" "I"]
def wsX0_tellWorths : List Cond := .code yX0_tellWorths cX0_tellWorths 5 none :: ((wsX0_tellWorths_r1 ++ wsX0_tellWorths_r2) ++ wsX00)
def wsX0_greatestWorth_r1 : List Cond := [Cond.fieldLink RX0 40 "MarkdownPlanner$Plans" "firstWeek" "I", Cond.fieldLink RX0 72 "MarkdownPlanner$Plans" "ownStep" "I", Cond.fieldLink RX0 66 "MarkdownPlanner$Plans" "freeWeek" "I", Cond.fieldLink RX0 79 "MarkdownPlanner$Plans" "ownStock" "I", Cond.methodLink RX0 82 yX0_tellWorths, Cond.instanceMethod yX0_tellWorths, Cond.selects RX0 yX0_tellWorths yX0_tellWorths, Cond.initialized RX0, Cond.code yX0_tellWorths cX0_tellWorths 5 none, Cond.fieldLink RX0 94 "MarkdownPlanner$Plans" "mostLeft" "I", Cond.fieldLink RX0 46 "MarkdownPlanner$Plans" "endWeek" "I", Cond.fieldLink RX0 18 "MarkdownPlanner$Plans" "worths" "[I", Cond.methodLink RX0 97 yX0_placeOf, Cond.static yX0_placeOf, Cond.code yX0_placeOf cX0_placeOf 3 (some .int), Cond.methodLink RX0 100 yX0_worthOfChoosing, Cond.instanceMethod yX0_worthOfChoosing, Cond.selects RX0 yX0_worthOfChoosing yX0_worthOfChoosing, Cond.code yX0_worthOfChoosing cX0_worthOfChoosing 6 (some .int), Cond.methodLink RX0 106 Lib.Math.max.name, Cond.static Lib.Math.max.name, Cond.initialized "java/lang/Math", Cond.code Lib.Math.max.name Lib.Math.max.code 2 (some .int), Cond.methodLink RX0 103 yX0_worthOfTaking]
def wsX0_greatestWorth_r2 : List Cond := [Cond.instanceMethod yX0_worthOfTaking, Cond.selects RX0 yX0_worthOfTaking yX0_worthOfTaking, Cond.code yX0_worthOfTaking cX0_worthOfTaking 5 (some .int), Cond.fieldLink RX0 52 "MarkdownPlanner$Plans" "gap" "I", Cond.methodLink RX0 86 yX0_worthOfKeeping, Cond.instanceMethod yX0_worthOfKeeping, Cond.selects RX0 yX0_worthOfKeeping yX0_worthOfKeeping, Cond.code yX0_worthOfKeeping cX0_worthOfKeeping 8 (some .int), Cond.methodLink RX0 61 Lib.Math.min.name, Cond.static Lib.Math.min.name, Cond.code Lib.Math.min.name Lib.Math.min.code 2 (some .int), Cond.fieldLink RX0 15 "MarkdownPlanner$Plans" "demands" "[I", Cond.fieldLink RX0 9 "MarkdownPlanner$Plans" "prices" "[I", Cond.methodLink RX0 109 yX0_worthFrom, Cond.instanceMethod yX0_worthFrom, Cond.selects RX0 yX0_worthFrom yX0_worthFrom, Cond.code yX0_worthFrom cX0_worthFrom 4 (some .int), Cond.fieldLink RX0 56 "MarkdownPlanner$Plans" "remnant" "I"]
def wsX0_greatestWorth : List Cond := .code yX0_greatestWorth cX0_greatestWorth 2 (some .int) :: ((wsX0_greatestWorth_r1 ++ wsX0_greatestWorth_r2) ++ wsX00)
def wsX0_lowestBestStep_r1 : List Cond := [Cond.methodLink RX0 109 yX0_worthFrom, Cond.instanceMethod yX0_worthFrom, Cond.selects RX0 yX0_worthFrom yX0_worthFrom, Cond.initialized RX0, Cond.code yX0_worthFrom cX0_worthFrom 4 (some .int), Cond.fieldLink RX0 46 "MarkdownPlanner$Plans" "endWeek" "I", Cond.fieldLink RX0 18 "MarkdownPlanner$Plans" "worths" "[I", Cond.fieldLink RX0 94 "MarkdownPlanner$Plans" "mostLeft" "I", Cond.fieldLink RX0 56 "MarkdownPlanner$Plans" "remnant" "I", Cond.methodLink RX0 97 yX0_placeOf, Cond.static yX0_placeOf, Cond.code yX0_placeOf cX0_placeOf 3 (some .int), Cond.methodLink RX0 103 yX0_worthOfTaking, Cond.instanceMethod yX0_worthOfTaking, Cond.selects RX0 yX0_worthOfTaking yX0_worthOfTaking, Cond.code yX0_worthOfTaking cX0_worthOfTaking 5 (some .int), Cond.fieldLink RX0 52 "MarkdownPlanner$Plans" "gap" "I", Cond.methodLink RX0 86 yX0_worthOfKeeping, Cond.instanceMethod yX0_worthOfKeeping, Cond.selects RX0 yX0_worthOfKeeping yX0_worthOfKeeping, Cond.code yX0_worthOfKeeping cX0_worthOfKeeping 8 (some .int), Cond.methodLink RX0 61 Lib.Math.min.name, Cond.static Lib.Math.min.name, Cond.initialized "java/lang/Math"]
def wsX0_lowestBestStep_r2 : List Cond := [Cond.code Lib.Math.min.name Lib.Math.min.code 2 (some .int), Cond.fieldLink RX0 15 "MarkdownPlanner$Plans" "demands" "[I", Cond.fieldLink RX0 9 "MarkdownPlanner$Plans" "prices" "[I"]
def wsX0_lowestBestStep : List Cond := .code yX0_lowestBestStep cX0_lowestBestStep 6 (some .int) :: ((wsX0_lowestBestStep_r1 ++ wsX0_lowestBestStep_r2) ++ wsX00)
def wsX0_bestStepIn_r1 : List Cond := [Cond.fieldLink RX0 72 "MarkdownPlanner$Plans" "ownStep" "I", Cond.fieldLink RX0 79 "MarkdownPlanner$Plans" "ownStock" "I", Cond.fieldLink RX0 66 "MarkdownPlanner$Plans" "freeWeek" "I", Cond.fieldLink RX0 40 "MarkdownPlanner$Plans" "firstWeek" "I", Cond.fieldLink RX0 52 "MarkdownPlanner$Plans" "gap" "I", Cond.fieldLink RX0 15 "MarkdownPlanner$Plans" "demands" "[I", Cond.methodLink RX0 61 Lib.Math.min.name, Cond.static Lib.Math.min.name, Cond.initialized "java/lang/Math", Cond.code Lib.Math.min.name Lib.Math.min.code 2 (some .int), Cond.methodLink RX0 82 yX0_tellWorths, Cond.instanceMethod yX0_tellWorths, Cond.selects RX0 yX0_tellWorths yX0_tellWorths, Cond.initialized RX0, Cond.code yX0_tellWorths cX0_tellWorths 5 none, Cond.fieldLink RX0 94 "MarkdownPlanner$Plans" "mostLeft" "I", Cond.fieldLink RX0 46 "MarkdownPlanner$Plans" "endWeek" "I", Cond.fieldLink RX0 18 "MarkdownPlanner$Plans" "worths" "[I", Cond.methodLink RX0 97 yX0_placeOf, Cond.static yX0_placeOf, Cond.code yX0_placeOf cX0_placeOf 3 (some .int), Cond.methodLink RX0 100 yX0_worthOfChoosing, Cond.instanceMethod yX0_worthOfChoosing, Cond.selects RX0 yX0_worthOfChoosing yX0_worthOfChoosing]
def wsX0_bestStepIn_r2 : List Cond := [Cond.code yX0_worthOfChoosing cX0_worthOfChoosing 6 (some .int), Cond.methodLink RX0 106 Lib.Math.max.name, Cond.static Lib.Math.max.name, Cond.code Lib.Math.max.name Lib.Math.max.code 2 (some .int), Cond.methodLink RX0 103 yX0_worthOfTaking, Cond.instanceMethod yX0_worthOfTaking, Cond.selects RX0 yX0_worthOfTaking yX0_worthOfTaking, Cond.code yX0_worthOfTaking cX0_worthOfTaking 5 (some .int), Cond.methodLink RX0 86 yX0_worthOfKeeping, Cond.instanceMethod yX0_worthOfKeeping, Cond.selects RX0 yX0_worthOfKeeping yX0_worthOfKeeping, Cond.code yX0_worthOfKeeping cX0_worthOfKeeping 8 (some .int), Cond.fieldLink RX0 9 "MarkdownPlanner$Plans" "prices" "[I", Cond.methodLink RX0 109 yX0_worthFrom, Cond.instanceMethod yX0_worthFrom, Cond.selects RX0 yX0_worthFrom yX0_worthFrom, Cond.code yX0_worthFrom cX0_worthFrom 4 (some .int), Cond.fieldLink RX0 56 "MarkdownPlanner$Plans" "remnant" "I", Cond.methodLink RX0 90 yX0_lowestBestStep, Cond.instanceMethod yX0_lowestBestStep, Cond.selects RX0 yX0_lowestBestStep yX0_lowestBestStep, Cond.code yX0_lowestBestStep cX0_lowestBestStep 6 (some .int)]
def wsX0_bestStepIn : List Cond := .code yX0_bestStepIn cX0_bestStepIn 7 (some .int) :: ((wsX0_bestStepIn_r1 ++ wsX0_bestStepIn_r2) ++ wsX00)
def wsX1_init : List Cond := .code yX1_init cX1_init 2 none :: ([.methodLink RX1 3 objectInit, .instanceMethod objectInit, .code objectInit ⟨#[0xb1]⟩ 1 none, .arrayClass .int, .fieldLink RX1 9 "MarkdownPlanner$Season" "prices" "[I", .fieldLink RX1 15 "MarkdownPlanner$Season" "weeks" "I", .fieldLink RX1 19 "MarkdownPlanner$Season" "gap" "I"] ++ wsX10)
def wsX1_startAnew : List Cond := .code yX1_startAnew cX1_startAnew 2 none :: ([.fieldLink RX1 15 "MarkdownPlanner$Season" "weeks" "I", .fieldLink RX1 22 "MarkdownPlanner$Season" "week" "I", .fieldLink RX1 25 "MarkdownPlanner$Season" "taken" "I"] ++ wsX10)
def wsX1_keepsLadderDown : List Cond := .code yX1_keepsLadderDown cX1_keepsLadderDown 5 (some .boolean) :: ([.fieldLink RX1 9 "MarkdownPlanner$Season" "prices" "[I"] ++ wsX10)
def wsX2_init : List Cond := .code yX2_init cX2_init 1 none :: ([.methodLink RX2 3 objectInit, .instanceMethod objectInit, .code objectInit ⟨#[0xb1]⟩ 1 none, .arrayClass .int, .fieldLink RX2 9 "MarkdownPlanner$Store" "demands" "[I", .fieldLink RX2 15 "MarkdownPlanner$Store" "pieces" "[I", .fieldLink RX2 18 "MarkdownPlanner$Store" "markedDownIn" "I"] ++ wsX20)
def wsX2_startAnew : List Cond := .code yX2_startAnew cX2_startAnew 1 none :: ([.fieldLink RX2 22 "MarkdownPlanner$Store" "step" "I", .fieldLink RX2 18 "MarkdownPlanner$Store" "markedDownIn" "I", .fieldLink RX2 25 "MarkdownPlanner$Store" "piecesSold" "I"] ++ wsX20)
def wsX2_sizesInStock : List Cond := .code yX2_sizesInStock cX2_sizesInStock 3 (some .int) :: ([.fieldLink RX2 15 "MarkdownPlanner$Store" "pieces" "[I"] ++ wsX20)
def wsX2_salesAt : List Cond := .code yX2_salesAt cX2_salesAt 2 (some .int) :: ([.fieldLink RX2 9 "MarkdownPlanner$Store" "demands" "[I", .methodLink RX2 41 Lib.Math.min.name, .static Lib.Math.min.name, .initialized "java/lang/Math", .code Lib.Math.min.name Lib.Math.min.code 2 (some .int), .methodLink RX2 34 yX2_sizesInStock, .instanceMethod yX2_sizesInStock, .selects RX2 yX2_sizesInStock yX2_sizesInStock, .initialized RX2, .code yX2_sizesInStock cX2_sizesInStock 3 (some .int), .fieldLink RX2 15 "MarkdownPlanner$Store" "pieces" "[I", .methodLink RX2 38 yX2_wholeStock, .instanceMethod yX2_wholeStock, .selects RX2 yX2_wholeStock yX2_wholeStock, .code yX2_wholeStock cX2_wholeStock 3 (some .int)] ++ wsX20)
def wsX2_fullestSize : List Cond := .code yX2_fullestSize cX2_fullestSize 3 (some .int) :: ([.fieldLink RX2 15 "MarkdownPlanner$Store" "pieces" "[I"] ++ wsX20)
def wsX2_sellForAWeek_r1 : List Cond := [Cond.fieldLink RX2 22 "MarkdownPlanner$Store" "step" "I", Cond.fieldLink RX2 15 "MarkdownPlanner$Store" "pieces" "[I", Cond.fieldLink RX2 25 "MarkdownPlanner$Store" "piecesSold" "I", Cond.methodLink RX2 44 yX2_salesAt, Cond.instanceMethod yX2_salesAt, Cond.selects RX2 yX2_salesAt yX2_salesAt, Cond.initialized RX2, Cond.code yX2_salesAt cX2_salesAt 2 (some .int), Cond.fieldLink RX2 9 "MarkdownPlanner$Store" "demands" "[I", Cond.methodLink RX2 41 Lib.Math.min.name, Cond.static Lib.Math.min.name, Cond.initialized "java/lang/Math", Cond.code Lib.Math.min.name Lib.Math.min.code 2 (some .int), Cond.methodLink RX2 34 yX2_sizesInStock, Cond.instanceMethod yX2_sizesInStock, Cond.selects RX2 yX2_sizesInStock yX2_sizesInStock, Cond.code yX2_sizesInStock cX2_sizesInStock 3 (some .int), Cond.methodLink RX2 38 yX2_wholeStock, Cond.instanceMethod yX2_wholeStock, Cond.selects RX2 yX2_wholeStock yX2_wholeStock, Cond.code yX2_wholeStock cX2_wholeStock 3 (some .int), Cond.methodLink RX2 48 yX2_fullestSize, Cond.instanceMethod yX2_fullestSize, Cond.selects RX2 yX2_fullestSize yX2_fullestSize]
def wsX2_sellForAWeek_r2 : List Cond := [Cond.code yX2_fullestSize cX2_fullestSize 3 (some .int)]
def wsX2_sellForAWeek : List Cond := .code yX2_sellForAWeek cX2_sellForAWeek 3 (some .int) :: ((wsX2_sellForAWeek_r1 ++ wsX2_sellForAWeek_r2) ++ wsX20)
def wsX3_init_r1 : List Cond := [Cond.methodLink RX3 3 objectInit, Cond.instanceMethod objectInit, Cond.code objectInit ⟨#[0xb1]⟩ 1 none, Cond.classLink RX3 9 RX1, Cond.instantiable RX1 7, Cond.initialized RX1, Cond.fieldLink RX3 12 "MarkdownPlanner" "season" "LMarkdownPlanner$Season;", Cond.classLink RX3 16 RX2, Cond.fieldLink RX3 18 "MarkdownPlanner" "stores" "[LMarkdownPlanner$Store;", Cond.classLink RX3 22 RX0, Cond.instantiable RX0 12, Cond.initialized RX0, Cond.fieldLink RX3 25 "MarkdownPlanner" "plans" "LMarkdownPlanner$Plans;", Cond.instantiable RX2 5, Cond.initialized RX2, Cond.instanceMethod yX1_init, Cond.code yX1_init cX1_init 2 none, Cond.methodLink RX1 3 objectInit, Cond.arrayClass .int, Cond.fieldLink RX1 9 "MarkdownPlanner$Season" "prices" "[I", Cond.fieldLink RX1 15 "MarkdownPlanner$Season" "weeks" "I", Cond.fieldLink RX1 19 "MarkdownPlanner$Season" "gap" "I", Cond.instanceMethod yX0_init, Cond.code yX0_init cX0_init 1 none]
def wsX3_init_r2 : List Cond := [Cond.methodLink RX0 3 objectInit, Cond.fieldLink RX0 9 "MarkdownPlanner$Plans" "prices" "[I", Cond.fieldLink RX0 15 "MarkdownPlanner$Plans" "demands" "[I", Cond.fieldLink RX0 18 "MarkdownPlanner$Plans" "worths" "[I", Cond.fieldLink RX0 21 "MarkdownPlanner$Plans" "ladder" "[I", Cond.instanceMethod yX2_init, Cond.code yX2_init cX2_init 1 none, Cond.methodLink RX2 3 objectInit, Cond.fieldLink RX2 9 "MarkdownPlanner$Store" "demands" "[I", Cond.fieldLink RX2 15 "MarkdownPlanner$Store" "pieces" "[I", Cond.fieldLink RX2 18 "MarkdownPlanner$Store" "markedDownIn" "I"]
def wsX3_init : List Cond := .code yX3_init cX3_init 2 none :: ((wsX3_init_r1 ++ wsX3_init_r2) ++ wsX10 ++ wsX30 ++ wsX00 ++ wsX20)
def wsX3_requireWithin : List Cond := .code yX3_requireWithin cX3_requireWithin 3 none :: ([.classLink RX3 105 "java/lang/IllegalArgumentException", .initialized "java/lang/IllegalArgumentException"] ++ (vx_atS RX3 109 "java/lang/IllegalArgumentException" ["java/lang/RuntimeException", "java/lang/Exception"]).filter goodWord)
def wsX3_begin : List Cond := .code yX3_begin cX3_begin 7 (some .int) :: ([.fieldLink RX3 12 "MarkdownPlanner" "season" "LMarkdownPlanner$Season;", .fieldLink RX3 18 "MarkdownPlanner" "stores" "[LMarkdownPlanner$Store;", .methodLink RX3 30 yX3_requireWithin, .static yX3_requireWithin, .initialized RX3, .code yX3_requireWithin cX3_requireWithin 3 none, .classLink RX3 105 "java/lang/IllegalArgumentException", .initialized "java/lang/IllegalArgumentException", .instanceMethod yX1_startAnew, .initialized RX1, .selects RX1 yX1_startAnew yX1_startAnew, .code yX1_startAnew cX1_startAnew 2 none, .fieldLink RX1 15 "MarkdownPlanner$Season" "weeks" "I", .fieldLink RX1 22 "MarkdownPlanner$Season" "week" "I", .fieldLink RX1 25 "MarkdownPlanner$Season" "taken" "I", .instanceMethod yX2_startAnew, .initialized RX2, .selects RX2 yX2_startAnew yX2_startAnew, .code yX2_startAnew cX2_startAnew 1 none, .fieldLink RX2 22 "MarkdownPlanner$Store" "step" "I", .fieldLink RX2 18 "MarkdownPlanner$Store" "markedDownIn" "I", .fieldLink RX2 25 "MarkdownPlanner$Store" "piecesSold" "I"] ++ wsX30 ++ wsX10 ++ wsX20 ++ (vx_atS RX3 109 "java/lang/IllegalArgumentException" ["java/lang/RuntimeException", "java/lang/Exception"]).filter goodWord)
def wsX3_requireStep : List Cond := .code yX3_requireStep cX3_requireStep 1 none :: ([.methodLink RX3 30 yX3_requireWithin, .static yX3_requireWithin, .initialized RX3, .code yX3_requireWithin cX3_requireWithin 3 none, .classLink RX3 105 "java/lang/IllegalArgumentException", .initialized "java/lang/IllegalArgumentException"] ++ (vx_atS RX3 109 "java/lang/IllegalArgumentException" ["java/lang/RuntimeException", "java/lang/Exception"]).filter goodWord)
def wsX3_setPrice : List Cond := .code yX3_setPrice cX3_setPrice 4 (some .int) :: ([.classLink RX3 51 "java/lang/IllegalStateException", .initialized "java/lang/IllegalStateException", .fieldLink RX3 12 "MarkdownPlanner" "season" "LMarkdownPlanner$Season;", .methodLink RX3 44 yX3_requireStep, .static yX3_requireStep, .initialized RX3, .code yX3_requireStep cX3_requireStep 1 none, .methodLink RX3 30 yX3_requireWithin, .static yX3_requireWithin, .code yX3_requireWithin cX3_requireWithin 3 none, .classLink RX3 105 "java/lang/IllegalArgumentException", .initialized "java/lang/IllegalArgumentException", .instanceMethod yX1_keepsLadderDown, .initialized RX1, .selects RX1 yX1_keepsLadderDown yX1_keepsLadderDown, .code yX1_keepsLadderDown cX1_keepsLadderDown 5 (some .boolean), .fieldLink RX1 9 "MarkdownPlanner$Season" "prices" "[I"] ++ wsX30 ++ wsX10 ++ (vx_atS RX3 55 "java/lang/IllegalStateException" ["java/lang/RuntimeException", "java/lang/Exception"]).filter goodWord ++ (vx_atS RX3 109 "java/lang/IllegalArgumentException" ["java/lang/RuntimeException", "java/lang/Exception"]).filter goodWord)
def wsX3_storeOf : List Cond := .code yX3_storeOf cX3_storeOf 2 (some (.object "MarkdownPlanner$Store")) :: ([.fieldLink RX3 18 "MarkdownPlanner" "stores" "[LMarkdownPlanner$Store;", .methodLink RX3 30 yX3_requireWithin, .static yX3_requireWithin, .initialized RX3, .code yX3_requireWithin cX3_requireWithin 3 none, .classLink RX3 105 "java/lang/IllegalArgumentException", .initialized "java/lang/IllegalArgumentException"] ++ wsX30 ++ (vx_atS RX3 109 "java/lang/IllegalArgumentException" ["java/lang/RuntimeException", "java/lang/Exception"]).filter goodWord)
def wsX3_setDemand : List Cond := .code yX3_setDemand cX3_setDemand 6 (some .int) :: ([.methodLink RX3 62 yX3_storeOf, .instanceMethod yX3_storeOf, .selects RX3 yX3_storeOf yX3_storeOf, .initialized RX3, .code yX3_storeOf cX3_storeOf 2 (some (.object "MarkdownPlanner$Store")), .fieldLink RX3 18 "MarkdownPlanner" "stores" "[LMarkdownPlanner$Store;", .methodLink RX3 30 yX3_requireWithin, .static yX3_requireWithin, .code yX3_requireWithin cX3_requireWithin 3 none, .classLink RX3 105 "java/lang/IllegalArgumentException", .initialized "java/lang/IllegalArgumentException", .methodLink RX3 44 yX3_requireStep, .static yX3_requireStep, .code yX3_requireStep cX3_requireStep 1 none] ++ wsX20 ++ wsX30 ++ (vx_atS RX3 109 "java/lang/IllegalArgumentException" ["java/lang/RuntimeException", "java/lang/Exception"]).filter goodWord)
def wsX3_setRules : List Cond := .code yX3_setRules cX3_setRules 4 none :: ([.fieldLink RX3 12 "MarkdownPlanner" "season" "LMarkdownPlanner$Season;", .methodLink RX3 30 yX3_requireWithin, .static yX3_requireWithin, .initialized RX3, .code yX3_requireWithin cX3_requireWithin 3 none, .classLink RX3 105 "java/lang/IllegalArgumentException", .initialized "java/lang/IllegalArgumentException"] ++ wsX30 ++ wsX10 ++ (vx_atS RX3 109 "java/lang/IllegalArgumentException" ["java/lang/RuntimeException", "java/lang/Exception"]).filter goodWord)
def wsX3_requireSize : List Cond := .code yX3_requireSize cX3_requireSize 1 none :: ([.methodLink RX3 30 yX3_requireWithin, .static yX3_requireWithin, .initialized RX3, .code yX3_requireWithin cX3_requireWithin 3 none, .classLink RX3 105 "java/lang/IllegalArgumentException", .initialized "java/lang/IllegalArgumentException"] ++ (vx_atS RX3 109 "java/lang/IllegalArgumentException" ["java/lang/RuntimeException", "java/lang/Exception"]).filter goodWord)
def wsX3_requireRoomFor : List Cond := .code yX3_requireRoomFor cX3_requireRoomFor 2 none :: ([.classLink RX3 51 "java/lang/IllegalStateException", .initialized "java/lang/IllegalStateException", .instanceMethod yX2_wholeStock, .initialized RX2, .selects RX2 yX2_wholeStock yX2_wholeStock, .code yX2_wholeStock cX2_wholeStock 3 (some .int), .fieldLink RX2 15 "MarkdownPlanner$Store" "pieces" "[I"] ++ wsX20 ++ (vx_atS RX3 55 "java/lang/IllegalStateException" ["java/lang/RuntimeException", "java/lang/Exception"]).filter goodWord)
def wsX3_put : List Cond := .code yX3_put cX3_put 5 (some .int) :: ([.methodLink RX3 62 yX3_storeOf, .instanceMethod yX3_storeOf, .selects RX3 yX3_storeOf yX3_storeOf, .initialized RX3, .code yX3_storeOf cX3_storeOf 2 (some (.object "MarkdownPlanner$Store")), .fieldLink RX3 18 "MarkdownPlanner" "stores" "[LMarkdownPlanner$Store;", .methodLink RX3 30 yX3_requireWithin, .static yX3_requireWithin, .code yX3_requireWithin cX3_requireWithin 3 none, .classLink RX3 105 "java/lang/IllegalArgumentException", .initialized "java/lang/IllegalArgumentException", .methodLink RX3 78 yX3_requireSize, .static yX3_requireSize, .code yX3_requireSize cX3_requireSize 1 none, .methodLink RX3 81 yX3_requireRoomFor, .static yX3_requireRoomFor, .code yX3_requireRoomFor cX3_requireRoomFor 2 none, .classLink RX3 51 "java/lang/IllegalStateException", .initialized "java/lang/IllegalStateException", .instanceMethod yX2_wholeStock, .initialized RX2, .selects RX2 yX2_wholeStock yX2_wholeStock, .code yX2_wholeStock cX2_wholeStock 3 (some .int), .fieldLink RX2 15 "MarkdownPlanner$Store" "pieces" "[I"] ++ wsX20 ++ wsX30 ++ (vx_atS RX3 109 "java/lang/IllegalArgumentException" ["java/lang/RuntimeException", "java/lang/Exception"]).filter goodWord ++ (vx_atS RX3 55 "java/lang/IllegalStateException" ["java/lang/RuntimeException", "java/lang/Exception"]).filter goodWord)
def wsX3_requireSeasonOn : List Cond := .code yX3_requireSeasonOn cX3_requireSeasonOn 1 none :: ([.classLink RX3 51 "java/lang/IllegalStateException", .initialized "java/lang/IllegalStateException", .fieldLink RX3 12 "MarkdownPlanner" "season" "LMarkdownPlanner$Season;"] ++ wsX30 ++ wsX10 ++ (vx_atS RX3 55 "java/lang/IllegalStateException" ["java/lang/RuntimeException", "java/lang/Exception"]).filter goodWord)
def wsX3_markDown_r1 : List Cond := [Cond.classLink RX3 51 "java/lang/IllegalStateException", Cond.initialized "java/lang/IllegalStateException", Cond.fieldLink RX3 12 "MarkdownPlanner" "season" "LMarkdownPlanner$Season;", Cond.methodLink RX3 62 yX3_storeOf, Cond.instanceMethod yX3_storeOf, Cond.selects RX3 yX3_storeOf yX3_storeOf, Cond.initialized RX3, Cond.code yX3_storeOf cX3_storeOf 2 (some (.object "MarkdownPlanner$Store")), Cond.fieldLink RX3 18 "MarkdownPlanner" "stores" "[LMarkdownPlanner$Store;", Cond.methodLink RX3 30 yX3_requireWithin, Cond.static yX3_requireWithin, Cond.code yX3_requireWithin cX3_requireWithin 3 none, Cond.classLink RX3 105 "java/lang/IllegalArgumentException", Cond.initialized "java/lang/IllegalArgumentException", Cond.methodLink RX3 44 yX3_requireStep, Cond.static yX3_requireStep, Cond.code yX3_requireStep cX3_requireStep 1 none, Cond.methodLink RX3 88 yX3_requireSeasonOn, Cond.instanceMethod yX3_requireSeasonOn, Cond.selects RX3 yX3_requireSeasonOn yX3_requireSeasonOn, Cond.code yX3_requireSeasonOn cX3_requireSeasonOn 1 none, Cond.instanceMethod yX2_waitFrom, Cond.initialized RX2, Cond.selects RX2 yX2_waitFrom yX2_waitFrom]
def wsX3_markDown_r2 : List Cond := [Cond.code yX2_waitFrom cX2_waitFrom 3 (some .int), Cond.fieldLink RX2 18 "MarkdownPlanner$Store" "markedDownIn" "I", Cond.methodLink RX2 28 Lib.Math.max.name, Cond.static Lib.Math.max.name, Cond.initialized "java/lang/Math", Cond.code Lib.Math.max.name Lib.Math.max.code 2 (some .int)]
def wsX3_markDown : List Cond := .code yX3_markDown cX3_markDown 4 (some .int) :: ((wsX3_markDown_r1 ++ wsX3_markDown_r2) ++ wsX20 ++ wsX30 ++ wsX10 ++ (vx_atS RX3 55 "java/lang/IllegalStateException" ["java/lang/RuntimeException", "java/lang/Exception"]).filter goodWord ++ (vx_atS RX3 109 "java/lang/IllegalArgumentException" ["java/lang/RuntimeException", "java/lang/Exception"]).filter goodWord)
def wsX3_move_r1 : List Cond := [Cond.classLink RX3 105 "java/lang/IllegalArgumentException", Cond.initialized "java/lang/IllegalArgumentException", Cond.classLink RX3 51 "java/lang/IllegalStateException", Cond.initialized "java/lang/IllegalStateException", Cond.fieldLink RX3 12 "MarkdownPlanner" "season" "LMarkdownPlanner$Season;", Cond.methodLink RX3 62 yX3_storeOf, Cond.instanceMethod yX3_storeOf, Cond.selects RX3 yX3_storeOf yX3_storeOf, Cond.initialized RX3, Cond.code yX3_storeOf cX3_storeOf 2 (some (.object "MarkdownPlanner$Store")), Cond.fieldLink RX3 18 "MarkdownPlanner" "stores" "[LMarkdownPlanner$Store;", Cond.methodLink RX3 30 yX3_requireWithin, Cond.static yX3_requireWithin, Cond.code yX3_requireWithin cX3_requireWithin 3 none, Cond.methodLink RX3 78 yX3_requireSize, Cond.static yX3_requireSize, Cond.code yX3_requireSize cX3_requireSize 1 none, Cond.methodLink RX3 88 yX3_requireSeasonOn, Cond.instanceMethod yX3_requireSeasonOn, Cond.selects RX3 yX3_requireSeasonOn yX3_requireSeasonOn, Cond.code yX3_requireSeasonOn cX3_requireSeasonOn 1 none, Cond.methodLink RX3 81 yX3_requireRoomFor, Cond.static yX3_requireRoomFor, Cond.code yX3_requireRoomFor cX3_requireRoomFor 2 none]
def wsX3_move_r2 : List Cond := [Cond.instanceMethod yX2_wholeStock, Cond.initialized RX2, Cond.selects RX2 yX2_wholeStock yX2_wholeStock, Cond.code yX2_wholeStock cX2_wholeStock 3 (some .int), Cond.fieldLink RX2 15 "MarkdownPlanner$Store" "pieces" "[I"]
def wsX3_move : List Cond := .code yX3_move cX3_move 8 (some .int) :: ((wsX3_move_r1 ++ wsX3_move_r2) ++ wsX20 ++ wsX30 ++ wsX10 ++ (vx_atS RX3 109 "java/lang/IllegalArgumentException" ["java/lang/RuntimeException", "java/lang/Exception"]).filter goodWord ++ (vx_atS RX3 55 "java/lang/IllegalStateException" ["java/lang/RuntimeException", "java/lang/Exception"]).filter goodWord)
def wsX3_run_r1 : List Cond := [Cond.fieldLink RX3 18 "MarkdownPlanner" "stores" "[LMarkdownPlanner$Store;", Cond.fieldLink RX3 12 "MarkdownPlanner" "season" "LMarkdownPlanner$Season;", Cond.methodLink RX3 88 yX3_requireSeasonOn, Cond.instanceMethod yX3_requireSeasonOn, Cond.selects RX3 yX3_requireSeasonOn yX3_requireSeasonOn, Cond.initialized RX3, Cond.code yX3_requireSeasonOn cX3_requireSeasonOn 1 none, Cond.classLink RX3 51 "java/lang/IllegalStateException", Cond.initialized "java/lang/IllegalStateException", Cond.instanceMethod yX2_sellForAWeek, Cond.initialized RX2, Cond.selects RX2 yX2_sellForAWeek yX2_sellForAWeek, Cond.code yX2_sellForAWeek cX2_sellForAWeek 3 (some .int), Cond.fieldLink RX2 22 "MarkdownPlanner$Store" "step" "I", Cond.fieldLink RX2 15 "MarkdownPlanner$Store" "pieces" "[I", Cond.fieldLink RX2 25 "MarkdownPlanner$Store" "piecesSold" "I", Cond.methodLink RX2 44 yX2_salesAt, Cond.instanceMethod yX2_salesAt, Cond.selects RX2 yX2_salesAt yX2_salesAt, Cond.code yX2_salesAt cX2_salesAt 2 (some .int), Cond.fieldLink RX2 9 "MarkdownPlanner$Store" "demands" "[I", Cond.methodLink RX2 41 Lib.Math.min.name, Cond.static Lib.Math.min.name, Cond.initialized "java/lang/Math"]
def wsX3_run_r2 : List Cond := [Cond.code Lib.Math.min.name Lib.Math.min.code 2 (some .int), Cond.methodLink RX2 34 yX2_sizesInStock, Cond.instanceMethod yX2_sizesInStock, Cond.selects RX2 yX2_sizesInStock yX2_sizesInStock, Cond.code yX2_sizesInStock cX2_sizesInStock 3 (some .int), Cond.methodLink RX2 38 yX2_wholeStock, Cond.instanceMethod yX2_wholeStock, Cond.selects RX2 yX2_wholeStock yX2_wholeStock, Cond.code yX2_wholeStock cX2_wholeStock 3 (some .int), Cond.methodLink RX2 48 yX2_fullestSize, Cond.instanceMethod yX2_fullestSize, Cond.selects RX2 yX2_fullestSize yX2_fullestSize, Cond.code yX2_fullestSize cX2_fullestSize 3 (some .int)]
def wsX3_run : List Cond := .code yX3_run cX3_run 6 (some .int) :: ((wsX3_run_r1 ++ wsX3_run_r2) ++ wsX30 ++ wsX10 ++ wsX20 ++ (vx_atS RX3 55 "java/lang/IllegalStateException" ["java/lang/RuntimeException", "java/lang/Exception"]).filter goodWord)
def wsX3_week : List Cond := .code yX3_week cX3_week 1 (some .int) :: ([.fieldLink RX3 12 "MarkdownPlanner" "season" "LMarkdownPlanner$Season;"] ++ wsX30 ++ wsX10)
def wsX3_stock : List Cond := .code yX3_stock cX3_stock 4 (some .int) :: ([.methodLink RX3 62 yX3_storeOf, .instanceMethod yX3_storeOf, .selects RX3 yX3_storeOf yX3_storeOf, .initialized RX3, .code yX3_storeOf cX3_storeOf 2 (some (.object "MarkdownPlanner$Store")), .fieldLink RX3 18 "MarkdownPlanner" "stores" "[LMarkdownPlanner$Store;", .methodLink RX3 30 yX3_requireWithin, .static yX3_requireWithin, .code yX3_requireWithin cX3_requireWithin 3 none, .classLink RX3 105 "java/lang/IllegalArgumentException", .initialized "java/lang/IllegalArgumentException", .methodLink RX3 78 yX3_requireSize, .static yX3_requireSize, .code yX3_requireSize cX3_requireSize 1 none] ++ wsX20 ++ wsX30 ++ (vx_atS RX3 109 "java/lang/IllegalArgumentException" ["java/lang/RuntimeException", "java/lang/Exception"]).filter goodWord)
def wsX3_step : List Cond := .code yX3_step cX3_step 2 (some .int) :: ([.methodLink RX3 62 yX3_storeOf, .instanceMethod yX3_storeOf, .selects RX3 yX3_storeOf yX3_storeOf, .initialized RX3, .code yX3_storeOf cX3_storeOf 2 (some (.object "MarkdownPlanner$Store")), .fieldLink RX3 18 "MarkdownPlanner" "stores" "[LMarkdownPlanner$Store;", .methodLink RX3 30 yX3_requireWithin, .static yX3_requireWithin, .code yX3_requireWithin cX3_requireWithin 3 none, .classLink RX3 105 "java/lang/IllegalArgumentException", .initialized "java/lang/IllegalArgumentException"] ++ wsX20 ++ wsX30 ++ (vx_atS RX3 109 "java/lang/IllegalArgumentException" ["java/lang/RuntimeException", "java/lang/Exception"]).filter goodWord)
def wsX3_weeksToWait : List Cond := .code yX3_weeksToWait cX3_weeksToWait 2 (some .int) :: ([.fieldLink RX3 12 "MarkdownPlanner" "season" "LMarkdownPlanner$Season;", .methodLink RX3 62 yX3_storeOf, .instanceMethod yX3_storeOf, .selects RX3 yX3_storeOf yX3_storeOf, .initialized RX3, .code yX3_storeOf cX3_storeOf 2 (some (.object "MarkdownPlanner$Store")), .fieldLink RX3 18 "MarkdownPlanner" "stores" "[LMarkdownPlanner$Store;", .methodLink RX3 30 yX3_requireWithin, .static yX3_requireWithin, .code yX3_requireWithin cX3_requireWithin 3 none, .classLink RX3 105 "java/lang/IllegalArgumentException", .initialized "java/lang/IllegalArgumentException", .instanceMethod yX2_waitFrom, .initialized RX2, .selects RX2 yX2_waitFrom yX2_waitFrom, .code yX2_waitFrom cX2_waitFrom 3 (some .int), .fieldLink RX2 18 "MarkdownPlanner$Store" "markedDownIn" "I", .methodLink RX2 28 Lib.Math.max.name, .static Lib.Math.max.name, .initialized "java/lang/Math", .code Lib.Math.max.name Lib.Math.max.code 2 (some .int)] ++ wsX30 ++ wsX10 ++ wsX20 ++ (vx_atS RX3 109 "java/lang/IllegalArgumentException" ["java/lang/RuntimeException", "java/lang/Exception"]).filter goodWord)
def wsX3_sold : List Cond := .code yX3_sold cX3_sold 2 (some .int) :: ([.methodLink RX3 62 yX3_storeOf, .instanceMethod yX3_storeOf, .selects RX3 yX3_storeOf yX3_storeOf, .initialized RX3, .code yX3_storeOf cX3_storeOf 2 (some (.object "MarkdownPlanner$Store")), .fieldLink RX3 18 "MarkdownPlanner" "stores" "[LMarkdownPlanner$Store;", .methodLink RX3 30 yX3_requireWithin, .static yX3_requireWithin, .code yX3_requireWithin cX3_requireWithin 3 none, .classLink RX3 105 "java/lang/IllegalArgumentException", .initialized "java/lang/IllegalArgumentException"] ++ wsX20 ++ wsX30 ++ (vx_atS RX3 109 "java/lang/IllegalArgumentException" ["java/lang/RuntimeException", "java/lang/Exception"]).filter goodWord)
def wsX3_taken : List Cond := .code yX3_taken cX3_taken 1 (some .int) :: ([.fieldLink RX3 12 "MarkdownPlanner" "season" "LMarkdownPlanner$Season;"] ++ wsX30 ++ wsX10)
def wsX3_wouldSell_r1 : List Cond := [Cond.methodLink RX3 62 yX3_storeOf, Cond.instanceMethod yX3_storeOf, Cond.selects RX3 yX3_storeOf yX3_storeOf, Cond.initialized RX3, Cond.code yX3_storeOf cX3_storeOf 2 (some (.object "MarkdownPlanner$Store")), Cond.fieldLink RX3 18 "MarkdownPlanner" "stores" "[LMarkdownPlanner$Store;", Cond.methodLink RX3 30 yX3_requireWithin, Cond.static yX3_requireWithin, Cond.code yX3_requireWithin cX3_requireWithin 3 none, Cond.classLink RX3 105 "java/lang/IllegalArgumentException", Cond.initialized "java/lang/IllegalArgumentException", Cond.methodLink RX3 44 yX3_requireStep, Cond.static yX3_requireStep, Cond.code yX3_requireStep cX3_requireStep 1 none, Cond.instanceMethod yX2_salesAt, Cond.initialized RX2, Cond.selects RX2 yX2_salesAt yX2_salesAt, Cond.code yX2_salesAt cX2_salesAt 2 (some .int), Cond.fieldLink RX2 9 "MarkdownPlanner$Store" "demands" "[I", Cond.methodLink RX2 41 Lib.Math.min.name, Cond.static Lib.Math.min.name, Cond.initialized "java/lang/Math", Cond.code Lib.Math.min.name Lib.Math.min.code 2 (some .int), Cond.methodLink RX2 34 yX2_sizesInStock]
def wsX3_wouldSell_r2 : List Cond := [Cond.instanceMethod yX2_sizesInStock, Cond.selects RX2 yX2_sizesInStock yX2_sizesInStock, Cond.code yX2_sizesInStock cX2_sizesInStock 3 (some .int), Cond.fieldLink RX2 15 "MarkdownPlanner$Store" "pieces" "[I", Cond.methodLink RX2 38 yX2_wholeStock, Cond.instanceMethod yX2_wholeStock, Cond.selects RX2 yX2_wholeStock yX2_wholeStock, Cond.code yX2_wholeStock cX2_wholeStock 3 (some .int)]
def wsX3_wouldSell : List Cond := .code yX3_wouldSell cX3_wouldSell 4 (some .int) :: ((wsX3_wouldSell_r1 ++ wsX3_wouldSell_r2) ++ wsX30 ++ wsX20 ++ (vx_atS RX3 109 "java/lang/IllegalArgumentException" ["java/lang/RuntimeException", "java/lang/Exception"]).filter goodWord)
def wsX3_best_r1 : List Cond := [Cond.fieldLink RX3 25 "MarkdownPlanner" "plans" "LMarkdownPlanner$Plans;", Cond.fieldLink RX3 12 "MarkdownPlanner" "season" "LMarkdownPlanner$Season;", Cond.methodLink RX3 62 yX3_storeOf, Cond.instanceMethod yX3_storeOf, Cond.selects RX3 yX3_storeOf yX3_storeOf, Cond.initialized RX3, Cond.code yX3_storeOf cX3_storeOf 2 (some (.object "MarkdownPlanner$Store")), Cond.fieldLink RX3 18 "MarkdownPlanner" "stores" "[LMarkdownPlanner$Store;", Cond.methodLink RX3 30 yX3_requireWithin, Cond.static yX3_requireWithin, Cond.code yX3_requireWithin cX3_requireWithin 3 none, Cond.classLink RX3 105 "java/lang/IllegalArgumentException", Cond.initialized "java/lang/IllegalArgumentException", Cond.instanceMethod yX0_lookAt, Cond.initialized RX0, Cond.selects RX0 yX0_lookAt yX0_lookAt, Cond.code yX0_lookAt cX0_lookAt 3 none, Cond.fieldLink RX0 9 "MarkdownPlanner$Plans" "prices" "[I", Cond.methodLink RX0 27 arraycopyName, Cond.native arraycopyName, Cond.static arraycopyName, Cond.initialized "java/lang/System", Cond.fieldLink RX0 15 "MarkdownPlanner$Plans" "demands" "[I", Cond.fieldLink RX0 40 "MarkdownPlanner$Plans" "firstWeek" "I"]
def wsX3_best_r2 : List Cond := [Cond.fieldLink RX0 46 "MarkdownPlanner$Plans" "endWeek" "I", Cond.fieldLink RX0 52 "MarkdownPlanner$Plans" "gap" "I", Cond.fieldLink RX0 56 "MarkdownPlanner$Plans" "remnant" "I", Cond.methodLink RX0 61 Lib.Math.min.name, Cond.static Lib.Math.min.name, Cond.initialized "java/lang/Math", Cond.code Lib.Math.min.name Lib.Math.min.code 2 (some .int), Cond.fieldLink RX0 66 "MarkdownPlanner$Plans" "freeWeek" "I", Cond.fieldLink RX0 72 "MarkdownPlanner$Plans" "ownStep" "I", Cond.fieldLink RX0 79 "MarkdownPlanner$Plans" "ownStock" "I", Cond.instanceMethod yX2_waitFrom, Cond.initialized RX2, Cond.selects RX2 yX2_waitFrom yX2_waitFrom, Cond.code yX2_waitFrom cX2_waitFrom 3 (some .int), Cond.fieldLink RX2 18 "MarkdownPlanner$Store" "markedDownIn" "I", Cond.methodLink RX2 28 Lib.Math.max.name, Cond.static Lib.Math.max.name, Cond.code Lib.Math.max.name Lib.Math.max.code 2 (some .int), Cond.instanceMethod yX2_wholeStock, Cond.selects RX2 yX2_wholeStock yX2_wholeStock, Cond.code yX2_wholeStock cX2_wholeStock 3 (some .int), Cond.fieldLink RX2 15 "MarkdownPlanner$Store" "pieces" "[I", Cond.instanceMethod yX0_greatestWorth, Cond.selects RX0 yX0_greatestWorth yX0_greatestWorth]
def wsX3_best_r3 : List Cond := [Cond.code yX0_greatestWorth cX0_greatestWorth 2 (some .int), Cond.methodLink RX0 82 yX0_tellWorths, Cond.instanceMethod yX0_tellWorths, Cond.selects RX0 yX0_tellWorths yX0_tellWorths, Cond.code yX0_tellWorths cX0_tellWorths 5 none, Cond.fieldLink RX0 94 "MarkdownPlanner$Plans" "mostLeft" "I", Cond.fieldLink RX0 18 "MarkdownPlanner$Plans" "worths" "[I", Cond.methodLink RX0 97 yX0_placeOf, Cond.static yX0_placeOf, Cond.code yX0_placeOf cX0_placeOf 3 (some .int), Cond.methodLink RX0 100 yX0_worthOfChoosing, Cond.instanceMethod yX0_worthOfChoosing, Cond.selects RX0 yX0_worthOfChoosing yX0_worthOfChoosing, Cond.code yX0_worthOfChoosing cX0_worthOfChoosing 6 (some .int), Cond.methodLink RX0 106 Lib.Math.max.name, Cond.methodLink RX0 103 yX0_worthOfTaking, Cond.instanceMethod yX0_worthOfTaking, Cond.selects RX0 yX0_worthOfTaking yX0_worthOfTaking, Cond.code yX0_worthOfTaking cX0_worthOfTaking 5 (some .int), Cond.methodLink RX0 86 yX0_worthOfKeeping, Cond.instanceMethod yX0_worthOfKeeping, Cond.selects RX0 yX0_worthOfKeeping yX0_worthOfKeeping, Cond.code yX0_worthOfKeeping cX0_worthOfKeeping 8 (some .int), Cond.methodLink RX0 109 yX0_worthFrom]
def wsX3_best_r4 : List Cond := [Cond.instanceMethod yX0_worthFrom, Cond.selects RX0 yX0_worthFrom yX0_worthFrom, Cond.code yX0_worthFrom cX0_worthFrom 4 (some .int)]
def wsX3_best : List Cond := .code yX3_best cX3_best 2 (some .int) :: ((wsX3_best_r1 ++ (wsX3_best_r2 ++ (wsX3_best_r3 ++ wsX3_best_r4))) ++ wsX30 ++ wsX10 ++ wsX00 ++ wsX20 ++ (vx_atS RX3 109 "java/lang/IllegalArgumentException" ["java/lang/RuntimeException", "java/lang/Exception"]).filter goodWord)
def wsX3_planned_r1 : List Cond := [Cond.fieldLink RX3 12 "MarkdownPlanner" "season" "LMarkdownPlanner$Season;", Cond.fieldLink RX3 25 "MarkdownPlanner" "plans" "LMarkdownPlanner$Plans;", Cond.methodLink RX3 62 yX3_storeOf, Cond.instanceMethod yX3_storeOf, Cond.selects RX3 yX3_storeOf yX3_storeOf, Cond.initialized RX3, Cond.code yX3_storeOf cX3_storeOf 2 (some (.object "MarkdownPlanner$Store")), Cond.fieldLink RX3 18 "MarkdownPlanner" "stores" "[LMarkdownPlanner$Store;", Cond.methodLink RX3 30 yX3_requireWithin, Cond.static yX3_requireWithin, Cond.code yX3_requireWithin cX3_requireWithin 3 none, Cond.classLink RX3 105 "java/lang/IllegalArgumentException", Cond.initialized "java/lang/IllegalArgumentException", Cond.instanceMethod yX0_lookAt, Cond.initialized RX0, Cond.selects RX0 yX0_lookAt yX0_lookAt, Cond.code yX0_lookAt cX0_lookAt 3 none, Cond.fieldLink RX0 9 "MarkdownPlanner$Plans" "prices" "[I", Cond.methodLink RX0 27 arraycopyName, Cond.native arraycopyName, Cond.static arraycopyName, Cond.initialized "java/lang/System", Cond.fieldLink RX0 15 "MarkdownPlanner$Plans" "demands" "[I", Cond.fieldLink RX0 40 "MarkdownPlanner$Plans" "firstWeek" "I"]
def wsX3_planned_r2 : List Cond := [Cond.fieldLink RX0 46 "MarkdownPlanner$Plans" "endWeek" "I", Cond.fieldLink RX0 52 "MarkdownPlanner$Plans" "gap" "I", Cond.fieldLink RX0 56 "MarkdownPlanner$Plans" "remnant" "I", Cond.methodLink RX0 61 Lib.Math.min.name, Cond.static Lib.Math.min.name, Cond.initialized "java/lang/Math", Cond.code Lib.Math.min.name Lib.Math.min.code 2 (some .int), Cond.fieldLink RX0 66 "MarkdownPlanner$Plans" "freeWeek" "I", Cond.fieldLink RX0 72 "MarkdownPlanner$Plans" "ownStep" "I", Cond.fieldLink RX0 79 "MarkdownPlanner$Plans" "ownStock" "I", Cond.instanceMethod yX2_waitFrom, Cond.initialized RX2, Cond.selects RX2 yX2_waitFrom yX2_waitFrom, Cond.code yX2_waitFrom cX2_waitFrom 3 (some .int), Cond.fieldLink RX2 18 "MarkdownPlanner$Store" "markedDownIn" "I", Cond.methodLink RX2 28 Lib.Math.max.name, Cond.static Lib.Math.max.name, Cond.code Lib.Math.max.name Lib.Math.max.code 2 (some .int), Cond.instanceMethod yX2_wholeStock, Cond.selects RX2 yX2_wholeStock yX2_wholeStock, Cond.code yX2_wholeStock cX2_wholeStock 3 (some .int), Cond.fieldLink RX2 15 "MarkdownPlanner$Store" "pieces" "[I", Cond.instanceMethod yX0_bestStepIn, Cond.selects RX0 yX0_bestStepIn yX0_bestStepIn]
def wsX3_planned_r3 : List Cond := [Cond.code yX0_bestStepIn cX0_bestStepIn 7 (some .int), Cond.methodLink RX0 82 yX0_tellWorths, Cond.instanceMethod yX0_tellWorths, Cond.selects RX0 yX0_tellWorths yX0_tellWorths, Cond.code yX0_tellWorths cX0_tellWorths 5 none, Cond.fieldLink RX0 94 "MarkdownPlanner$Plans" "mostLeft" "I", Cond.fieldLink RX0 18 "MarkdownPlanner$Plans" "worths" "[I", Cond.methodLink RX0 97 yX0_placeOf, Cond.static yX0_placeOf, Cond.code yX0_placeOf cX0_placeOf 3 (some .int), Cond.methodLink RX0 100 yX0_worthOfChoosing, Cond.instanceMethod yX0_worthOfChoosing, Cond.selects RX0 yX0_worthOfChoosing yX0_worthOfChoosing, Cond.code yX0_worthOfChoosing cX0_worthOfChoosing 6 (some .int), Cond.methodLink RX0 106 Lib.Math.max.name, Cond.methodLink RX0 103 yX0_worthOfTaking, Cond.instanceMethod yX0_worthOfTaking, Cond.selects RX0 yX0_worthOfTaking yX0_worthOfTaking, Cond.code yX0_worthOfTaking cX0_worthOfTaking 5 (some .int), Cond.methodLink RX0 86 yX0_worthOfKeeping, Cond.instanceMethod yX0_worthOfKeeping, Cond.selects RX0 yX0_worthOfKeeping yX0_worthOfKeeping, Cond.code yX0_worthOfKeeping cX0_worthOfKeeping 8 (some .int), Cond.methodLink RX0 109 yX0_worthFrom]
def wsX3_planned_r4 : List Cond := [Cond.instanceMethod yX0_worthFrom, Cond.selects RX0 yX0_worthFrom yX0_worthFrom, Cond.code yX0_worthFrom cX0_worthFrom 4 (some .int), Cond.methodLink RX0 90 yX0_lowestBestStep, Cond.instanceMethod yX0_lowestBestStep, Cond.selects RX0 yX0_lowestBestStep yX0_lowestBestStep, Cond.code yX0_lowestBestStep cX0_lowestBestStep 6 (some .int)]
def wsX3_planned : List Cond := .code yX3_planned cX3_planned 4 (some .int) :: ((wsX3_planned_r1 ++ (wsX3_planned_r2 ++ (wsX3_planned_r3 ++ wsX3_planned_r4))) ++ wsX30 ++ wsX10 ++ wsX00 ++ wsX20 ++ (vx_atS RX3 109 "java/lang/IllegalArgumentException" ["java/lang/RuntimeException", "java/lang/Exception"]).filter goodWord)
def wsX3_bestLeaving_r1 : List Cond := [Cond.fieldLink RX3 25 "MarkdownPlanner" "plans" "LMarkdownPlanner$Plans;", Cond.fieldLink RX3 12 "MarkdownPlanner" "season" "LMarkdownPlanner$Season;", Cond.methodLink RX3 62 yX3_storeOf, Cond.instanceMethod yX3_storeOf, Cond.selects RX3 yX3_storeOf yX3_storeOf, Cond.initialized RX3, Cond.code yX3_storeOf cX3_storeOf 2 (some (.object "MarkdownPlanner$Store")), Cond.fieldLink RX3 18 "MarkdownPlanner" "stores" "[LMarkdownPlanner$Store;", Cond.methodLink RX3 30 yX3_requireWithin, Cond.static yX3_requireWithin, Cond.code yX3_requireWithin cX3_requireWithin 3 none, Cond.classLink RX3 105 "java/lang/IllegalArgumentException", Cond.initialized "java/lang/IllegalArgumentException", Cond.instanceMethod yX0_lookAt, Cond.initialized RX0, Cond.selects RX0 yX0_lookAt yX0_lookAt, Cond.code yX0_lookAt cX0_lookAt 3 none, Cond.fieldLink RX0 9 "MarkdownPlanner$Plans" "prices" "[I", Cond.methodLink RX0 27 arraycopyName, Cond.native arraycopyName, Cond.static arraycopyName, Cond.initialized "java/lang/System", Cond.fieldLink RX0 15 "MarkdownPlanner$Plans" "demands" "[I", Cond.fieldLink RX0 40 "MarkdownPlanner$Plans" "firstWeek" "I"]
def wsX3_bestLeaving_r2 : List Cond := [Cond.fieldLink RX0 46 "MarkdownPlanner$Plans" "endWeek" "I", Cond.fieldLink RX0 52 "MarkdownPlanner$Plans" "gap" "I", Cond.fieldLink RX0 56 "MarkdownPlanner$Plans" "remnant" "I", Cond.methodLink RX0 61 Lib.Math.min.name, Cond.static Lib.Math.min.name, Cond.initialized "java/lang/Math", Cond.code Lib.Math.min.name Lib.Math.min.code 2 (some .int), Cond.fieldLink RX0 66 "MarkdownPlanner$Plans" "freeWeek" "I", Cond.fieldLink RX0 72 "MarkdownPlanner$Plans" "ownStep" "I", Cond.fieldLink RX0 79 "MarkdownPlanner$Plans" "ownStock" "I", Cond.instanceMethod yX2_waitFrom, Cond.initialized RX2, Cond.selects RX2 yX2_waitFrom yX2_waitFrom, Cond.code yX2_waitFrom cX2_waitFrom 3 (some .int), Cond.fieldLink RX2 18 "MarkdownPlanner$Store" "markedDownIn" "I", Cond.methodLink RX2 28 Lib.Math.max.name, Cond.static Lib.Math.max.name, Cond.code Lib.Math.max.name Lib.Math.max.code 2 (some .int), Cond.instanceMethod yX2_wholeStock, Cond.selects RX2 yX2_wholeStock yX2_wholeStock, Cond.code yX2_wholeStock cX2_wholeStock 3 (some .int), Cond.fieldLink RX2 15 "MarkdownPlanner$Store" "pieces" "[I", Cond.instanceMethod yX0_greatestWorth, Cond.selects RX0 yX0_greatestWorth yX0_greatestWorth]
def wsX3_bestLeaving_r3 : List Cond := [Cond.code yX0_greatestWorth cX0_greatestWorth 2 (some .int), Cond.methodLink RX0 82 yX0_tellWorths, Cond.instanceMethod yX0_tellWorths, Cond.selects RX0 yX0_tellWorths yX0_tellWorths, Cond.code yX0_tellWorths cX0_tellWorths 5 none, Cond.fieldLink RX0 94 "MarkdownPlanner$Plans" "mostLeft" "I", Cond.fieldLink RX0 18 "MarkdownPlanner$Plans" "worths" "[I", Cond.methodLink RX0 97 yX0_placeOf, Cond.static yX0_placeOf, Cond.code yX0_placeOf cX0_placeOf 3 (some .int), Cond.methodLink RX0 100 yX0_worthOfChoosing, Cond.instanceMethod yX0_worthOfChoosing, Cond.selects RX0 yX0_worthOfChoosing yX0_worthOfChoosing, Cond.code yX0_worthOfChoosing cX0_worthOfChoosing 6 (some .int), Cond.methodLink RX0 106 Lib.Math.max.name, Cond.methodLink RX0 103 yX0_worthOfTaking, Cond.instanceMethod yX0_worthOfTaking, Cond.selects RX0 yX0_worthOfTaking yX0_worthOfTaking, Cond.code yX0_worthOfTaking cX0_worthOfTaking 5 (some .int), Cond.methodLink RX0 86 yX0_worthOfKeeping, Cond.instanceMethod yX0_worthOfKeeping, Cond.selects RX0 yX0_worthOfKeeping yX0_worthOfKeeping, Cond.code yX0_worthOfKeeping cX0_worthOfKeeping 8 (some .int), Cond.methodLink RX0 109 yX0_worthFrom]
def wsX3_bestLeaving_r4 : List Cond := [Cond.instanceMethod yX0_worthFrom, Cond.selects RX0 yX0_worthFrom yX0_worthFrom, Cond.code yX0_worthFrom cX0_worthFrom 4 (some .int)]
def wsX3_bestLeaving : List Cond := .code yX3_bestLeaving cX3_bestLeaving 4 (some .int) :: ((wsX3_bestLeaving_r1 ++ (wsX3_bestLeaving_r2 ++ (wsX3_bestLeaving_r3 ++ wsX3_bestLeaving_r4))) ++ wsX30 ++ wsX10 ++ wsX00 ++ wsX20 ++ (vx_atS RX3 109 "java/lang/IllegalArgumentException" ["java/lang/RuntimeException", "java/lang/Exception"]).filter goodWord)
def wsJ9_max_7cf53 : List Cond := .code yJ9_max_7cf53 cJ9_max_7cf53 2 (some .int) :: ([])
def wsJ9_min_7cf53 : List Cond := .code yJ9_min_7cf53 cJ9_min_7cf53 2 (some .int) :: ([])
def wsL_drawn : List Cond := .code yL_drawn cL_drawn 3 (some .int) :: ([.constant RL 7 (1073741823)])
def wsL_does_r1 : List Cond := [Cond.classLink RL 36 "java/lang/IllegalArgumentException", Cond.classLink RL 39 "java/lang/IllegalStateException", Cond.constant RL 38 (-3000000), Cond.methodLink RL 8 yX3_begin, Cond.instanceMethod yX3_begin, Cond.selects RX3 yX3_begin yX3_begin, Cond.initialized RX3, Cond.code yX3_begin cX3_begin 7 (some .int), Cond.fieldLink RX3 12 "MarkdownPlanner" "season" "LMarkdownPlanner$Season;", Cond.fieldLink RX3 18 "MarkdownPlanner" "stores" "[LMarkdownPlanner$Store;", Cond.methodLink RX3 30 yX3_requireWithin, Cond.static yX3_requireWithin, Cond.code yX3_requireWithin cX3_requireWithin 3 none, Cond.classLink RX3 105 "java/lang/IllegalArgumentException", Cond.initialized "java/lang/IllegalArgumentException", Cond.instanceMethod yX1_startAnew, Cond.initialized RX1, Cond.selects RX1 yX1_startAnew yX1_startAnew, Cond.code yX1_startAnew cX1_startAnew 2 none, Cond.fieldLink RX1 15 "MarkdownPlanner$Season" "weeks" "I", Cond.fieldLink RX1 22 "MarkdownPlanner$Season" "week" "I", Cond.fieldLink RX1 25 "MarkdownPlanner$Season" "taken" "I", Cond.instanceMethod yX2_startAnew, Cond.initialized RX2]
def wsL_does_r2 : List Cond := [Cond.selects RX2 yX2_startAnew yX2_startAnew, Cond.code yX2_startAnew cX2_startAnew 1 none, Cond.fieldLink RX2 22 "MarkdownPlanner$Store" "step" "I", Cond.fieldLink RX2 18 "MarkdownPlanner$Store" "markedDownIn" "I", Cond.fieldLink RX2 25 "MarkdownPlanner$Store" "piecesSold" "I", Cond.methodLink RL 14 yX3_setPrice, Cond.instanceMethod yX3_setPrice, Cond.selects RX3 yX3_setPrice yX3_setPrice, Cond.code yX3_setPrice cX3_setPrice 4 (some .int), Cond.classLink RX3 51 "java/lang/IllegalStateException", Cond.initialized "java/lang/IllegalStateException", Cond.methodLink RX3 44 yX3_requireStep, Cond.static yX3_requireStep, Cond.code yX3_requireStep cX3_requireStep 1 none, Cond.instanceMethod yX1_keepsLadderDown, Cond.selects RX1 yX1_keepsLadderDown yX1_keepsLadderDown, Cond.code yX1_keepsLadderDown cX1_keepsLadderDown 5 (some .boolean), Cond.fieldLink RX1 9 "MarkdownPlanner$Season" "prices" "[I", Cond.methodLink RL 18 yX3_setDemand, Cond.instanceMethod yX3_setDemand, Cond.selects RX3 yX3_setDemand yX3_setDemand, Cond.code yX3_setDemand cX3_setDemand 6 (some .int), Cond.methodLink RX3 62 yX3_storeOf, Cond.instanceMethod yX3_storeOf]
def wsL_does_r3 : List Cond := [Cond.selects RX3 yX3_storeOf yX3_storeOf, Cond.code yX3_storeOf cX3_storeOf 2 (some (.object "MarkdownPlanner$Store")), Cond.methodLink RL 22 yX3_put, Cond.instanceMethod yX3_put, Cond.selects RX3 yX3_put yX3_put, Cond.code yX3_put cX3_put 5 (some .int), Cond.methodLink RX3 78 yX3_requireSize, Cond.static yX3_requireSize, Cond.code yX3_requireSize cX3_requireSize 1 none, Cond.methodLink RX3 81 yX3_requireRoomFor, Cond.static yX3_requireRoomFor, Cond.code yX3_requireRoomFor cX3_requireRoomFor 2 none, Cond.instanceMethod yX2_wholeStock, Cond.selects RX2 yX2_wholeStock yX2_wholeStock, Cond.code yX2_wholeStock cX2_wholeStock 3 (some .int), Cond.fieldLink RX2 15 "MarkdownPlanner$Store" "pieces" "[I", Cond.methodLink RL 25 yX3_move, Cond.instanceMethod yX3_move, Cond.selects RX3 yX3_move yX3_move, Cond.code yX3_move cX3_move 8 (some .int), Cond.methodLink RX3 88 yX3_requireSeasonOn, Cond.instanceMethod yX3_requireSeasonOn, Cond.selects RX3 yX3_requireSeasonOn yX3_requireSeasonOn, Cond.code yX3_requireSeasonOn cX3_requireSeasonOn 1 none]
def wsL_does_r4 : List Cond := [Cond.methodLink RL 29 yX3_markDown, Cond.instanceMethod yX3_markDown, Cond.selects RX3 yX3_markDown yX3_markDown, Cond.code yX3_markDown cX3_markDown 4 (some .int), Cond.instanceMethod yX2_waitFrom, Cond.selects RX2 yX2_waitFrom yX2_waitFrom, Cond.code yX2_waitFrom cX2_waitFrom 3 (some .int), Cond.methodLink RX2 28 Lib.Math.max.name, Cond.static Lib.Math.max.name, Cond.initialized "java/lang/Math", Cond.code Lib.Math.max.name Lib.Math.max.code 2 (some .int), Cond.methodLink RL 32 yX3_run, Cond.instanceMethod yX3_run, Cond.selects RX3 yX3_run yX3_run, Cond.code yX3_run cX3_run 6 (some .int), Cond.instanceMethod yX2_sellForAWeek, Cond.selects RX2 yX2_sellForAWeek yX2_sellForAWeek, Cond.code yX2_sellForAWeek cX2_sellForAWeek 3 (some .int), Cond.methodLink RX2 44 yX2_salesAt, Cond.instanceMethod yX2_salesAt, Cond.selects RX2 yX2_salesAt yX2_salesAt, Cond.code yX2_salesAt cX2_salesAt 2 (some .int), Cond.fieldLink RX2 9 "MarkdownPlanner$Store" "demands" "[I", Cond.methodLink RX2 41 Lib.Math.min.name]
def wsL_does_r5 : List Cond := [Cond.static Lib.Math.min.name, Cond.code Lib.Math.min.name Lib.Math.min.code 2 (some .int), Cond.methodLink RX2 34 yX2_sizesInStock, Cond.instanceMethod yX2_sizesInStock, Cond.selects RX2 yX2_sizesInStock yX2_sizesInStock, Cond.code yX2_sizesInStock cX2_sizesInStock 3 (some .int), Cond.methodLink RX2 38 yX2_wholeStock, Cond.methodLink RX2 48 yX2_fullestSize, Cond.instanceMethod yX2_fullestSize, Cond.selects RX2 yX2_fullestSize yX2_fullestSize, Cond.code yX2_fullestSize cX2_fullestSize 3 (some .int)]
def wsL_does : List Cond := .codeWith yL_does cL_does 7 (some .int) [(0, 97, 98, 36), (0, 97, 103, 39)] :: ((wsL_does_r1 ++ (wsL_does_r2 ++ (wsL_does_r3 ++ (wsL_does_r4 ++ wsL_does_r5)))) ++ wsX30 ++ wsX10 ++ wsX20 ++ (vx_atS RX3 109 "java/lang/IllegalArgumentException" ["java/lang/RuntimeException", "java/lang/Exception"]).filter goodWord ++ (vx_atS RX3 55 "java/lang/IllegalStateException" ["java/lang/RuntimeException", "java/lang/Exception"]).filter goodWord)
def wsL_rules : List Cond := .codeWith yL_rules cL_rules 5 (some .boolean) [(0, 7, 10, 36)] :: ([.classLink RL 36 "java/lang/IllegalArgumentException", .methodLink RL 41 yX3_setRules, .instanceMethod yX3_setRules, .selects RX3 yX3_setRules yX3_setRules, .initialized RX3, .code yX3_setRules cX3_setRules 4 none, .fieldLink RX3 12 "MarkdownPlanner" "season" "LMarkdownPlanner$Season;", .methodLink RX3 30 yX3_requireWithin, .static yX3_requireWithin, .code yX3_requireWithin cX3_requireWithin 3 none, .classLink RX3 105 "java/lang/IllegalArgumentException", .initialized "java/lang/IllegalArgumentException"] ++ wsX30 ++ wsX10 ++ (vx_atS RX3 109 "java/lang/IllegalArgumentException" ["java/lang/RuntimeException", "java/lang/Exception"]).filter goodWord)
def wsL_of_r1 : List Cond := [Cond.classLink RL 36 "java/lang/IllegalArgumentException", Cond.constant RL 38 (-3000000), Cond.methodLink RL 45 yX3_stock, Cond.instanceMethod yX3_stock, Cond.selects RX3 yX3_stock yX3_stock, Cond.initialized RX3, Cond.code yX3_stock cX3_stock 4 (some .int), Cond.methodLink RX3 62 yX3_storeOf, Cond.instanceMethod yX3_storeOf, Cond.selects RX3 yX3_storeOf yX3_storeOf, Cond.code yX3_storeOf cX3_storeOf 2 (some (.object "MarkdownPlanner$Store")), Cond.fieldLink RX3 18 "MarkdownPlanner" "stores" "[LMarkdownPlanner$Store;", Cond.methodLink RX3 30 yX3_requireWithin, Cond.static yX3_requireWithin, Cond.code yX3_requireWithin cX3_requireWithin 3 none, Cond.classLink RX3 105 "java/lang/IllegalArgumentException", Cond.initialized "java/lang/IllegalArgumentException", Cond.methodLink RX3 78 yX3_requireSize, Cond.static yX3_requireSize, Cond.code yX3_requireSize cX3_requireSize 1 none, Cond.methodLink RL 48 yX3_wouldSell, Cond.instanceMethod yX3_wouldSell, Cond.selects RX3 yX3_wouldSell yX3_wouldSell, Cond.code yX3_wouldSell cX3_wouldSell 4 (some .int)]
def wsL_of_r2 : List Cond := [Cond.methodLink RX3 44 yX3_requireStep, Cond.static yX3_requireStep, Cond.code yX3_requireStep cX3_requireStep 1 none, Cond.instanceMethod yX2_salesAt, Cond.initialized RX2, Cond.selects RX2 yX2_salesAt yX2_salesAt, Cond.code yX2_salesAt cX2_salesAt 2 (some .int), Cond.fieldLink RX2 9 "MarkdownPlanner$Store" "demands" "[I", Cond.methodLink RX2 41 Lib.Math.min.name, Cond.static Lib.Math.min.name, Cond.initialized "java/lang/Math", Cond.code Lib.Math.min.name Lib.Math.min.code 2 (some .int), Cond.methodLink RX2 34 yX2_sizesInStock, Cond.instanceMethod yX2_sizesInStock, Cond.selects RX2 yX2_sizesInStock yX2_sizesInStock, Cond.code yX2_sizesInStock cX2_sizesInStock 3 (some .int), Cond.fieldLink RX2 15 "MarkdownPlanner$Store" "pieces" "[I", Cond.methodLink RX2 38 yX2_wholeStock, Cond.instanceMethod yX2_wholeStock, Cond.selects RX2 yX2_wholeStock yX2_wholeStock, Cond.code yX2_wholeStock cX2_wholeStock 3 (some .int), Cond.methodLink RL 51 yX3_step, Cond.instanceMethod yX3_step, Cond.selects RX3 yX3_step yX3_step]
def wsL_of_r3 : List Cond := [Cond.code yX3_step cX3_step 2 (some .int), Cond.methodLink RL 54 yX3_weeksToWait, Cond.instanceMethod yX3_weeksToWait, Cond.selects RX3 yX3_weeksToWait yX3_weeksToWait, Cond.code yX3_weeksToWait cX3_weeksToWait 2 (some .int), Cond.fieldLink RX3 12 "MarkdownPlanner" "season" "LMarkdownPlanner$Season;", Cond.instanceMethod yX2_waitFrom, Cond.selects RX2 yX2_waitFrom yX2_waitFrom, Cond.code yX2_waitFrom cX2_waitFrom 3 (some .int), Cond.fieldLink RX2 18 "MarkdownPlanner$Store" "markedDownIn" "I", Cond.methodLink RX2 28 Lib.Math.max.name, Cond.static Lib.Math.max.name, Cond.code Lib.Math.max.name Lib.Math.max.code 2 (some .int), Cond.methodLink RL 57 yX3_sold, Cond.instanceMethod yX3_sold, Cond.selects RX3 yX3_sold yX3_sold, Cond.code yX3_sold cX3_sold 2 (some .int), Cond.methodLink RL 60 yX3_best, Cond.instanceMethod yX3_best, Cond.selects RX3 yX3_best yX3_best, Cond.code yX3_best cX3_best 2 (some .int), Cond.fieldLink RX3 25 "MarkdownPlanner" "plans" "LMarkdownPlanner$Plans;", Cond.instanceMethod yX0_lookAt, Cond.initialized RX0]
def wsL_of_r4 : List Cond := [Cond.selects RX0 yX0_lookAt yX0_lookAt, Cond.code yX0_lookAt cX0_lookAt 3 none, Cond.fieldLink RX0 9 "MarkdownPlanner$Plans" "prices" "[I", Cond.methodLink RX0 27 arraycopyName, Cond.native arraycopyName, Cond.static arraycopyName, Cond.initialized "java/lang/System", Cond.fieldLink RX0 15 "MarkdownPlanner$Plans" "demands" "[I", Cond.fieldLink RX0 40 "MarkdownPlanner$Plans" "firstWeek" "I", Cond.fieldLink RX0 46 "MarkdownPlanner$Plans" "endWeek" "I", Cond.fieldLink RX0 52 "MarkdownPlanner$Plans" "gap" "I", Cond.fieldLink RX0 56 "MarkdownPlanner$Plans" "remnant" "I", Cond.methodLink RX0 61 Lib.Math.min.name, Cond.fieldLink RX0 66 "MarkdownPlanner$Plans" "freeWeek" "I", Cond.fieldLink RX0 72 "MarkdownPlanner$Plans" "ownStep" "I", Cond.fieldLink RX0 79 "MarkdownPlanner$Plans" "ownStock" "I", Cond.instanceMethod yX0_greatestWorth, Cond.selects RX0 yX0_greatestWorth yX0_greatestWorth, Cond.code yX0_greatestWorth cX0_greatestWorth 2 (some .int), Cond.methodLink RX0 82 yX0_tellWorths, Cond.instanceMethod yX0_tellWorths, Cond.selects RX0 yX0_tellWorths yX0_tellWorths, Cond.code yX0_tellWorths cX0_tellWorths 5 none, Cond.fieldLink RX0 94 "MarkdownPlanner$Plans" "mostLeft" "I"]
def wsL_of_r5 : List Cond := [Cond.fieldLink RX0 18 "MarkdownPlanner$Plans" "worths" "[I", Cond.methodLink RX0 97 yX0_placeOf, Cond.static yX0_placeOf, Cond.code yX0_placeOf cX0_placeOf 3 (some .int), Cond.methodLink RX0 100 yX0_worthOfChoosing, Cond.instanceMethod yX0_worthOfChoosing, Cond.selects RX0 yX0_worthOfChoosing yX0_worthOfChoosing, Cond.code yX0_worthOfChoosing cX0_worthOfChoosing 6 (some .int), Cond.methodLink RX0 106 Lib.Math.max.name, Cond.methodLink RX0 103 yX0_worthOfTaking, Cond.instanceMethod yX0_worthOfTaking, Cond.selects RX0 yX0_worthOfTaking yX0_worthOfTaking, Cond.code yX0_worthOfTaking cX0_worthOfTaking 5 (some .int), Cond.methodLink RX0 86 yX0_worthOfKeeping, Cond.instanceMethod yX0_worthOfKeeping, Cond.selects RX0 yX0_worthOfKeeping yX0_worthOfKeeping, Cond.code yX0_worthOfKeeping cX0_worthOfKeeping 8 (some .int), Cond.methodLink RX0 109 yX0_worthFrom, Cond.instanceMethod yX0_worthFrom, Cond.selects RX0 yX0_worthFrom yX0_worthFrom, Cond.code yX0_worthFrom cX0_worthFrom 4 (some .int), Cond.methodLink RL 63 yX3_planned, Cond.instanceMethod yX3_planned, Cond.selects RX3 yX3_planned yX3_planned]
def wsL_of_r6 : List Cond := [Cond.code yX3_planned cX3_planned 4 (some .int), Cond.instanceMethod yX0_bestStepIn, Cond.selects RX0 yX0_bestStepIn yX0_bestStepIn, Cond.code yX0_bestStepIn cX0_bestStepIn 7 (some .int), Cond.methodLink RX0 90 yX0_lowestBestStep, Cond.instanceMethod yX0_lowestBestStep, Cond.selects RX0 yX0_lowestBestStep yX0_lowestBestStep, Cond.code yX0_lowestBestStep cX0_lowestBestStep 6 (some .int), Cond.methodLink RL 66 yX3_bestLeaving, Cond.instanceMethod yX3_bestLeaving, Cond.selects RX3 yX3_bestLeaving yX3_bestLeaving, Cond.code yX3_bestLeaving cX3_bestLeaving 4 (some .int)]
def wsL_of : List Cond := .codeWith yL_of cL_of 5 (some .int) [(0, 100, 101, 36)] :: ((wsL_of_r1 ++ (wsL_of_r2 ++ (wsL_of_r3 ++ (wsL_of_r4 ++ (wsL_of_r5 ++ wsL_of_r6))))) ++ wsX20 ++ wsX30 ++ wsX10 ++ wsX00 ++ (vx_atS RX3 109 "java/lang/IllegalArgumentException" ["java/lang/RuntimeException", "java/lang/Exception"]).filter goodWord)
def wsL_law0_r1 : List Cond := [Cond.classLink RL 9 RX3, Cond.instantiable RX3 3, Cond.initialized RX3, Cond.methodLink RL 69 yX3_init, Cond.instanceMethod yX3_init, Cond.code yX3_init cX3_init 2 none, Cond.methodLink RX3 3 objectInit, Cond.instanceMethod objectInit, Cond.code objectInit ⟨#[0xb1]⟩ 1 none, Cond.classLink RX3 9 RX1, Cond.instantiable RX1 7, Cond.initialized RX1, Cond.fieldLink RX3 12 "MarkdownPlanner" "season" "LMarkdownPlanner$Season;", Cond.classLink RX3 16 RX2, Cond.fieldLink RX3 18 "MarkdownPlanner" "stores" "[LMarkdownPlanner$Store;", Cond.classLink RX3 22 RX0, Cond.instantiable RX0 12, Cond.initialized RX0, Cond.fieldLink RX3 25 "MarkdownPlanner" "plans" "LMarkdownPlanner$Plans;", Cond.instantiable RX2 5, Cond.initialized RX2, Cond.instanceMethod yX1_init, Cond.code yX1_init cX1_init 2 none, Cond.methodLink RX1 3 objectInit]
def wsL_law0_r2 : List Cond := [Cond.arrayClass .int, Cond.fieldLink RX1 9 "MarkdownPlanner$Season" "prices" "[I", Cond.fieldLink RX1 15 "MarkdownPlanner$Season" "weeks" "I", Cond.fieldLink RX1 19 "MarkdownPlanner$Season" "gap" "I", Cond.instanceMethod yX0_init, Cond.code yX0_init cX0_init 1 none, Cond.methodLink RX0 3 objectInit, Cond.fieldLink RX0 9 "MarkdownPlanner$Plans" "prices" "[I", Cond.fieldLink RX0 15 "MarkdownPlanner$Plans" "demands" "[I", Cond.fieldLink RX0 18 "MarkdownPlanner$Plans" "worths" "[I", Cond.fieldLink RX0 21 "MarkdownPlanner$Plans" "ladder" "[I", Cond.instanceMethod yX2_init, Cond.code yX2_init cX2_init 1 none, Cond.methodLink RX2 3 objectInit, Cond.fieldLink RX2 9 "MarkdownPlanner$Store" "demands" "[I", Cond.fieldLink RX2 15 "MarkdownPlanner$Store" "pieces" "[I", Cond.fieldLink RX2 18 "MarkdownPlanner$Store" "markedDownIn" "I", Cond.methodLink RL 70 yL_drawn, Cond.static yL_drawn, Cond.initialized RL, Cond.code yL_drawn cL_drawn 3 (some .int), Cond.constant RL 7 (1073741823), Cond.methodLink RL 76 yL_does, Cond.static yL_does]
def wsL_law0_r3 : List Cond := [Cond.codeWith yL_does cL_does 7 (some .int) [(0, 97, 98, 36), (0, 97, 103, 39)], Cond.classLink RL 36 "java/lang/IllegalArgumentException", Cond.classLink RL 39 "java/lang/IllegalStateException", Cond.constant RL 38 (-3000000), Cond.methodLink RL 8 yX3_begin, Cond.instanceMethod yX3_begin, Cond.selects RX3 yX3_begin yX3_begin, Cond.code yX3_begin cX3_begin 7 (some .int), Cond.methodLink RX3 30 yX3_requireWithin, Cond.static yX3_requireWithin, Cond.code yX3_requireWithin cX3_requireWithin 3 none, Cond.classLink RX3 105 "java/lang/IllegalArgumentException", Cond.initialized "java/lang/IllegalArgumentException", Cond.instanceMethod yX1_startAnew, Cond.selects RX1 yX1_startAnew yX1_startAnew, Cond.code yX1_startAnew cX1_startAnew 2 none, Cond.fieldLink RX1 22 "MarkdownPlanner$Season" "week" "I", Cond.fieldLink RX1 25 "MarkdownPlanner$Season" "taken" "I", Cond.instanceMethod yX2_startAnew, Cond.selects RX2 yX2_startAnew yX2_startAnew, Cond.code yX2_startAnew cX2_startAnew 1 none, Cond.fieldLink RX2 22 "MarkdownPlanner$Store" "step" "I", Cond.fieldLink RX2 25 "MarkdownPlanner$Store" "piecesSold" "I", Cond.methodLink RL 14 yX3_setPrice]
def wsL_law0_r4 : List Cond := [Cond.instanceMethod yX3_setPrice, Cond.selects RX3 yX3_setPrice yX3_setPrice, Cond.code yX3_setPrice cX3_setPrice 4 (some .int), Cond.classLink RX3 51 "java/lang/IllegalStateException", Cond.initialized "java/lang/IllegalStateException", Cond.methodLink RX3 44 yX3_requireStep, Cond.static yX3_requireStep, Cond.code yX3_requireStep cX3_requireStep 1 none, Cond.instanceMethod yX1_keepsLadderDown, Cond.selects RX1 yX1_keepsLadderDown yX1_keepsLadderDown, Cond.code yX1_keepsLadderDown cX1_keepsLadderDown 5 (some .boolean), Cond.methodLink RL 18 yX3_setDemand, Cond.instanceMethod yX3_setDemand, Cond.selects RX3 yX3_setDemand yX3_setDemand, Cond.code yX3_setDemand cX3_setDemand 6 (some .int), Cond.methodLink RX3 62 yX3_storeOf, Cond.instanceMethod yX3_storeOf, Cond.selects RX3 yX3_storeOf yX3_storeOf, Cond.code yX3_storeOf cX3_storeOf 2 (some (.object "MarkdownPlanner$Store")), Cond.methodLink RL 22 yX3_put, Cond.instanceMethod yX3_put, Cond.selects RX3 yX3_put yX3_put, Cond.code yX3_put cX3_put 5 (some .int), Cond.methodLink RX3 78 yX3_requireSize]
def wsL_law0_r5 : List Cond := [Cond.static yX3_requireSize, Cond.code yX3_requireSize cX3_requireSize 1 none, Cond.methodLink RX3 81 yX3_requireRoomFor, Cond.static yX3_requireRoomFor, Cond.code yX3_requireRoomFor cX3_requireRoomFor 2 none, Cond.instanceMethod yX2_wholeStock, Cond.selects RX2 yX2_wholeStock yX2_wholeStock, Cond.code yX2_wholeStock cX2_wholeStock 3 (some .int), Cond.methodLink RL 25 yX3_move, Cond.instanceMethod yX3_move, Cond.selects RX3 yX3_move yX3_move, Cond.code yX3_move cX3_move 8 (some .int), Cond.methodLink RX3 88 yX3_requireSeasonOn, Cond.instanceMethod yX3_requireSeasonOn, Cond.selects RX3 yX3_requireSeasonOn yX3_requireSeasonOn, Cond.code yX3_requireSeasonOn cX3_requireSeasonOn 1 none, Cond.methodLink RL 29 yX3_markDown, Cond.instanceMethod yX3_markDown, Cond.selects RX3 yX3_markDown yX3_markDown, Cond.code yX3_markDown cX3_markDown 4 (some .int), Cond.instanceMethod yX2_waitFrom, Cond.selects RX2 yX2_waitFrom yX2_waitFrom, Cond.code yX2_waitFrom cX2_waitFrom 3 (some .int), Cond.methodLink RX2 28 Lib.Math.max.name]
def wsL_law0_r6 : List Cond := [Cond.static Lib.Math.max.name, Cond.initialized "java/lang/Math", Cond.code Lib.Math.max.name Lib.Math.max.code 2 (some .int), Cond.methodLink RL 32 yX3_run, Cond.instanceMethod yX3_run, Cond.selects RX3 yX3_run yX3_run, Cond.code yX3_run cX3_run 6 (some .int), Cond.instanceMethod yX2_sellForAWeek, Cond.selects RX2 yX2_sellForAWeek yX2_sellForAWeek, Cond.code yX2_sellForAWeek cX2_sellForAWeek 3 (some .int), Cond.methodLink RX2 44 yX2_salesAt, Cond.instanceMethod yX2_salesAt, Cond.selects RX2 yX2_salesAt yX2_salesAt, Cond.code yX2_salesAt cX2_salesAt 2 (some .int), Cond.methodLink RX2 41 Lib.Math.min.name, Cond.static Lib.Math.min.name, Cond.code Lib.Math.min.name Lib.Math.min.code 2 (some .int), Cond.methodLink RX2 34 yX2_sizesInStock, Cond.instanceMethod yX2_sizesInStock, Cond.selects RX2 yX2_sizesInStock yX2_sizesInStock, Cond.code yX2_sizesInStock cX2_sizesInStock 3 (some .int), Cond.methodLink RX2 38 yX2_wholeStock, Cond.methodLink RX2 48 yX2_fullestSize, Cond.instanceMethod yX2_fullestSize]
def wsL_law0_r7 : List Cond := [Cond.selects RX2 yX2_fullestSize yX2_fullestSize, Cond.code yX2_fullestSize cX2_fullestSize 3 (some .int), Cond.methodLink RL 80 yL_rules, Cond.static yL_rules, Cond.codeWith yL_rules cL_rules 5 (some .boolean) [(0, 7, 10, 36)], Cond.methodLink RL 41 yX3_setRules, Cond.instanceMethod yX3_setRules, Cond.selects RX3 yX3_setRules yX3_setRules, Cond.code yX3_setRules cX3_setRules 4 none, Cond.methodLink RL 84 yX3_week, Cond.instanceMethod yX3_week, Cond.selects RX3 yX3_week yX3_week, Cond.code yX3_week cX3_week 1 (some .int), Cond.methodLink RL 87 yX3_taken, Cond.instanceMethod yX3_taken, Cond.selects RX3 yX3_taken yX3_taken, Cond.code yX3_taken cX3_taken 1 (some .int), Cond.methodLink RL 90 yL_of, Cond.static yL_of, Cond.codeWith yL_of cL_of 5 (some .int) [(0, 100, 101, 36)], Cond.methodLink RL 45 yX3_stock, Cond.instanceMethod yX3_stock, Cond.selects RX3 yX3_stock yX3_stock, Cond.code yX3_stock cX3_stock 4 (some .int)]
def wsL_law0_r8 : List Cond := [Cond.methodLink RL 48 yX3_wouldSell, Cond.instanceMethod yX3_wouldSell, Cond.selects RX3 yX3_wouldSell yX3_wouldSell, Cond.code yX3_wouldSell cX3_wouldSell 4 (some .int), Cond.methodLink RL 51 yX3_step, Cond.instanceMethod yX3_step, Cond.selects RX3 yX3_step yX3_step, Cond.code yX3_step cX3_step 2 (some .int), Cond.methodLink RL 54 yX3_weeksToWait, Cond.instanceMethod yX3_weeksToWait, Cond.selects RX3 yX3_weeksToWait yX3_weeksToWait, Cond.code yX3_weeksToWait cX3_weeksToWait 2 (some .int), Cond.methodLink RL 57 yX3_sold, Cond.instanceMethod yX3_sold, Cond.selects RX3 yX3_sold yX3_sold, Cond.code yX3_sold cX3_sold 2 (some .int), Cond.methodLink RL 60 yX3_best, Cond.instanceMethod yX3_best, Cond.selects RX3 yX3_best yX3_best, Cond.code yX3_best cX3_best 2 (some .int), Cond.instanceMethod yX0_lookAt, Cond.selects RX0 yX0_lookAt yX0_lookAt, Cond.code yX0_lookAt cX0_lookAt 3 none, Cond.methodLink RX0 27 arraycopyName]
def wsL_law0_r9 : List Cond := [Cond.native arraycopyName, Cond.static arraycopyName, Cond.initialized "java/lang/System", Cond.fieldLink RX0 40 "MarkdownPlanner$Plans" "firstWeek" "I", Cond.fieldLink RX0 46 "MarkdownPlanner$Plans" "endWeek" "I", Cond.fieldLink RX0 52 "MarkdownPlanner$Plans" "gap" "I", Cond.fieldLink RX0 56 "MarkdownPlanner$Plans" "remnant" "I", Cond.methodLink RX0 61 Lib.Math.min.name, Cond.fieldLink RX0 66 "MarkdownPlanner$Plans" "freeWeek" "I", Cond.fieldLink RX0 72 "MarkdownPlanner$Plans" "ownStep" "I", Cond.fieldLink RX0 79 "MarkdownPlanner$Plans" "ownStock" "I", Cond.instanceMethod yX0_greatestWorth, Cond.selects RX0 yX0_greatestWorth yX0_greatestWorth, Cond.code yX0_greatestWorth cX0_greatestWorth 2 (some .int), Cond.methodLink RX0 82 yX0_tellWorths, Cond.instanceMethod yX0_tellWorths, Cond.selects RX0 yX0_tellWorths yX0_tellWorths, Cond.code yX0_tellWorths cX0_tellWorths 5 none, Cond.fieldLink RX0 94 "MarkdownPlanner$Plans" "mostLeft" "I", Cond.methodLink RX0 97 yX0_placeOf, Cond.static yX0_placeOf, Cond.code yX0_placeOf cX0_placeOf 3 (some .int), Cond.methodLink RX0 100 yX0_worthOfChoosing, Cond.instanceMethod yX0_worthOfChoosing]
def wsL_law0_r10 : List Cond := [Cond.selects RX0 yX0_worthOfChoosing yX0_worthOfChoosing, Cond.code yX0_worthOfChoosing cX0_worthOfChoosing 6 (some .int), Cond.methodLink RX0 106 Lib.Math.max.name, Cond.methodLink RX0 103 yX0_worthOfTaking, Cond.instanceMethod yX0_worthOfTaking, Cond.selects RX0 yX0_worthOfTaking yX0_worthOfTaking, Cond.code yX0_worthOfTaking cX0_worthOfTaking 5 (some .int), Cond.methodLink RX0 86 yX0_worthOfKeeping, Cond.instanceMethod yX0_worthOfKeeping, Cond.selects RX0 yX0_worthOfKeeping yX0_worthOfKeeping, Cond.code yX0_worthOfKeeping cX0_worthOfKeeping 8 (some .int), Cond.methodLink RX0 109 yX0_worthFrom, Cond.instanceMethod yX0_worthFrom, Cond.selects RX0 yX0_worthFrom yX0_worthFrom, Cond.code yX0_worthFrom cX0_worthFrom 4 (some .int), Cond.methodLink RL 63 yX3_planned, Cond.instanceMethod yX3_planned, Cond.selects RX3 yX3_planned yX3_planned, Cond.code yX3_planned cX3_planned 4 (some .int), Cond.instanceMethod yX0_bestStepIn, Cond.selects RX0 yX0_bestStepIn yX0_bestStepIn, Cond.code yX0_bestStepIn cX0_bestStepIn 7 (some .int), Cond.methodLink RX0 90 yX0_lowestBestStep, Cond.instanceMethod yX0_lowestBestStep]
def wsL_law0_r11 : List Cond := [Cond.selects RX0 yX0_lowestBestStep yX0_lowestBestStep, Cond.code yX0_lowestBestStep cX0_lowestBestStep 6 (some .int), Cond.methodLink RL 66 yX3_bestLeaving, Cond.instanceMethod yX3_bestLeaving, Cond.selects RX3 yX3_bestLeaving yX3_bestLeaving, Cond.code yX3_bestLeaving cX3_bestLeaving 4 (some .int)]
def wsL_law0 : List Cond := (wsL_law0_r1 ++ (wsL_law0_r2 ++ (wsL_law0_r3 ++ (wsL_law0_r4 ++ (wsL_law0_r5 ++ (wsL_law0_r6 ++ (wsL_law0_r7 ++ (wsL_law0_r8 ++ (wsL_law0_r9 ++ (wsL_law0_r10 ++ wsL_law0_r11)))))))))) ++ wsX30 ++ wsX10 ++ wsX00 ++ wsX20 ++ ([] : List Cond)
def wsL_law : List Cond := wsL_law0 ++ (vx_atS RX3 109 "java/lang/IllegalArgumentException" ["java/lang/RuntimeException", "java/lang/Exception"]).filter goodWord ++ (vx_atS RX3 55 "java/lang/IllegalStateException" ["java/lang/RuntimeException", "java/lang/Exception"]).filter goodWord
set_option maxRecDepth 20000 in
theorem wsL_law_p1 : ∀ w ∈ wsL_law0_r1, w ∈ lw_tbl := fun w h => (goodIn_r wsL_law0_r1 [33, 34, 22, 35, 36, 37, 38, 39, 40, 41, 42, 23, 153, 80, 154, 82, 83, 24, 155, 125, 25, 44, 45, 46] (by decide +kernel) (by decide +kernel) w h).1
set_option maxRecDepth 20000 in
theorem wsL_law_p2 : ∀ w ∈ wsL_law0_r2, w ∈ lw_tbl := fun w h => (goodIn_r wsL_law0_r2 [79, 47, 50, 56, 85, 86, 87, 88, 89, 90, 91, 127, 128, 129, 130, 133, 138, 171, 172, 21, 173, 174, 175, 176] (by decide +kernel) (by decide +kernel) w h).1
set_option maxRecDepth 20000 in
theorem wsL_law_p3 : ∀ w ∈ wsL_law0_r3, w ∈ lw_tbl := fun w h => (goodIn_r wsL_law0_r3 [177, 178, 179, 360, 180, 181, 182, 183, 184, 185, 186, 187, 29, 256, 1, 257, 53, 62, 260, 2, 261, 135, 140, 262] (by decide +kernel) (by decide +kernel) w h).1
set_option maxRecDepth 20000 in
theorem wsL_law_p4 : ∀ w ∈ wsL_law0_r4, w ∈ lw_tbl := fun w h => (goodIn_r wsL_law0_r4 [263, 264, 265, 273, 30, 266, 267, 268, 271, 3, 272, 289, 290, 291, 292, 293, 295, 4, 296, 297, 298, 299, 300, 301] (by decide +kernel) (by decide +kernel) w h).1
set_option maxRecDepth 20000 in
theorem wsL_law_p5 : ∀ w ∈ wsL_law0_r5, w ∈ lw_tbl := fun w h => (goodIn_r wsL_law0_r5 [302, 303, 304, 305, 306, 309, 5, 310, 312, 313, 314, 315, 317, 319, 6, 320, 323, 324, 325, 326, 330, 7, 331, 332] (by decide +kernel) (by decide +kernel) w h).1
set_option maxRecDepth 20000 in
theorem wsL_law_p6 : ∀ w ∈ wsL_law0_r6, w ∈ lw_tbl := fun w h => (goodIn_r wsL_law0_r6 [333, 31, 334, 336, 337, 338, 339, 342, 8, 343, 344, 346, 9, 347, 353, 354, 355, 348, 350, 10, 351, 352, 356, 358] (by decide +kernel) (by decide +kernel) w h).1
set_option maxRecDepth 20000 in
theorem wsL_law_p7 : ∀ w ∈ wsL_law0_r7, w ∈ lw_tbl := fun w h => (goodIn_r wsL_law0_r7 [11, 359, 361, 362, 363, 364, 365, 366, 367, 163, 164, 165, 166, 167, 168, 169, 170, 368, 369, 370, 371, 372, 373, 374] (by decide +kernel) (by decide +kernel) w h).1
set_option maxRecDepth 20000 in
theorem wsL_law_p8 : ∀ w ∈ wsL_law0_r8, w ∈ lw_tbl := fun w h => (goodIn_r wsL_law0_r8 [375, 376, 377, 378, 380, 381, 382, 383, 384, 385, 386, 387, 388, 389, 390, 391, 392, 393, 394, 395, 398, 12, 399, 400] (by decide +kernel) (by decide +kernel) w h).1
set_option maxRecDepth 20000 in
theorem wsL_law_p9 : ∀ w ∈ wsL_law0_r9, w ∈ lw_tbl := fun w h => (goodIn_r wsL_law0_r9 [402, 401, 32, 92, 94, 95, 96, 404, 93, 97, 98, 408, 13, 409, 410, 412, 14, 413, 99, 414, 415, 416, 417, 419] (by decide +kernel) (by decide +kernel) w h).1
set_option maxRecDepth 20000 in
theorem wsL_law_p10 : ∀ w ∈ wsL_law0_r10, w ∈ lw_tbl := fun w h => (goodIn_r wsL_law0_r10 [15, 420, 433, 421, 423, 16, 424, 425, 427, 17, 428, 429, 431, 18, 432, 434, 435, 436, 437, 440, 19, 441, 442, 444] (by decide +kernel) (by decide +kernel) w h).1
set_option maxRecDepth 20000 in
theorem wsL_law_p11 : ∀ w ∈ wsL_law0_r11, w ∈ lw_tbl := fun w h => (goodIn_r wsL_law0_r11 [20, 445, 446, 447, 448, 449] (by decide +kernel) (by decide +kernel) w h).1
set_option maxRecDepth 20000 in
theorem wsL_law_qwsX00 : ∀ w ∈ wsX00, w ∈ lw_tbl := fun w h => (goodIn_r wsX00 [100, 102, 104, 106, 108, 110, 112, 114, 116, 118, 120, 122] (by decide +kernel) (by decide +kernel) w h).1
set_option maxRecDepth 20000 in
theorem wsL_law_qwsX10 : ∀ w ∈ wsX10, w ∈ lw_tbl := fun w h => (goodIn_r wsX10 [64, 66, 68, 70, 72, 74, 76] (by decide +kernel) (by decide +kernel) w h).1
set_option maxRecDepth 20000 in
theorem wsL_law_qwsX20 : ∀ w ∈ wsX20, w ∈ lw_tbl := fun w h => (goodIn_r wsX20 [142, 144, 146, 148, 150] (by decide +kernel) (by decide +kernel) w h).1
set_option maxRecDepth 20000 in
theorem wsL_law_qwsX30 : ∀ w ∈ wsX30, w ∈ lw_tbl := fun w h => (goodIn_r wsX30 [156, 158, 160] (by decide +kernel) (by decide +kernel) w h).1
theorem mem_app2 {α : Type} {a b : List α} {P : α → Prop} (h1 : ∀ w ∈ a, P w) (h2 : ∀ w ∈ b, P w) : ∀ w ∈ a ++ b, P w := fun w h => (List.mem_append.mp h).elim (h1 w) (h2 w)
theorem wsL_law_in0 : ∀ w ∈ wsL_law0, w ∈ lw_tbl := by
  unfold wsL_law0
  exact mem_app2 (mem_app2 (mem_app2 (mem_app2 (mem_app2 (mem_app2 wsL_law_p1 (mem_app2 wsL_law_p2 (mem_app2 wsL_law_p3 (mem_app2 wsL_law_p4 (mem_app2 wsL_law_p5 (mem_app2 wsL_law_p6 (mem_app2 wsL_law_p7 (mem_app2 wsL_law_p8 (mem_app2 wsL_law_p9 (mem_app2 wsL_law_p10 wsL_law_p11)))))))))) wsL_law_qwsX30) wsL_law_qwsX10) wsL_law_qwsX00) wsL_law_qwsX20) (fun w h => absurd h List.not_mem_nil)
theorem wsL_law_x0 : ∀ w ∈ (vx_atS RX3 109 "java/lang/IllegalArgumentException" ["java/lang/RuntimeException", "java/lang/Exception"]).filter goodWord, w ∈ lw_tbl := by decide +kernel
theorem wsL_law_x1 : ∀ w ∈ (vx_atS RX3 55 "java/lang/IllegalStateException" ["java/lang/RuntimeException", "java/lang/Exception"]).filter goodWord, w ∈ lw_tbl := by decide +kernel
theorem wsL_law_in : ∀ w ∈ wsL_law, w ∈ lw_tbl := fun w h => (List.mem_append.mp h).elim (fun h => (List.mem_append.mp h).elim (fun h => wsL_law_in0 w h) (fun h => wsL_law_x0 w h)) (fun h => wsL_law_x1 w h)
theorem inlX0 : ∀ w ∈ wsX00, w ∈ wsL_law := fun _ h => List.mem_append_left _ (List.mem_append_left _ (List.mem_append_left _ (List.mem_append_left _ (List.mem_append_right _ h))))
theorem inX0 : ∀ w ∈ wsX00, w ∈ lw_tbl := fun w h => wsL_law_in w (inlX0 w h)
theorem inlX1 : ∀ w ∈ wsX10, w ∈ wsL_law := fun _ h => List.mem_append_left _ (List.mem_append_left _ (List.mem_append_left _ (List.mem_append_left _ (List.mem_append_left _ (List.mem_append_right _ h)))))
theorem inX1 : ∀ w ∈ wsX10, w ∈ lw_tbl := fun w h => wsL_law_in w (inlX1 w h)
theorem inlX2 : ∀ w ∈ wsX20, w ∈ wsL_law := fun _ h => List.mem_append_left _ (List.mem_append_left _ (List.mem_append_left _ (List.mem_append_right _ h)))
theorem inX2 : ∀ w ∈ wsX20, w ∈ lw_tbl := fun w h => wsL_law_in w (inlX2 w h)
theorem inlX3 : ∀ w ∈ wsX30, w ∈ wsL_law := fun _ h => List.mem_append_left _ (List.mem_append_left _ (List.mem_append_left _ (List.mem_append_left _ (List.mem_append_left _ (List.mem_append_left _ (List.mem_append_right _ h))))))
theorem inX3 : ∀ w ∈ wsX30, w ∈ lw_tbl := fun w h => wsL_law_in w (inlX3 w h)
theorem inX4 : ∀ w ∈ wsX40, w ∈ lw_tbl := by decide +kernel
theorem inJ9 : ∀ w ∈ wsJ90, w ∈ lw_tbl := by decide +kernel
theorem inJ0 : ∀ w ∈ wsJ00, w ∈ lw_tbl := by decide +kernel
theorem inJ10 : ∀ w ∈ wsJ100, w ∈ lw_tbl := by decide +kernel
set_option maxRecDepth 20000 in
theorem ggX0_lookAt_X2_waitFrom : GoodIn wsX0_lookAt wsX2_waitFrom := goodIn_r _ [21, 22, 23, 24, 13, 25, 49, 50, 51, 52, 53] (by decide +kernel) (by decide +kernel)
set_option maxRecDepth 20000 in
theorem gX0_lookAt_X2_waitFrom_n57 : GoodIn wsX0_lookAt (wsX2_waitFrom) := ggX0_lookAt_X2_waitFrom
set_option maxRecDepth 20000 in
theorem ggX0_lookAt_X2_wholeStock : GoodIn wsX0_lookAt wsX2_wholeStock := goodIn_r _ [28, 29, 49, 50, 51, 52, 53] (by decide +kernel) (by decide +kernel)
set_option maxRecDepth 20000 in
theorem gX0_lookAt_X2_wholeStock_n75 : GoodIn wsX0_lookAt (wsX2_wholeStock) := ggX0_lookAt_X2_wholeStock
set_option maxRecDepth 20000 in
theorem ggX0_greatestWorth_X0_tellWorths : GoodIn wsX0_greatestWorth wsX0_tellWorths := goodIn_r _ [9, 10, 11, 3, 2, 4, 12, 13, 14, 8, 15, 16, 17, 18, 19, 20, 21, 22, 23, 24, 25, 26, 27, 28, 29, 30, 31, 32, 33, 34, 35, 36, 37, 38, 39, 40, 41, 42, 43, 44, 45, 46, 47, 48, 49, 50, 51, 52, 53, 54] (by decide +kernel) (by decide +kernel)
set_option maxRecDepth 20000 in
theorem gX0_greatestWorth_X0_tellWorths : GoodIn wsX0_greatestWorth (wsV RX0 82 RX0 yX0_tellWorths wsX0_tellWorths) := goodIn_app (goodIn_of _ (by decide +kernel)) ggX0_greatestWorth_X0_tellWorths
set_option maxRecDepth 20000 in
theorem ggX0_greatestWorth_X0_worthOfKeeping : GoodIn wsX0_greatestWorth wsX0_worthOfKeeping := goodIn_r _ [32, 11, 33, 34, 22, 35, 36, 37, 38, 39, 40, 8, 41, 12, 10, 42, 13, 14, 15, 43, 44, 45, 46, 47, 48, 49, 50, 51, 52, 53, 54] (by decide +kernel) (by decide +kernel)
set_option maxRecDepth 20000 in
theorem gX0_greatestWorth_X0_worthOfKeeping : GoodIn wsX0_greatestWorth (wsV RX0 86 RX0 yX0_worthOfKeeping wsX0_worthOfKeeping) := goodIn_app (goodIn_of _ (by decide +kernel)) ggX0_greatestWorth_X0_worthOfKeeping
set_option maxRecDepth 20000 in
theorem ggX0_bestStepIn_X0_tellWorths : GoodIn wsX0_bestStepIn wsX0_tellWorths := goodIn_r _ [15, 16, 17, 3, 1, 2, 18, 19, 20, 14, 21, 22, 23, 24, 25, 26, 27, 9, 28, 29, 30, 31, 32, 5, 33, 34, 35, 36, 7, 8, 10, 6, 37, 38, 39, 40, 41, 42, 47, 48, 49, 50, 51, 52, 53, 54, 55, 56, 57, 58] (by decide +kernel) (by decide +kernel)
set_option maxRecDepth 20000 in
theorem gX0_bestStepIn_X0_tellWorths : GoodIn wsX0_bestStepIn (wsV RX0 82 RX0 yX0_tellWorths wsX0_tellWorths) := goodIn_app (goodIn_of _ (by decide +kernel)) ggX0_bestStepIn_X0_tellWorths
set_option maxRecDepth 20000 in
theorem ggX0_bestStepIn_X0_lowestBestStep : GoodIn wsX0_bestStepIn wsX0_lowestBestStep := goodIn_r _ [46, 38, 39, 40, 14, 41, 17, 18, 16, 42, 19, 20, 21, 29, 30, 31, 32, 5, 33, 34, 35, 36, 7, 8, 9, 10, 6, 37, 47, 48, 49, 50, 51, 52, 53, 54, 55, 56, 57, 58] (by decide +kernel) (by decide +kernel)
set_option maxRecDepth 20000 in
theorem gX0_bestStepIn_X0_lowestBestStep : GoodIn wsX0_bestStepIn (wsV RX0 90 RX0 yX0_lowestBestStep wsX0_lowestBestStep) := goodIn_app (goodIn_of _ (by decide +kernel)) ggX0_bestStepIn_X0_lowestBestStep
set_option maxRecDepth 20000 in
theorem ggX0_tellWorths_X0_placeOf : GoodIn wsX0_tellWorths wsX0_placeOf := goodIn_r _ [10] (by decide +kernel) (by decide +kernel)
set_option maxRecDepth 20000 in
theorem gX0_tellWorths_X0_placeOf : GoodIn wsX0_tellWorths (va_wsS RX0 97 yX0_placeOf wsX0_placeOf) := goodIn_app (goodIn_of _ (by decide +kernel)) ggX0_tellWorths_X0_placeOf
set_option maxRecDepth 20000 in
theorem ggX0_tellWorths_X0_worthOfChoosing : GoodIn wsX0_tellWorths wsX0_worthOfChoosing := goodIn_r _ [14, 15, 16, 17, 18, 19, 20, 21, 9, 22, 23, 24, 25, 26, 27, 2, 28, 29, 30, 31, 32, 33, 34, 35, 36, 6, 1, 37, 7, 8, 10, 38, 39, 40, 41, 42, 43, 44, 45, 46, 47, 48, 49] (by decide +kernel) (by decide +kernel)
set_option maxRecDepth 20000 in
theorem gX0_tellWorths_X0_worthOfChoosing : GoodIn wsX0_tellWorths (wsV RX0 100 RX0 yX0_worthOfChoosing wsX0_worthOfChoosing) := goodIn_app (goodIn_of _ (by decide +kernel)) ggX0_tellWorths_X0_worthOfChoosing
set_option maxRecDepth 20000 in
theorem ggX0_worthOfChoosing_X0_worthOfTaking : GoodIn wsX0_worthOfChoosing wsX0_worthOfTaking := goodIn_r _ [9, 10, 11, 12, 13, 8, 14, 15, 16, 17, 3, 18, 19, 20, 21, 22, 23, 24, 25, 26, 27, 28, 29, 30, 31, 32, 33, 34, 35, 36, 37, 38, 39, 40, 41, 42] (by decide +kernel) (by decide +kernel)
set_option maxRecDepth 20000 in
theorem gX0_worthOfChoosing_X0_worthOfTaking : GoodIn wsX0_worthOfChoosing (wsV RX0 103 RX0 yX0_worthOfTaking wsX0_worthOfTaking) := goodIn_app (goodIn_of _ (by decide +kernel)) ggX0_worthOfChoosing_X0_worthOfTaking
set_option maxRecDepth 20000 in
theorem ggX0_lowestBestStep_X0_worthFrom : GoodIn wsX0_lowestBestStep wsX0_worthFrom := goodIn_r _ [5, 6, 7, 8, 9, 10, 11, 4, 12, 28, 29, 30, 31, 32, 33, 34, 35, 36, 37, 38, 39] (by decide +kernel) (by decide +kernel)
set_option maxRecDepth 20000 in
theorem gX0_lowestBestStep_X0_worthFrom : GoodIn wsX0_lowestBestStep (wsV RX0 109 RX0 yX0_worthFrom wsX0_worthFrom) := goodIn_app (goodIn_of _ (by decide +kernel)) ggX0_lowestBestStep_X0_worthFrom
set_option maxRecDepth 20000 in
theorem ggX0_lowestBestStep_X0_worthOfTaking : GoodIn wsX0_lowestBestStep wsX0_worthOfTaking := goodIn_r _ [16, 17, 18, 19, 20, 4, 21, 6, 22, 23, 24, 25, 26, 27, 1, 2, 3, 5, 7, 8, 9, 10, 11, 12, 28, 29, 30, 31, 32, 33, 34, 35, 36, 37, 38, 39] (by decide +kernel) (by decide +kernel)
set_option maxRecDepth 20000 in
theorem gX0_lowestBestStep_X0_worthOfTaking : GoodIn wsX0_lowestBestStep (wsV RX0 103 RX0 yX0_worthOfTaking wsX0_worthOfTaking) := goodIn_app (goodIn_of _ (by decide +kernel)) ggX0_lowestBestStep_X0_worthOfTaking
set_option maxRecDepth 20000 in
theorem ggX0_worthOfTaking_X0_worthOfKeeping : GoodIn wsX0_worthOfTaking wsX0_worthOfKeeping := goodIn_r _ [6, 7, 8, 9, 10, 11, 12, 13, 14, 15, 16, 5, 17, 18, 19, 20, 21, 22, 23, 24, 25, 26, 27, 28, 29, 30, 31, 32, 33, 34, 35] (by decide +kernel) (by decide +kernel)
set_option maxRecDepth 20000 in
theorem gX0_worthOfTaking_X0_worthOfKeeping : GoodIn wsX0_worthOfTaking (wsV RX0 86 RX0 yX0_worthOfKeeping wsX0_worthOfKeeping) := goodIn_app (goodIn_of _ (by decide +kernel)) ggX0_worthOfTaking_X0_worthOfKeeping
set_option maxRecDepth 20000 in
theorem ggX0_worthOfKeeping_X0_worthFrom : GoodIn wsX0_worthOfKeeping wsX0_worthFrom := goodIn_r _ [12, 1, 13, 14, 15, 16, 17, 11, 18, 19, 20, 21, 22, 23, 24, 25, 26, 27, 28, 29, 30] (by decide +kernel) (by decide +kernel)
set_option maxRecDepth 20000 in
theorem gX0_worthOfKeeping_X0_worthFrom : GoodIn wsX0_worthOfKeeping (wsV RX0 109 RX0 yX0_worthFrom wsX0_worthFrom) := goodIn_app (goodIn_of _ (by decide +kernel)) ggX0_worthOfKeeping_X0_worthFrom
set_option maxRecDepth 20000 in
theorem ggX0_worthFrom_X0_placeOf : GoodIn wsX0_worthFrom wsX0_placeOf := goodIn_r _ [8] (by decide +kernel) (by decide +kernel)
set_option maxRecDepth 20000 in
theorem gX0_worthFrom_X0_placeOf : GoodIn wsX0_worthFrom (va_wsS RX0 97 yX0_placeOf wsX0_placeOf) := goodIn_app (goodIn_of _ (by decide +kernel)) ggX0_worthFrom_X0_placeOf
set_option maxRecDepth 20000 in
theorem ggX2_salesAt_X2_sizesInStock : GoodIn wsX2_salesAt wsX2_sizesInStock := goodIn_r _ [10, 11, 16, 17, 18, 19, 20] (by decide +kernel) (by decide +kernel)
set_option maxRecDepth 20000 in
theorem gX2_salesAt_X2_sizesInStock : GoodIn wsX2_salesAt (wsV RX2 34 RX2 yX2_sizesInStock wsX2_sizesInStock) := goodIn_app (goodIn_of _ (by decide +kernel)) ggX2_salesAt_X2_sizesInStock
set_option maxRecDepth 20000 in
theorem ggX2_salesAt_X2_wholeStock : GoodIn wsX2_salesAt wsX2_wholeStock := goodIn_r _ [15, 11, 16, 17, 18, 19, 20] (by decide +kernel) (by decide +kernel)
set_option maxRecDepth 20000 in
theorem gX2_salesAt_X2_wholeStock : GoodIn wsX2_salesAt (wsV RX2 38 RX2 yX2_wholeStock wsX2_wholeStock) := goodIn_app (goodIn_of _ (by decide +kernel)) ggX2_salesAt_X2_wholeStock
set_option maxRecDepth 20000 in
theorem ggX2_sellForAWeek_X2_salesAt : GoodIn wsX2_sellForAWeek wsX2_salesAt := goodIn_r _ [8, 9, 10, 11, 12, 13, 14, 15, 16, 7, 17, 2, 18, 19, 20, 21, 26, 27, 28, 29, 30] (by decide +kernel) (by decide +kernel)
set_option maxRecDepth 20000 in
theorem gX2_sellForAWeek_X2_salesAt : GoodIn wsX2_sellForAWeek (wsV RX2 44 RX2 yX2_salesAt wsX2_salesAt) := goodIn_app (goodIn_of _ (by decide +kernel)) ggX2_sellForAWeek_X2_salesAt
set_option maxRecDepth 20000 in
theorem ggX2_sellForAWeek_X2_fullestSize : GoodIn wsX2_sellForAWeek wsX2_fullestSize := goodIn_r _ [25, 2, 26, 27, 28, 29, 30] (by decide +kernel) (by decide +kernel)
set_option maxRecDepth 20000 in
theorem gX2_sellForAWeek_X2_fullestSize : GoodIn wsX2_sellForAWeek (wsV RX2 48 RX2 yX2_fullestSize wsX2_fullestSize) := goodIn_app (goodIn_of _ (by decide +kernel)) ggX2_sellForAWeek_X2_fullestSize
set_option maxRecDepth 20000 in
theorem ggX3_init_X1_init : GoodIn wsX3_init wsX1_init := goodIn_r _ [17, 18, 2, 3, 19, 20, 21, 22, 36, 37, 38, 39, 40, 41, 42] (by decide +kernel) (by decide +kernel)
set_option maxRecDepth 20000 in
theorem gX3_init_X1_init_n11 : GoodIn wsX3_init (wsX1_init) := ggX3_init_X1_init
set_option maxRecDepth 20000 in
theorem ggX3_init_X0_init : GoodIn wsX3_init wsX0_init := goodIn_r _ [24, 25, 2, 3, 19, 26, 27, 28, 29, 46, 47, 48, 49, 50, 51, 52, 53, 54, 55, 56, 57] (by decide +kernel) (by decide +kernel)
set_option maxRecDepth 20000 in
theorem gX3_init_X0_init_n24 : GoodIn wsX3_init (wsX0_init) := ggX3_init_X0_init
set_option maxRecDepth 20000 in
theorem ggX3_init_X2_init : GoodIn wsX3_init wsX2_init := goodIn_r _ [31, 32, 2, 3, 19, 33, 34, 35, 58, 59, 60, 61, 62] (by decide +kernel) (by decide +kernel)
set_option maxRecDepth 20000 in
theorem gX3_init_X2_init_n29 : GoodIn wsX3_init (wsX2_init) := ggX3_init_X2_init
set_option maxRecDepth 20000 in
theorem ggX3_begin_X3_requireWithin : GoodIn wsX3_begin wsX3_requireWithin := goodIn_ca (goodIn_r _ [6, 7, 8] (by decide +kernel) (by decide +kernel)) (goodIn_sub (fun _ h => List.mem_cons_of_mem _ (List.mem_append_right _ h)) (by decide +kernel))
set_option maxRecDepth 20000 in
theorem gX3_begin_X3_requireWithin : GoodIn wsX3_begin (va_wsS RX3 30 yX3_requireWithin wsX3_requireWithin) := goodIn_app (goodIn_of _ (by decide +kernel)) ggX3_begin_X3_requireWithin
set_option maxRecDepth 20000 in
theorem ggX3_begin_X1_startAnew : GoodIn wsX3_begin wsX1_startAnew := goodIn_r _ [12, 13, 14, 15, 26, 27, 28, 29, 30, 31, 32] (by decide +kernel) (by decide +kernel)
set_option maxRecDepth 20000 in
theorem gX3_begin_X1_startAnew_n38 : GoodIn wsX3_begin (wsX1_startAnew) := ggX3_begin_X1_startAnew
set_option maxRecDepth 20000 in
theorem ggX3_begin_X2_startAnew : GoodIn wsX3_begin wsX2_startAnew := goodIn_r _ [19, 20, 21, 22, 33, 34, 35, 36, 37] (by decide +kernel) (by decide +kernel)
set_option maxRecDepth 20000 in
theorem gX3_begin_X2_startAnew_n42 : GoodIn wsX3_begin (wsX2_startAnew) := ggX3_begin_X2_startAnew
set_option maxRecDepth 20000 in
theorem ggX3_setPrice_X3_requireStep : GoodIn wsX3_setPrice wsX3_requireStep := goodIn_ca (goodIn_r _ [7, 8, 9, 6, 10, 11, 12] (by decide +kernel) (by decide +kernel)) (goodIn_sub (fun _ h => List.mem_cons_of_mem _ (List.mem_append_right _ h)) (by decide +kernel))
set_option maxRecDepth 20000 in
theorem gX3_setPrice_X3_requireStep : GoodIn wsX3_setPrice (va_wsS RX3 44 yX3_requireStep wsX3_requireStep) := goodIn_app (goodIn_of _ (by decide +kernel)) ggX3_setPrice_X3_requireStep
set_option maxRecDepth 20000 in
theorem ggX3_setPrice_X3_requireWithin : GoodIn wsX3_setPrice wsX3_requireWithin := goodIn_ca (goodIn_r _ [10, 11, 12] (by decide +kernel) (by decide +kernel)) (goodIn_sub (fun _ h => List.mem_cons_of_mem _ (List.mem_append_right _ h)) (by decide +kernel))
set_option maxRecDepth 20000 in
theorem gX3_setPrice_X3_requireWithin : GoodIn wsX3_setPrice (va_wsS RX3 30 yX3_requireWithin wsX3_requireWithin) := goodIn_app (goodIn_of _ (by decide +kernel)) ggX3_setPrice_X3_requireWithin
set_option maxRecDepth 20000 in
theorem ggX3_setPrice_X1_keepsLadderDown : GoodIn wsX3_setPrice wsX1_keepsLadderDown := goodIn_r _ [16, 17, 21, 22, 23, 24, 25, 26, 27] (by decide +kernel) (by decide +kernel)
set_option maxRecDepth 20000 in
theorem gX3_setPrice_X1_keepsLadderDown_n47 : GoodIn wsX3_setPrice (wsX1_keepsLadderDown) := ggX3_setPrice_X1_keepsLadderDown
set_option maxRecDepth 20000 in
theorem ggX3_setDemand_X3_storeOf : GoodIn wsX3_setDemand wsX3_storeOf := goodIn_ca (goodIn_r _ [5, 6, 7, 8, 4, 9, 10, 11, 20, 21, 22] (by decide +kernel) (by decide +kernel)) (goodIn_sub (fun _ h => List.mem_cons_of_mem _ (List.mem_append_right _ h)) (by decide +kernel))
set_option maxRecDepth 20000 in
theorem gX3_setDemand_X3_storeOf : GoodIn wsX3_setDemand (wsV RX3 62 RX3 yX3_storeOf wsX3_storeOf) := goodIn_app (goodIn_of _ (by decide +kernel)) ggX3_setDemand_X3_storeOf
set_option maxRecDepth 20000 in
theorem ggX3_setDemand_X3_requireStep : GoodIn wsX3_setDemand wsX3_requireStep := goodIn_ca (goodIn_r _ [14, 7, 8, 4, 9, 10, 11] (by decide +kernel) (by decide +kernel)) (goodIn_sub (fun _ h => List.mem_cons_of_mem _ (List.mem_append_right _ h)) (by decide +kernel))
set_option maxRecDepth 20000 in
theorem gX3_setDemand_X3_requireStep : GoodIn wsX3_setDemand (va_wsS RX3 44 yX3_requireStep wsX3_requireStep) := goodIn_app (goodIn_of _ (by decide +kernel)) ggX3_setDemand_X3_requireStep
set_option maxRecDepth 20000 in
theorem ggX3_setDemand_X3_requireWithin : GoodIn wsX3_setDemand wsX3_requireWithin := goodIn_ca (goodIn_r _ [9, 10, 11] (by decide +kernel) (by decide +kernel)) (goodIn_sub (fun _ h => List.mem_cons_of_mem _ (List.mem_append_right _ h)) (by decide +kernel))
set_option maxRecDepth 20000 in
theorem gX3_setDemand_X3_requireWithin : GoodIn wsX3_setDemand (va_wsS RX3 30 yX3_requireWithin wsX3_requireWithin) := goodIn_app (goodIn_of _ (by decide +kernel)) ggX3_setDemand_X3_requireWithin
set_option maxRecDepth 20000 in
theorem ggX3_setRules_X3_requireWithin : GoodIn wsX3_setRules wsX3_requireWithin := goodIn_ca (goodIn_r _ [5, 6, 7] (by decide +kernel) (by decide +kernel)) (goodIn_sub (fun _ h => List.mem_cons_of_mem _ (List.mem_append_right _ h)) (by decide +kernel))
set_option maxRecDepth 20000 in
theorem gX3_setRules_X3_requireWithin : GoodIn wsX3_setRules (va_wsS RX3 30 yX3_requireWithin wsX3_requireWithin) := goodIn_app (goodIn_of _ (by decide +kernel)) ggX3_setRules_X3_requireWithin
set_option maxRecDepth 20000 in
theorem ggX3_put_X3_storeOf : GoodIn wsX3_put wsX3_storeOf := goodIn_ca (goodIn_r _ [5, 6, 7, 8, 4, 9, 10, 11, 30, 31, 32] (by decide +kernel) (by decide +kernel)) (goodIn_sub (fun _ h => List.mem_cons_of_mem _ (List.mem_append_left _ (List.mem_append_right _ h))) (by decide +kernel))
set_option maxRecDepth 20000 in
theorem gX3_put_X3_storeOf : GoodIn wsX3_put (wsV RX3 62 RX3 yX3_storeOf wsX3_storeOf) := goodIn_app (goodIn_of _ (by decide +kernel)) ggX3_put_X3_storeOf
set_option maxRecDepth 20000 in
theorem ggX3_put_X3_requireSize : GoodIn wsX3_put wsX3_requireSize := goodIn_ca (goodIn_r _ [14, 7, 8, 4, 9, 10, 11] (by decide +kernel) (by decide +kernel)) (goodIn_sub (fun _ h => List.mem_cons_of_mem _ (List.mem_append_left _ (List.mem_append_right _ h))) (by decide +kernel))
set_option maxRecDepth 20000 in
theorem gX3_put_X3_requireSize : GoodIn wsX3_put (va_wsS RX3 78 yX3_requireSize wsX3_requireSize) := goodIn_app (goodIn_of _ (by decide +kernel)) ggX3_put_X3_requireSize
set_option maxRecDepth 20000 in
theorem ggX3_put_X3_requireWithin : GoodIn wsX3_put wsX3_requireWithin := goodIn_ca (goodIn_r _ [9, 10, 11] (by decide +kernel) (by decide +kernel)) (goodIn_sub (fun _ h => List.mem_cons_of_mem _ (List.mem_append_left _ (List.mem_append_right _ h))) (by decide +kernel))
set_option maxRecDepth 20000 in
theorem gX3_put_X3_requireWithin : GoodIn wsX3_put (va_wsS RX3 30 yX3_requireWithin wsX3_requireWithin) := goodIn_app (goodIn_of _ (by decide +kernel)) ggX3_put_X3_requireWithin
set_option maxRecDepth 20000 in
theorem ggX3_put_X3_requireRoomFor : GoodIn wsX3_put wsX3_requireRoomFor := goodIn_ca (goodIn_r _ [17, 18, 19, 20, 21, 22, 23, 24, 25, 26, 27, 28, 29] (by decide +kernel) (by decide +kernel)) (goodIn_sub (fun _ h => List.mem_cons_of_mem _ (List.mem_append_right _ h)) (by decide +kernel))
set_option maxRecDepth 20000 in
theorem gX3_put_X3_requireRoomFor : GoodIn wsX3_put (va_wsS RX3 81 yX3_requireRoomFor wsX3_requireRoomFor) := goodIn_app (goodIn_of _ (by decide +kernel)) ggX3_put_X3_requireRoomFor
set_option maxRecDepth 20000 in
theorem ggX3_markDown_X3_storeOf : GoodIn wsX3_markDown wsX3_storeOf := goodIn_ca (goodIn_r _ [8, 9, 10, 11, 7, 12, 13, 14, 36, 37, 38] (by decide +kernel) (by decide +kernel)) (goodIn_sub (fun _ h => List.mem_cons_of_mem _ (List.mem_append_right _ h)) (by decide +kernel))
set_option maxRecDepth 20000 in
theorem gX3_markDown_X3_storeOf : GoodIn wsX3_markDown (wsV RX3 62 RX3 yX3_storeOf wsX3_storeOf) := goodIn_app (goodIn_of _ (by decide +kernel)) ggX3_markDown_X3_storeOf
set_option maxRecDepth 20000 in
theorem ggX3_markDown_X3_requireStep : GoodIn wsX3_markDown wsX3_requireStep := goodIn_ca (goodIn_r _ [17, 10, 11, 7, 12, 13, 14] (by decide +kernel) (by decide +kernel)) (goodIn_sub (fun _ h => List.mem_cons_of_mem _ (List.mem_append_right _ h)) (by decide +kernel))
set_option maxRecDepth 20000 in
theorem gX3_markDown_X3_requireStep : GoodIn wsX3_markDown (va_wsS RX3 44 yX3_requireStep wsX3_requireStep) := goodIn_app (goodIn_of _ (by decide +kernel)) ggX3_markDown_X3_requireStep
set_option maxRecDepth 20000 in
theorem ggX3_markDown_X3_requireSeasonOn : GoodIn wsX3_markDown wsX3_requireSeasonOn := goodIn_ca (goodIn_r _ [21, 1, 2, 3, 36, 37, 38, 39, 40, 41, 42, 43, 44, 45] (by decide +kernel) (by decide +kernel)) (goodIn_sub (fun _ h => List.mem_cons_of_mem _ (List.mem_append_left _ (List.mem_append_right _ h))) (by decide +kernel))
set_option maxRecDepth 20000 in
theorem gX3_markDown_X3_requireSeasonOn : GoodIn wsX3_markDown (wsV RX3 88 RX3 yX3_requireSeasonOn wsX3_requireSeasonOn) := goodIn_app (goodIn_of _ (by decide +kernel)) ggX3_markDown_X3_requireSeasonOn
set_option maxRecDepth 20000 in
theorem ggX3_markDown_X2_waitFrom : GoodIn wsX3_markDown wsX2_waitFrom := goodIn_r _ [25, 26, 27, 28, 29, 30, 31, 32, 33, 34, 35] (by decide +kernel) (by decide +kernel)
set_option maxRecDepth 20000 in
theorem gX3_markDown_X2_waitFrom_n96 : GoodIn wsX3_markDown (wsX2_waitFrom) := ggX3_markDown_X2_waitFrom
set_option maxRecDepth 20000 in
theorem ggX3_move_X3_storeOf : GoodIn wsX3_move wsX3_storeOf := goodIn_ca (goodIn_r _ [10, 11, 12, 13, 9, 14, 1, 2, 35, 36, 37] (by decide +kernel) (by decide +kernel)) (goodIn_sub (fun _ h => List.mem_cons_of_mem _ (List.mem_append_left _ (List.mem_append_right _ h))) (by decide +kernel))
set_option maxRecDepth 20000 in
theorem gX3_move_X3_storeOf : GoodIn wsX3_move (wsV RX3 62 RX3 yX3_storeOf wsX3_storeOf) := goodIn_app (goodIn_of _ (by decide +kernel)) ggX3_move_X3_storeOf
set_option maxRecDepth 20000 in
theorem ggX3_move_X3_requireSize : GoodIn wsX3_move wsX3_requireSize := goodIn_ca (goodIn_r _ [17, 12, 13, 9, 14, 1, 2] (by decide +kernel) (by decide +kernel)) (goodIn_sub (fun _ h => List.mem_cons_of_mem _ (List.mem_append_left _ (List.mem_append_right _ h))) (by decide +kernel))
set_option maxRecDepth 20000 in
theorem gX3_move_X3_requireSize : GoodIn wsX3_move (va_wsS RX3 78 yX3_requireSize wsX3_requireSize) := goodIn_app (goodIn_of _ (by decide +kernel)) ggX3_move_X3_requireSize
set_option maxRecDepth 20000 in
theorem ggX3_move_X3_requireWithin : GoodIn wsX3_move wsX3_requireWithin := goodIn_ca (goodIn_r _ [14, 1, 2] (by decide +kernel) (by decide +kernel)) (goodIn_sub (fun _ h => List.mem_cons_of_mem _ (List.mem_append_left _ (List.mem_append_right _ h))) (by decide +kernel))
set_option maxRecDepth 20000 in
theorem gX3_move_X3_requireWithin : GoodIn wsX3_move (va_wsS RX3 30 yX3_requireWithin wsX3_requireWithin) := goodIn_app (goodIn_of _ (by decide +kernel)) ggX3_move_X3_requireWithin
set_option maxRecDepth 20000 in
theorem ggX3_move_X3_requireSeasonOn : GoodIn wsX3_move wsX3_requireSeasonOn := goodIn_ca (goodIn_r _ [21, 3, 4, 5, 35, 36, 37, 38, 39, 40, 41, 42, 43, 44] (by decide +kernel) (by decide +kernel)) (goodIn_sub (fun _ h => List.mem_cons_of_mem _ (List.mem_append_right _ h)) (by decide +kernel))
set_option maxRecDepth 20000 in
theorem gX3_move_X3_requireSeasonOn : GoodIn wsX3_move (wsV RX3 88 RX3 yX3_requireSeasonOn wsX3_requireSeasonOn) := goodIn_app (goodIn_of _ (by decide +kernel)) ggX3_move_X3_requireSeasonOn
set_option maxRecDepth 20000 in
theorem ggX3_move_X3_requireRoomFor : GoodIn wsX3_move wsX3_requireRoomFor := goodIn_ca (goodIn_r _ [24, 3, 4, 25, 26, 27, 28, 29, 30, 31, 32, 33, 34] (by decide +kernel) (by decide +kernel)) (goodIn_sub (fun _ h => List.mem_cons_of_mem _ (List.mem_append_right _ h)) (by decide +kernel))
set_option maxRecDepth 20000 in
theorem gX3_move_X3_requireRoomFor : GoodIn wsX3_move (va_wsS RX3 81 yX3_requireRoomFor wsX3_requireRoomFor) := goodIn_app (goodIn_of _ (by decide +kernel)) ggX3_move_X3_requireRoomFor
set_option maxRecDepth 20000 in
theorem ggX3_run_X3_requireSeasonOn : GoodIn wsX3_run wsX3_requireSeasonOn := goodIn_ca (goodIn_r _ [7, 8, 9, 2, 38, 39, 40, 41, 42, 43, 44, 45, 46, 47] (by decide +kernel) (by decide +kernel)) (goodIn_sub (fun _ h => List.mem_cons_of_mem _ (List.mem_append_right _ h)) (by decide +kernel))
set_option maxRecDepth 20000 in
theorem gX3_run_X3_requireSeasonOn : GoodIn wsX3_run (wsV RX3 88 RX3 yX3_requireSeasonOn wsX3_requireSeasonOn) := goodIn_app (goodIn_of _ (by decide +kernel)) ggX3_run_X3_requireSeasonOn
set_option maxRecDepth 20000 in
theorem ggX3_run_X2_sellForAWeek : GoodIn wsX3_run wsX2_sellForAWeek := goodIn_r _ [13, 14, 15, 16, 17, 18, 19, 11, 20, 21, 22, 23, 24, 25, 26, 27, 28, 29, 30, 31, 32, 33, 34, 35, 36, 37, 48, 49, 50, 51, 52] (by decide +kernel) (by decide +kernel)
set_option maxRecDepth 20000 in
theorem gX3_run_X2_sellForAWeek_n115 : GoodIn wsX3_run (wsX2_sellForAWeek) := ggX3_run_X2_sellForAWeek
set_option maxRecDepth 20000 in
theorem ggX3_stock_X3_storeOf : GoodIn wsX3_stock wsX3_storeOf := goodIn_ca (goodIn_r _ [5, 6, 7, 8, 4, 9, 10, 11, 20, 21, 22] (by decide +kernel) (by decide +kernel)) (goodIn_sub (fun _ h => List.mem_cons_of_mem _ (List.mem_append_right _ h)) (by decide +kernel))
set_option maxRecDepth 20000 in
theorem gX3_stock_X3_storeOf : GoodIn wsX3_stock (wsV RX3 62 RX3 yX3_storeOf wsX3_storeOf) := goodIn_app (goodIn_of _ (by decide +kernel)) ggX3_stock_X3_storeOf
set_option maxRecDepth 20000 in
theorem ggX3_stock_X3_requireSize : GoodIn wsX3_stock wsX3_requireSize := goodIn_ca (goodIn_r _ [14, 7, 8, 4, 9, 10, 11] (by decide +kernel) (by decide +kernel)) (goodIn_sub (fun _ h => List.mem_cons_of_mem _ (List.mem_append_right _ h)) (by decide +kernel))
set_option maxRecDepth 20000 in
theorem gX3_stock_X3_requireSize : GoodIn wsX3_stock (va_wsS RX3 78 yX3_requireSize wsX3_requireSize) := goodIn_app (goodIn_of _ (by decide +kernel)) ggX3_stock_X3_requireSize
set_option maxRecDepth 20000 in
theorem ggX3_step_X3_storeOf : GoodIn wsX3_step wsX3_storeOf := goodIn_ca (goodIn_r _ [5, 6, 7, 8, 4, 9, 10, 11, 17, 18, 19] (by decide +kernel) (by decide +kernel)) (goodIn_sub (fun _ h => List.mem_cons_of_mem _ (List.mem_append_right _ h)) (by decide +kernel))
set_option maxRecDepth 20000 in
theorem gX3_step_X3_storeOf : GoodIn wsX3_step (wsV RX3 62 RX3 yX3_storeOf wsX3_storeOf) := goodIn_app (goodIn_of _ (by decide +kernel)) ggX3_step_X3_storeOf
set_option maxRecDepth 20000 in
theorem ggX3_weeksToWait_X3_storeOf : GoodIn wsX3_weeksToWait wsX3_storeOf := goodIn_ca (goodIn_r _ [6, 7, 8, 9, 5, 10, 11, 12, 22, 23, 24] (by decide +kernel) (by decide +kernel)) (goodIn_sub (fun _ h => List.mem_cons_of_mem _ (List.mem_append_right _ h)) (by decide +kernel))
set_option maxRecDepth 20000 in
theorem gX3_weeksToWait_X3_storeOf : GoodIn wsX3_weeksToWait (wsV RX3 62 RX3 yX3_storeOf wsX3_storeOf) := goodIn_app (goodIn_of _ (by decide +kernel)) ggX3_weeksToWait_X3_storeOf
set_option maxRecDepth 20000 in
theorem ggX3_weeksToWait_X2_waitFrom : GoodIn wsX3_weeksToWait wsX2_waitFrom := goodIn_r _ [16, 17, 18, 19, 20, 21, 32, 33, 34, 35, 36] (by decide +kernel) (by decide +kernel)
set_option maxRecDepth 20000 in
theorem gX3_weeksToWait_X2_waitFrom_n96 : GoodIn wsX3_weeksToWait (wsX2_waitFrom) := ggX3_weeksToWait_X2_waitFrom
set_option maxRecDepth 20000 in
theorem ggX3_sold_X3_storeOf : GoodIn wsX3_sold wsX3_storeOf := goodIn_ca (goodIn_r _ [5, 6, 7, 8, 4, 9, 10, 11, 17, 18, 19] (by decide +kernel) (by decide +kernel)) (goodIn_sub (fun _ h => List.mem_cons_of_mem _ (List.mem_append_right _ h)) (by decide +kernel))
set_option maxRecDepth 20000 in
theorem gX3_sold_X3_storeOf : GoodIn wsX3_sold (wsV RX3 62 RX3 yX3_storeOf wsX3_storeOf) := goodIn_app (goodIn_of _ (by decide +kernel)) ggX3_sold_X3_storeOf
set_option maxRecDepth 20000 in
theorem ggX3_wouldSell_X3_storeOf : GoodIn wsX3_wouldSell wsX3_storeOf := goodIn_ca (goodIn_r _ [5, 6, 7, 8, 4, 9, 10, 11, 33, 34, 35] (by decide +kernel) (by decide +kernel)) (goodIn_sub (fun _ h => List.mem_cons_of_mem _ (List.mem_append_right _ h)) (by decide +kernel))
set_option maxRecDepth 20000 in
theorem gX3_wouldSell_X3_storeOf : GoodIn wsX3_wouldSell (wsV RX3 62 RX3 yX3_storeOf wsX3_storeOf) := goodIn_app (goodIn_of _ (by decide +kernel)) ggX3_wouldSell_X3_storeOf
set_option maxRecDepth 20000 in
theorem ggX3_wouldSell_X3_requireStep : GoodIn wsX3_wouldSell wsX3_requireStep := goodIn_ca (goodIn_r _ [14, 7, 8, 4, 9, 10, 11] (by decide +kernel) (by decide +kernel)) (goodIn_sub (fun _ h => List.mem_cons_of_mem _ (List.mem_append_right _ h)) (by decide +kernel))
set_option maxRecDepth 20000 in
theorem gX3_wouldSell_X3_requireStep : GoodIn wsX3_wouldSell (va_wsS RX3 44 yX3_requireStep wsX3_requireStep) := goodIn_app (goodIn_of _ (by decide +kernel)) ggX3_wouldSell_X3_requireStep
set_option maxRecDepth 20000 in
theorem ggX3_wouldSell_X2_salesAt : GoodIn wsX3_wouldSell wsX2_salesAt := goodIn_r _ [18, 19, 20, 21, 22, 23, 24, 25, 26, 16, 27, 28, 29, 30, 31, 32, 36, 37, 38, 39, 40] (by decide +kernel) (by decide +kernel)
set_option maxRecDepth 20000 in
theorem gX3_wouldSell_X2_salesAt_n122 : GoodIn wsX3_wouldSell (wsX2_salesAt) := ggX3_wouldSell_X2_salesAt
set_option maxRecDepth 20000 in
theorem ggX3_best_X3_storeOf : GoodIn wsX3_best wsX3_storeOf := goodIn_ca (goodIn_r _ [7, 8, 9, 10, 6, 11, 12, 13, 76, 77, 78] (by decide +kernel) (by decide +kernel)) (goodIn_sub (fun _ h => List.mem_cons_of_mem _ (List.mem_append_right _ h)) (by decide +kernel))
set_option maxRecDepth 20000 in
theorem gX3_best_X3_storeOf : GoodIn wsX3_best (wsV RX3 62 RX3 yX3_storeOf wsX3_storeOf) := goodIn_app (goodIn_of _ (by decide +kernel)) ggX3_best_X3_storeOf
set_option maxRecDepth 20000 in
theorem ggX3_best_X0_lookAt : GoodIn wsX3_best wsX0_lookAt := goodIn_r _ [17, 18, 19, 20, 21, 22, 23, 24, 25, 26, 27, 28, 29, 30, 31, 32, 33, 34, 35, 36, 37, 38, 39, 40, 41, 42, 43, 44, 45, 46, 79, 80, 81, 82, 83, 84, 85, 86, 87, 88, 89, 90, 91, 92, 93, 94, 95, 96, 97, 98, 99, 100, 101, 102] (by decide +kernel) (by decide +kernel)
set_option maxRecDepth 20000 in
theorem gX3_best_X0_lookAt_n126 : GoodIn wsX3_best (wsX0_lookAt) := ggX3_best_X0_lookAt
set_option maxRecDepth 20000 in
theorem ggX3_best_X0_greatestWorth : GoodIn wsX3_best wsX0_greatestWorth := goodIn_r _ [49, 24, 33, 32, 34, 50, 51, 52, 15, 53, 54, 25, 55, 56, 57, 58, 59, 60, 61, 62, 63, 41, 30, 42, 64, 65, 66, 67, 26, 68, 69, 70, 71, 28, 29, 31, 23, 18, 72, 73, 74, 75, 27, 86, 87, 88, 89, 90, 91, 92, 93, 94, 95, 96, 97] (by decide +kernel) (by decide +kernel)
set_option maxRecDepth 20000 in
theorem gX3_best_X0_greatestWorth_n130 : GoodIn wsX3_best (wsX0_greatestWorth) := ggX3_best_X0_greatestWorth
set_option maxRecDepth 20000 in
theorem ggX3_planned_X3_storeOf : GoodIn wsX3_planned wsX3_storeOf := goodIn_ca (goodIn_r _ [7, 8, 9, 10, 6, 11, 12, 13, 80, 81, 82] (by decide +kernel) (by decide +kernel)) (goodIn_sub (fun _ h => List.mem_cons_of_mem _ (List.mem_append_right _ h)) (by decide +kernel))
set_option maxRecDepth 20000 in
theorem gX3_planned_X3_storeOf : GoodIn wsX3_planned (wsV RX3 62 RX3 yX3_storeOf wsX3_storeOf) := goodIn_app (goodIn_of _ (by decide +kernel)) ggX3_planned_X3_storeOf
set_option maxRecDepth 20000 in
theorem ggX3_planned_X3_requireWithin : GoodIn wsX3_planned wsX3_requireWithin := goodIn_ca (goodIn_r _ [11, 12, 13] (by decide +kernel) (by decide +kernel)) (goodIn_sub (fun _ h => List.mem_cons_of_mem _ (List.mem_append_right _ h)) (by decide +kernel))
set_option maxRecDepth 20000 in
theorem gX3_planned_X3_requireWithin : GoodIn wsX3_planned (va_wsS RX3 30 yX3_requireWithin wsX3_requireWithin) := goodIn_app (goodIn_of _ (by decide +kernel)) ggX3_planned_X3_requireWithin
set_option maxRecDepth 20000 in
theorem ggX3_planned_X0_lookAt : GoodIn wsX3_planned wsX0_lookAt := goodIn_r _ [17, 18, 19, 20, 21, 22, 23, 24, 25, 26, 27, 28, 29, 30, 31, 32, 33, 34, 35, 36, 37, 38, 39, 40, 41, 42, 43, 44, 45, 46, 83, 84, 85, 86, 87, 88, 89, 90, 91, 92, 93, 94, 95, 96, 97, 98, 99, 100, 101, 102, 103, 104, 105, 106] (by decide +kernel) (by decide +kernel)
set_option maxRecDepth 20000 in
theorem gX3_planned_X0_lookAt_n126 : GoodIn wsX3_planned (wsX0_lookAt) := ggX3_planned_X0_lookAt
set_option maxRecDepth 20000 in
theorem ggX3_planned_X0_bestStepIn : GoodIn wsX3_planned wsX0_bestStepIn := goodIn_r _ [49, 33, 34, 32, 24, 26, 23, 28, 29, 30, 31, 50, 51, 52, 15, 53, 54, 25, 55, 56, 57, 58, 59, 60, 61, 62, 63, 41, 42, 64, 65, 66, 67, 68, 69, 70, 71, 18, 72, 73, 74, 75, 27, 76, 77, 78, 79, 90, 91, 92, 93, 94, 95, 96, 97, 98, 99, 100, 101] (by decide +kernel) (by decide +kernel)
set_option maxRecDepth 20000 in
theorem gX3_planned_X0_bestStepIn_n141 : GoodIn wsX3_planned (wsX0_bestStepIn) := ggX3_planned_X0_bestStepIn
set_option maxRecDepth 20000 in
theorem ggX3_bestLeaving_X3_storeOf : GoodIn wsX3_bestLeaving wsX3_storeOf := goodIn_ca (goodIn_r _ [7, 8, 9, 10, 6, 11, 12, 13, 76, 77, 78] (by decide +kernel) (by decide +kernel)) (goodIn_sub (fun _ h => List.mem_cons_of_mem _ (List.mem_append_right _ h)) (by decide +kernel))
set_option maxRecDepth 20000 in
theorem gX3_bestLeaving_X3_storeOf : GoodIn wsX3_bestLeaving (wsV RX3 62 RX3 yX3_storeOf wsX3_storeOf) := goodIn_app (goodIn_of _ (by decide +kernel)) ggX3_bestLeaving_X3_storeOf
set_option maxRecDepth 20000 in
theorem ggX3_bestLeaving_X3_requireWithin : GoodIn wsX3_bestLeaving wsX3_requireWithin := goodIn_ca (goodIn_r _ [11, 12, 13] (by decide +kernel) (by decide +kernel)) (goodIn_sub (fun _ h => List.mem_cons_of_mem _ (List.mem_append_right _ h)) (by decide +kernel))
set_option maxRecDepth 20000 in
theorem gX3_bestLeaving_X3_requireWithin : GoodIn wsX3_bestLeaving (va_wsS RX3 30 yX3_requireWithin wsX3_requireWithin) := goodIn_app (goodIn_of _ (by decide +kernel)) ggX3_bestLeaving_X3_requireWithin
set_option maxRecDepth 20000 in
theorem ggX3_bestLeaving_X0_lookAt : GoodIn wsX3_bestLeaving wsX0_lookAt := goodIn_r _ [17, 18, 19, 20, 21, 22, 23, 24, 25, 26, 27, 28, 29, 30, 31, 32, 33, 34, 35, 36, 37, 38, 39, 40, 41, 42, 43, 44, 45, 46, 79, 80, 81, 82, 83, 84, 85, 86, 87, 88, 89, 90, 91, 92, 93, 94, 95, 96, 97, 98, 99, 100, 101, 102] (by decide +kernel) (by decide +kernel)
set_option maxRecDepth 20000 in
theorem gX3_bestLeaving_X0_lookAt_n126 : GoodIn wsX3_bestLeaving (wsX0_lookAt) := ggX3_bestLeaving_X0_lookAt
set_option maxRecDepth 20000 in
theorem ggX3_bestLeaving_X0_greatestWorth : GoodIn wsX3_bestLeaving wsX0_greatestWorth := goodIn_r _ [49, 24, 33, 32, 34, 50, 51, 52, 15, 53, 54, 25, 55, 56, 57, 58, 59, 60, 61, 62, 63, 41, 30, 42, 64, 65, 66, 67, 26, 68, 69, 70, 71, 28, 29, 31, 23, 18, 72, 73, 74, 75, 27, 86, 87, 88, 89, 90, 91, 92, 93, 94, 95, 96, 97] (by decide +kernel) (by decide +kernel)
set_option maxRecDepth 20000 in
theorem gX3_bestLeaving_X0_greatestWorth_n130 : GoodIn wsX3_bestLeaving (wsX0_greatestWorth) := ggX3_bestLeaving_X0_greatestWorth
set_option maxRecDepth 20000 in
theorem ggX3_requireStep_X3_requireWithin : GoodIn wsX3_requireStep wsX3_requireWithin := goodIn_ca (goodIn_r _ [4, 5, 6] (by decide +kernel) (by decide +kernel)) (goodIn_sub (fun _ h => List.mem_cons_of_mem _ (List.mem_append_right _ h)) (by decide +kernel))
set_option maxRecDepth 20000 in
theorem gX3_requireStep_X3_requireWithin : GoodIn wsX3_requireStep (va_wsS RX3 30 yX3_requireWithin wsX3_requireWithin) := goodIn_app (goodIn_of _ (by decide +kernel)) ggX3_requireStep_X3_requireWithin
set_option maxRecDepth 20000 in
theorem ggX3_requireSize_X3_requireWithin : GoodIn wsX3_requireSize wsX3_requireWithin := goodIn_ca (goodIn_r _ [4, 5, 6] (by decide +kernel) (by decide +kernel)) (goodIn_sub (fun _ h => List.mem_cons_of_mem _ (List.mem_append_right _ h)) (by decide +kernel))
set_option maxRecDepth 20000 in
theorem gX3_requireSize_X3_requireWithin : GoodIn wsX3_requireSize (va_wsS RX3 30 yX3_requireWithin wsX3_requireWithin) := goodIn_app (goodIn_of _ (by decide +kernel)) ggX3_requireSize_X3_requireWithin
set_option maxRecDepth 20000 in
theorem ggX3_requireRoomFor_X2_wholeStock : GoodIn wsX3_requireRoomFor wsX2_wholeStock := goodIn_r _ [6, 7, 8, 9, 10, 11, 12] (by decide +kernel) (by decide +kernel)
set_option maxRecDepth 20000 in
theorem gX3_requireRoomFor_X2_wholeStock_n146 : GoodIn wsX3_requireRoomFor (wsX2_wholeStock) := ggX3_requireRoomFor_X2_wholeStock
set_option maxRecDepth 20000 in
theorem ggX3_storeOf_X3_requireWithin : GoodIn wsX3_storeOf wsX3_requireWithin := goodIn_ca (goodIn_r _ [5, 6, 7] (by decide +kernel) (by decide +kernel)) (goodIn_sub (fun _ h => List.mem_cons_of_mem _ (List.mem_append_right _ h)) (by decide +kernel))
set_option maxRecDepth 20000 in
theorem gX3_storeOf_X3_requireWithin : GoodIn wsX3_storeOf (va_wsS RX3 30 yX3_requireWithin wsX3_requireWithin) := goodIn_app (goodIn_of _ (by decide +kernel)) ggX3_storeOf_X3_requireWithin
theorem dJ9_max_7cf53_0 : decode cJ9_max_7cf53 0 = .ok (.iload_n 0, 1) := by decide +kernel
theorem dJ9_max_7cf53_1 : decode cJ9_max_7cf53 1 = .ok (.iload_n 1, 1) := by decide +kernel
theorem dJ9_max_7cf53_2 : decode cJ9_max_7cf53 2 = .ok (.if_icmp .lt 7, 3) := by decide +kernel
theorem dJ9_max_7cf53_5 : decode cJ9_max_7cf53 5 = .ok (.iload_n 0, 1) := by decide +kernel
theorem dJ9_max_7cf53_6 : decode cJ9_max_7cf53 6 = .ok (.goto 4, 3) := by decide +kernel
theorem dJ9_max_7cf53_9 : decode cJ9_max_7cf53 9 = .ok (.iload_n 1, 1) := by decide +kernel
theorem dJ9_max_7cf53_10 : decode cJ9_max_7cf53 10 = .ok (.ireturn, 1) := by decide +kernel
theorem dJ9_min_7cf53_0 : decode cJ9_min_7cf53 0 = .ok (.iload_n 0, 1) := by decide +kernel
theorem dJ9_min_7cf53_1 : decode cJ9_min_7cf53 1 = .ok (.iload_n 1, 1) := by decide +kernel
theorem dJ9_min_7cf53_2 : decode cJ9_min_7cf53 2 = .ok (.if_icmp .gt 7, 3) := by decide +kernel
theorem dJ9_min_7cf53_5 : decode cJ9_min_7cf53 5 = .ok (.iload_n 0, 1) := by decide +kernel
theorem dJ9_min_7cf53_6 : decode cJ9_min_7cf53 6 = .ok (.goto 4, 3) := by decide +kernel
theorem dJ9_min_7cf53_9 : decode cJ9_min_7cf53 9 = .ok (.iload_n 1, 1) := by decide +kernel
theorem dJ9_min_7cf53_10 : decode cJ9_min_7cf53 10 = .ok (.ireturn, 1) := by decide +kernel
set_option maxRecDepth 20000 in
theorem ggL_does_X3_begin : GoodIn wsL_does wsX3_begin := goodIn_ca (goodIn_r _ [8, 9, 10, 11, 12, 7, 13, 14, 15, 16, 17, 18, 19, 20, 21, 22, 23, 24, 25, 26, 27, 28, 29, 108, 109, 110, 111, 112, 113, 114, 115, 116, 117, 118, 119, 120, 121, 122] (by decide +kernel) (by decide +kernel)) (goodIn_sub (fun _ h => List.mem_cons_of_mem _ (List.mem_append_left _ (List.mem_append_right _ h))) (by decide +kernel))
set_option maxRecDepth 20000 in
theorem gL_does_X3_begin : GoodIn wsL_does (wsV RL 8 RX3 yX3_begin wsX3_begin) := goodIn_app (goodIn_of _ (by decide +kernel)) ggL_does_X3_begin
set_option maxRecDepth 20000 in
theorem ggL_does_X3_setPrice : GoodIn wsL_does wsX3_setPrice := goodIn_ca (goodIn_ca (goodIn_r _ [33, 34, 35, 9, 36, 37, 7, 38, 11, 12, 13, 14, 15, 39, 17, 40, 41, 42, 108, 109, 110, 111, 112, 113, 114, 115, 116, 117] (by decide +kernel) (by decide +kernel)) (goodIn_sub (fun _ h => List.mem_cons_of_mem _ (List.mem_append_right _ h)) (by decide +kernel))) (goodIn_sub (fun _ h => List.mem_cons_of_mem _ (List.mem_append_left _ (List.mem_append_right _ h))) (by decide +kernel))
set_option maxRecDepth 20000 in
theorem gL_does_X3_setPrice : GoodIn wsL_does (wsV RL 14 RX3 yX3_setPrice wsX3_setPrice) := goodIn_app (goodIn_of _ (by decide +kernel)) ggL_does_X3_setPrice
set_option maxRecDepth 20000 in
theorem ggL_does_X3_setDemand : GoodIn wsL_does wsX3_setDemand := goodIn_ca (goodIn_r _ [46, 47, 48, 49, 7, 50, 10, 11, 12, 13, 14, 15, 36, 37, 38, 118, 119, 120, 121, 122, 108, 109, 110] (by decide +kernel) (by decide +kernel)) (goodIn_sub (fun _ h => List.mem_cons_of_mem _ (List.mem_append_left _ (List.mem_append_right _ h))) (by decide +kernel))
set_option maxRecDepth 20000 in
theorem gL_does_X3_setDemand : GoodIn wsL_does (wsV RL 18 RX3 yX3_setDemand wsX3_setDemand) := goodIn_app (goodIn_of _ (by decide +kernel)) ggL_does_X3_setDemand
set_option maxRecDepth 20000 in
theorem ggL_does_X3_put : GoodIn wsL_does wsX3_put := goodIn_ca (goodIn_ca (goodIn_r _ [54, 47, 48, 49, 7, 50, 10, 11, 12, 13, 14, 15, 55, 56, 57, 58, 59, 60, 34, 35, 61, 24, 62, 63, 64, 118, 119, 120, 121, 122, 108, 109, 110] (by decide +kernel) (by decide +kernel)) (goodIn_sub (fun _ h => List.mem_cons_of_mem _ (List.mem_append_left _ (List.mem_append_right _ h))) (by decide +kernel))) (goodIn_sub (fun _ h => List.mem_cons_of_mem _ (List.mem_append_right _ h)) (by decide +kernel))
set_option maxRecDepth 20000 in
theorem gL_does_X3_put : GoodIn wsL_does (wsV RL 22 RX3 yX3_put wsX3_put) := goodIn_app (goodIn_of _ (by decide +kernel)) ggL_does_X3_put
set_option maxRecDepth 20000 in
theorem ggL_does_X3_move : GoodIn wsL_does wsX3_move := goodIn_ca (goodIn_ca (goodIn_r _ [68, 14, 15, 34, 35, 9, 47, 48, 49, 7, 50, 10, 11, 12, 13, 55, 56, 57, 69, 70, 71, 72, 58, 59, 60, 61, 24, 62, 63, 64, 118, 119, 120, 121, 122, 108, 109, 110, 111, 112, 113, 114, 115, 116, 117] (by decide +kernel) (by decide +kernel)) (goodIn_sub (fun _ h => List.mem_cons_of_mem _ (List.mem_append_left _ (List.mem_append_right _ h))) (by decide +kernel))) (goodIn_sub (fun _ h => List.mem_cons_of_mem _ (List.mem_append_right _ h)) (by decide +kernel))
set_option maxRecDepth 20000 in
theorem gL_does_X3_move : GoodIn wsL_does (wsV RL 25 RX3 yX3_move wsX3_move) := goodIn_app (goodIn_of _ (by decide +kernel)) ggL_does_X3_move
set_option maxRecDepth 20000 in
theorem ggL_does_X3_markDown : GoodIn wsL_does wsX3_markDown := goodIn_ca (goodIn_ca (goodIn_r _ [76, 34, 35, 9, 47, 48, 49, 7, 50, 10, 11, 12, 13, 14, 15, 36, 37, 38, 69, 70, 71, 72, 77, 24, 78, 79, 28, 80, 81, 82, 83, 118, 119, 120, 121, 122, 108, 109, 110, 111, 112, 113, 114, 115, 116, 117] (by decide +kernel) (by decide +kernel)) (goodIn_sub (fun _ h => List.mem_cons_of_mem _ (List.mem_append_right _ h)) (by decide +kernel))) (goodIn_sub (fun _ h => List.mem_cons_of_mem _ (List.mem_append_left _ (List.mem_append_right _ h))) (by decide +kernel))
set_option maxRecDepth 20000 in
theorem gL_does_X3_markDown : GoodIn wsL_does (wsV RL 29 RX3 yX3_markDown wsX3_markDown) := goodIn_app (goodIn_of _ (by decide +kernel)) ggL_does_X3_markDown
set_option maxRecDepth 20000 in
theorem ggL_does_X3_run : GoodIn wsL_does wsX3_run := goodIn_ca (goodIn_r _ [87, 10, 9, 69, 70, 71, 7, 72, 34, 35, 88, 24, 89, 90, 27, 64, 29, 91, 92, 93, 94, 95, 96, 97, 82, 98, 99, 100, 101, 102, 103, 61, 62, 63, 104, 105, 106, 107, 108, 109, 110, 111, 112, 113, 114, 115, 116, 117, 118, 119, 120, 121, 122] (by decide +kernel) (by decide +kernel)) (goodIn_sub (fun _ h => List.mem_cons_of_mem _ (List.mem_append_right _ h)) (by decide +kernel))
set_option maxRecDepth 20000 in
theorem gL_does_X3_run : GoodIn wsL_does (wsV RL 32 RX3 yX3_run wsX3_run) := goodIn_app (goodIn_of _ (by decide +kernel)) ggL_does_X3_run
set_option maxRecDepth 20000 in
theorem ggL_rules_X3_setRules : GoodIn wsL_rules wsX3_setRules := goodIn_ca (goodIn_r _ [6, 7, 8, 9, 5, 10, 11, 12, 13, 14, 15, 16, 17, 18, 19, 20, 21, 22] (by decide +kernel) (by decide +kernel)) (goodIn_sub (fun _ h => List.mem_cons_of_mem _ (List.mem_append_right _ h)) (by decide +kernel))
set_option maxRecDepth 20000 in
theorem gL_rules_X3_setRules : GoodIn wsL_rules (wsV RL 41 RX3 yX3_setRules wsX3_setRules) := goodIn_app (goodIn_of _ (by decide +kernel)) ggL_rules_X3_setRules
set_option maxRecDepth 20000 in
theorem ggL_of_X3_stock : GoodIn wsL_of wsX3_stock := goodIn_ca (goodIn_r _ [7, 8, 9, 10, 6, 11, 12, 13, 14, 15, 16, 17, 18, 19, 20, 133, 134, 135, 136, 137, 138, 139, 140] (by decide +kernel) (by decide +kernel)) (goodIn_sub (fun _ h => List.mem_cons_of_mem _ (List.mem_append_right _ h)) (by decide +kernel))
set_option maxRecDepth 20000 in
theorem gL_of_X3_stock : GoodIn wsL_of (wsV RL 45 RX3 yX3_stock wsX3_stock) := goodIn_app (goodIn_of _ (by decide +kernel)) ggL_of_X3_stock
set_option maxRecDepth 20000 in
theorem ggL_of_X3_wouldSell : GoodIn wsL_of wsX3_wouldSell := goodIn_ca (goodIn_r _ [24, 8, 9, 10, 6, 11, 12, 13, 14, 15, 16, 17, 25, 26, 27, 28, 29, 30, 31, 32, 33, 34, 35, 36, 37, 38, 39, 40, 41, 42, 43, 44, 45, 138, 139, 140, 133, 134, 135, 136, 137] (by decide +kernel) (by decide +kernel)) (goodIn_sub (fun _ h => List.mem_cons_of_mem _ (List.mem_append_right _ h)) (by decide +kernel))
set_option maxRecDepth 20000 in
theorem gL_of_X3_wouldSell : GoodIn wsL_of (wsV RL 48 RX3 yX3_wouldSell wsX3_wouldSell) := goodIn_app (goodIn_of _ (by decide +kernel)) ggL_of_X3_wouldSell
set_option maxRecDepth 20000 in
theorem ggL_of_X3_step : GoodIn wsL_of wsX3_step := goodIn_ca (goodIn_r _ [49, 8, 9, 10, 6, 11, 12, 13, 14, 15, 16, 17, 133, 134, 135, 136, 137, 138, 139, 140] (by decide +kernel) (by decide +kernel)) (goodIn_sub (fun _ h => List.mem_cons_of_mem _ (List.mem_append_right _ h)) (by decide +kernel))
set_option maxRecDepth 20000 in
theorem gL_of_X3_step : GoodIn wsL_of (wsV RL 51 RX3 yX3_step wsX3_step) := goodIn_app (goodIn_of _ (by decide +kernel)) ggL_of_X3_step
set_option maxRecDepth 20000 in
theorem ggL_of_X3_weeksToWait : GoodIn wsL_of wsX3_weeksToWait := goodIn_ca (goodIn_r _ [53, 54, 8, 9, 10, 6, 11, 12, 13, 14, 15, 16, 17, 55, 29, 56, 57, 58, 59, 60, 35, 61, 138, 139, 140, 141, 142, 143, 144, 145, 146, 147, 133, 134, 135, 136, 137] (by decide +kernel) (by decide +kernel)) (goodIn_sub (fun _ h => List.mem_cons_of_mem _ (List.mem_append_right _ h)) (by decide +kernel))
set_option maxRecDepth 20000 in
theorem gL_of_X3_weeksToWait : GoodIn wsL_of (wsV RL 54 RX3 yX3_weeksToWait wsX3_weeksToWait) := goodIn_app (goodIn_of _ (by decide +kernel)) ggL_of_X3_weeksToWait
set_option maxRecDepth 20000 in
theorem ggL_of_X3_sold : GoodIn wsL_of wsX3_sold := goodIn_ca (goodIn_r _ [65, 8, 9, 10, 6, 11, 12, 13, 14, 15, 16, 17, 133, 134, 135, 136, 137, 138, 139, 140] (by decide +kernel) (by decide +kernel)) (goodIn_sub (fun _ h => List.mem_cons_of_mem _ (List.mem_append_right _ h)) (by decide +kernel))
set_option maxRecDepth 20000 in
theorem gL_of_X3_sold : GoodIn wsL_of (wsV RL 57 RX3 yX3_sold wsX3_sold) := goodIn_app (goodIn_of _ (by decide +kernel)) ggL_of_X3_sold
set_option maxRecDepth 20000 in
theorem ggL_of_X3_best : GoodIn wsL_of wsX3_best := goodIn_ca (goodIn_r _ [69, 70, 54, 8, 9, 10, 6, 11, 12, 13, 14, 15, 16, 17, 71, 72, 73, 74, 75, 76, 77, 78, 79, 80, 81, 82, 83, 84, 85, 34, 35, 36, 86, 87, 88, 55, 29, 56, 57, 58, 59, 60, 61, 43, 44, 45, 41, 89, 90, 91, 92, 93, 94, 95, 96, 97, 98, 99, 100, 101, 102, 103, 104, 105, 106, 107, 108, 109, 110, 111, 112, 113, 114, 115, 116, 117, 138, 139, 140, 141, 142, 143, 144, 145, 146, 147, 148, 149, 150, 151, 152, 153, 154, 155, 156, 157, 158, 159, 133, 134, 135, 136, 137] (by decide +kernel) (by decide +kernel)) (goodIn_sub (fun _ h => List.mem_cons_of_mem _ (List.mem_append_right _ h)) (by decide +kernel))
set_option maxRecDepth 20000 in
theorem gL_of_X3_best : GoodIn wsL_of (wsV RL 60 RX3 yX3_best wsX3_best) := goodIn_app (goodIn_of _ (by decide +kernel)) ggL_of_X3_best
set_option maxRecDepth 20000 in
theorem ggL_of_X3_planned : GoodIn wsL_of wsX3_planned := goodIn_ca (goodIn_r _ [121, 54, 70, 8, 9, 10, 6, 11, 12, 13, 14, 15, 16, 17, 71, 72, 73, 74, 75, 76, 77, 78, 79, 80, 81, 82, 83, 84, 85, 34, 35, 36, 86, 87, 88, 55, 29, 56, 57, 58, 59, 60, 61, 43, 44, 45, 41, 122, 123, 124, 92, 93, 94, 95, 96, 97, 98, 99, 100, 101, 102, 103, 104, 105, 106, 107, 108, 109, 110, 111, 112, 113, 114, 115, 116, 117, 125, 126, 127, 128, 138, 139, 140, 141, 142, 143, 144, 145, 146, 147, 148, 149, 150, 151, 152, 153, 154, 155, 156, 157, 158, 159, 133, 134, 135, 136, 137] (by decide +kernel) (by decide +kernel)) (goodIn_sub (fun _ h => List.mem_cons_of_mem _ (List.mem_append_right _ h)) (by decide +kernel))
set_option maxRecDepth 20000 in
theorem gL_of_X3_planned : GoodIn wsL_of (wsV RL 63 RX3 yX3_planned wsX3_planned) := goodIn_app (goodIn_of _ (by decide +kernel)) ggL_of_X3_planned
set_option maxRecDepth 20000 in
theorem ggL_of_X3_bestLeaving : GoodIn wsL_of wsX3_bestLeaving := goodIn_ca (goodIn_r _ [132, 70, 54, 8, 9, 10, 6, 11, 12, 13, 14, 15, 16, 17, 71, 72, 73, 74, 75, 76, 77, 78, 79, 80, 81, 82, 83, 84, 85, 34, 35, 36, 86, 87, 88, 55, 29, 56, 57, 58, 59, 60, 61, 43, 44, 45, 41, 89, 90, 91, 92, 93, 94, 95, 96, 97, 98, 99, 100, 101, 102, 103, 104, 105, 106, 107, 108, 109, 110, 111, 112, 113, 114, 115, 116, 117, 138, 139, 140, 141, 142, 143, 144, 145, 146, 147, 148, 149, 150, 151, 152, 153, 154, 155, 156, 157, 158, 159, 133, 134, 135, 136, 137] (by decide +kernel) (by decide +kernel)) (goodIn_sub (fun _ h => List.mem_cons_of_mem _ (List.mem_append_right _ h)) (by decide +kernel))
set_option maxRecDepth 20000 in
theorem gL_of_X3_bestLeaving : GoodIn wsL_of (wsV RL 66 RX3 yX3_bestLeaving wsX3_bestLeaving) := goodIn_app (goodIn_of _ (by decide +kernel)) ggL_of_X3_bestLeaving
set_option maxRecDepth 20000 in
theorem ggL_law_X3_init : GoodIn wsL_law wsX3_init := goodIn_r _ [5, 6, 7, 8, 9, 10, 11, 12, 13, 14, 15, 16, 17, 18, 19, 20, 21, 22, 23, 24, 25, 26, 27, 28, 29, 30, 31, 32, 33, 34, 35, 36, 37, 38, 39, 40, 249, 250, 251, 252, 253, 254, 255, 246, 247, 248, 256, 257, 258, 259, 260, 261, 262, 263, 264, 265, 266, 267, 268, 269, 270, 271, 272] (by decide +kernel) (by decide +kernel)
set_option maxRecDepth 20000 in
theorem gL_law_X3_init : GoodIn wsL_law (wsX3_init) := ggL_law_X3_init
set_option maxRecDepth 20000 in
theorem ggL_law_L_drawn : GoodIn wsL_law wsL_drawn := goodIn_r _ [44, 45] (by decide +kernel) (by decide +kernel)
set_option maxRecDepth 20000 in
theorem gL_law_L_drawn : GoodIn wsL_law (va_wsS RL 70 yL_drawn wsL_drawn) := goodIn_app (goodIn_of _ (by decide +kernel)) ggL_law_L_drawn
set_option maxRecDepth 20000 in
theorem ggL_law_L_does : GoodIn wsL_law wsL_does := goodIn_ca (goodIn_ca (goodIn_r _ [48, 49, 50, 51, 52, 53, 54, 2, 55, 12, 14, 56, 57, 58, 59, 60, 61, 11, 62, 63, 26, 64, 65, 66, 20, 67, 68, 69, 40, 70, 71, 72, 73, 74, 75, 76, 77, 78, 79, 80, 81, 82, 25, 83, 84, 85, 86, 87, 88, 89, 90, 91, 92, 93, 94, 95, 96, 97, 98, 99, 100, 101, 102, 103, 39, 104, 105, 106, 107, 108, 109, 110, 111, 112, 113, 114, 115, 116, 117, 118, 119, 120, 121, 122, 123, 124, 125, 126, 127, 128, 129, 130, 131, 132, 133, 38, 134, 135, 136, 137, 138, 139, 140, 141, 142, 143, 144, 145, 246, 247, 248, 249, 250, 251, 252, 253, 254, 255, 268, 269, 270, 271, 272] (by decide +kernel) (by decide +kernel)) (goodIn_sub (fun _ h => List.mem_append_left _ (List.mem_append_right _ h)) (by decide +kernel))) (goodIn_sub (fun _ h => List.mem_append_right _ h) (by decide +kernel))
set_option maxRecDepth 20000 in
theorem gL_law_L_does : GoodIn wsL_law (va_wsS RL 76 yL_does wsL_does) := goodIn_app (goodIn_of _ (by decide +kernel)) ggL_law_L_does
set_option maxRecDepth 20000 in
theorem ggL_law_L_rules : GoodIn wsL_law wsL_rules := goodIn_ca (goodIn_r _ [148, 49, 149, 150, 151, 2, 152, 12, 56, 57, 58, 59, 60, 246, 247, 248, 249, 250, 251, 252, 253, 254, 255] (by decide +kernel) (by decide +kernel)) (goodIn_sub (fun _ h => List.mem_append_left _ (List.mem_append_right _ h)) (by decide +kernel))
set_option maxRecDepth 20000 in
theorem gL_law_L_rules : GoodIn wsL_law (va_wsS RL 80 yL_rules wsL_rules) := goodIn_app (goodIn_of _ (by decide +kernel)) ggL_law_L_rules
set_option maxRecDepth 20000 in
theorem ggL_law_X3_week : GoodIn wsL_law wsX3_week := goodIn_r _ [156, 12, 246, 247, 248, 249, 250, 251, 252, 253, 254, 255] (by decide +kernel) (by decide +kernel)
set_option maxRecDepth 20000 in
theorem gL_law_X3_week : GoodIn wsL_law (wsV RL 84 RX3 yX3_week wsX3_week) := goodIn_app (goodIn_of _ (by decide +kernel)) ggL_law_X3_week
set_option maxRecDepth 20000 in
theorem ggL_law_X3_taken : GoodIn wsL_law wsX3_taken := goodIn_r _ [160, 12, 246, 247, 248, 249, 250, 251, 252, 253, 254, 255] (by decide +kernel) (by decide +kernel)
set_option maxRecDepth 20000 in
theorem gL_law_X3_taken : GoodIn wsL_law (wsV RL 87 RX3 yX3_taken wsX3_taken) := goodIn_app (goodIn_of _ (by decide +kernel)) ggL_law_X3_taken
set_option maxRecDepth 20000 in
theorem ggL_law_L_of : GoodIn wsL_law wsL_of := goodIn_ca (goodIn_r _ [163, 49, 51, 164, 165, 166, 2, 167, 87, 88, 89, 90, 14, 56, 57, 58, 59, 60, 95, 96, 97, 168, 169, 170, 171, 77, 78, 79, 131, 20, 132, 133, 38, 134, 135, 121, 136, 137, 138, 139, 140, 39, 141, 101, 102, 103, 172, 173, 174, 175, 176, 177, 178, 179, 12, 116, 117, 118, 40, 119, 120, 122, 180, 181, 182, 183, 184, 185, 186, 187, 18, 188, 17, 189, 190, 31, 191, 192, 193, 194, 32, 195, 196, 197, 198, 199, 200, 201, 202, 203, 204, 205, 206, 207, 208, 209, 210, 33, 211, 212, 213, 214, 215, 216, 217, 218, 219, 220, 221, 222, 223, 224, 225, 226, 227, 228, 229, 230, 231, 232, 233, 234, 235, 236, 237, 238, 239, 240, 241, 242, 243, 244, 245, 268, 269, 270, 271, 272, 246, 247, 248, 249, 250, 251, 252, 253, 254, 255, 256, 257, 258, 259, 260, 261, 262, 263, 264, 265, 266, 267] (by decide +kernel) (by decide +kernel)) (goodIn_sub (fun _ h => List.mem_append_left _ (List.mem_append_right _ h)) (by decide +kernel))
set_option maxRecDepth 20000 in
theorem gL_law_L_of : GoodIn wsL_law (va_wsS RL 90 yL_of wsL_of) := goodIn_app (goodIn_of _ (by decide +kernel)) ggL_law_L_of
abbrev vwCl : List vw_C := [(RX0, TX0, 12), (RX1, TX1, 7), (RX2, TX2, 5), (RX3, TX3, 3)]

