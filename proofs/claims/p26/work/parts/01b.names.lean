/-! ===== BEGIN printed: names, fields, word lists, decode rows ===== -/
def RX0 : String := "Haltingale$Back"
def TX0 : u_T := fun k => match k with
  | 0 => ("Haltingale$Back", "rows", "LHaltingale$Rows;", false)
  | _ => ("Haltingale$Back", "spare", "LHaltingale$Rows;", false)
def tyX0 : Nat → FieldType := fun k => match k with
  | 0 => .object "Haltingale$Rows"
  | _ => .object "Haltingale$Rows"
abbrev wsX00 : List Cond := u_ws RX0 TX0 2
theorem nmX0 : ∀ a, a < 2 → ∀ b, b < 2 → a ≠ b → (TX0 a).2.1 ≠ (TX0 b).2.1 := by decide +kernel
theorem tyX0_ok : ∀ k, k < 2 → parseFieldDescriptor (TX0 k).2.2.1 = some (tyX0 k) := by decide +kernel
abbrev cX0_init : ByteArray := prog_2_method_1_code
def yX0_init : MethodName := ⟨RX0, "<init>", "()V"⟩
abbrev cX0_emptyDepth : ByteArray := prog_2_method_2_code
def yX0_emptyDepth : MethodName := ⟨RX0, "emptyDepth", "(LHaltingale$Machine;)I"⟩
abbrev cX0_takeEnds : ByteArray := prog_2_method_3_code
def yX0_takeEnds : MethodName := ⟨RX0, "takeEnds", "(LHaltingale$Machine;)V"⟩
abbrev cX0_goBack : ByteArray := prog_2_method_4_code
def yX0_goBack : MethodName := ⟨RX0, "goBack", "(LHaltingale$Machine;)Z"⟩
abbrev cX0_canLead : ByteArray := prog_2_method_5_code
def yX0_canLead : MethodName := ⟨RX0, "canLead", "(LHaltingale$Machine;II)Z"⟩
def RX1 : String := "Haltingale$Cycles"
def TX1 : u_T := fun k => match k with
  | 0 => ("Haltingale$Cycles", "early", "LHaltingale$Walk;", true)
  | 1 => ("Haltingale$Cycles", "late", "LHaltingale$Walk;", true)
  | 2 => ("Haltingale$Cycles", "least", "I", false)
  | _ => ("Haltingale$Cycles", "greatest", "I", false)
def tyX1 : Nat → FieldType := fun k => match k with
  | 0 => .object "Haltingale$Walk"
  | 1 => .object "Haltingale$Walk"
  | 2 => .int
  | _ => .int
abbrev wsX10 : List Cond := u_ws RX1 TX1 4
theorem nmX1 : ∀ a, a < 4 → ∀ b, b < 4 → a ≠ b → (TX1 a).2.1 ≠ (TX1 b).2.1 := by decide +kernel
theorem tyX1_ok : ∀ k, k < 4 → parseFieldDescriptor (TX1 k).2.2.1 = some (tyX1 k) := by decide +kernel
abbrev cX1_init : ByteArray := prog_3_method_1_code
def yX1_init : MethodName := ⟨RX1, "<init>", "()V"⟩
abbrev cX1_isCycle : ByteArray := prog_3_method_2_code
def yX1_isCycle : MethodName := ⟨RX1, "isCycle", "(LHaltingale$Machine;II)Z"⟩
abbrev cX1_smallestCode : ByteArray := prog_3_method_3_code
def yX1_smallestCode : MethodName := ⟨RX1, "smallestCode", "(LHaltingale$Machine;I)I"⟩
abbrev cX1_standBehind : ByteArray := prog_3_method_4_code
def yX1_standBehind : MethodName := ⟨RX1, "standBehind", "(LHaltingale$Machine;I)Z"⟩
abbrev cX1_goFurther : ByteArray := prog_3_method_5_code
def yX1_goFurther : MethodName := ⟨RX1, "goFurther", "(LHaltingale$Machine;)Z"⟩
abbrev cX1_repeats : ByteArray := prog_3_method_6_code
def yX1_repeats : MethodName := ⟨RX1, "repeats", "()Z"⟩
def RX2 : String := "Haltingale$Gram"
def TX2 : u_T := fun k => match k with
  | 0 => ("Haltingale$Gram", "isFound", "[Z", true)
  | 1 => ("Haltingale$Gram", "found", "[I", true)
  | 2 => ("Haltingale$Gram", "lefts", "[Z", true)
  | 3 => ("Haltingale$Gram", "rights", "[Z", true)
  | 4 => ("Haltingale$Gram", "count", "I", false)
  | 5 => ("Haltingale$Gram", "width", "I", false)
  | _ => ("Haltingale$Gram", "isNew", "Z", false)
def tyX2 : Nat → FieldType := fun k => match k with
  | 0 => .array .boolean
  | 1 => .array .int
  | 2 => .array .boolean
  | 3 => .array .boolean
  | 4 => .int
  | 5 => .int
  | _ => .boolean
abbrev wsX20 : List Cond := u_ws RX2 TX2 7
theorem nmX2 : ∀ a, a < 7 → ∀ b, b < 7 → a ≠ b → (TX2 a).2.1 ≠ (TX2 b).2.1 := by decide +kernel
theorem tyX2_ok : ∀ k, k < 7 → parseFieldDescriptor (TX2 k).2.2.1 = some (tyX2 k) := by decide +kernel
abbrev cX2_init : ByteArray := prog_4_method_1_code
def yX2_init : MethodName := ⟨RX2, "<init>", "()V"⟩
abbrev cX2_smallestWidth : ByteArray := prog_4_method_2_code
def yX2_smallestWidth : MethodName := ⟨RX2, "smallestWidth", "(LHaltingale$Machine;)I"⟩
abbrev cX2_isClosed : ByteArray := prog_4_method_3_code
def yX2_isClosed : MethodName := ⟨RX2, "isClosed", "(LHaltingale$Machine;I)Z"⟩
abbrev cX2_clear : ByteArray := prog_4_method_4_code
def yX2_clear : MethodName := ⟨RX2, "clear", "(I)V"⟩
abbrev cX2_spread : ByteArray := prog_4_method_5_code
def yX2_spread : MethodName := ⟨RX2, "spread", "(LHaltingale$Machine;I)Z"⟩
abbrev cX2_hasRow : ByteArray := prog_4_method_6_code
def yX2_hasRow : MethodName := ⟨RX2, "hasRow", "([ZI)Z"⟩
abbrev cX2_addRow : ByteArray := prog_4_method_7_code
def yX2_addRow : MethodName := ⟨RX2, "addRow", "([ZI)V"⟩
abbrev cX2_addWindow : ByteArray := prog_4_method_8_code
def yX2_addWindow : MethodName := ⟨RX2, "addWindow", "(III)V"⟩
def RX3 : String := "Haltingale$Machine"
def TX3 : u_T := fun k => match k with
  | 0 => ("Haltingale$Machine", "states", "I", true)
  | 1 => ("Haltingale$Machine", "writes", "[I", true)
  | 2 => ("Haltingale$Machine", "moves", "[I", true)
  | 3 => ("Haltingale$Machine", "nexts", "[I", true)
  | 4 => ("Haltingale$Machine", "kind", "I", false)
  | 5 => ("Haltingale$Machine", "a", "I", false)
  | _ => ("Haltingale$Machine", "b", "I", false)
def tyX3 : Nat → FieldType := fun k => match k with
  | 0 => .int
  | 1 => .array .int
  | 2 => .array .int
  | 3 => .array .int
  | 4 => .int
  | 5 => .int
  | _ => .int
abbrev wsX30 : List Cond := u_ws RX3 TX3 7
theorem nmX3 : ∀ a, a < 7 → ∀ b, b < 7 → a ≠ b → (TX3 a).2.1 ≠ (TX3 b).2.1 := by decide +kernel
theorem tyX3_ok : ∀ k, k < 7 → parseFieldDescriptor (TX3 k).2.2.1 = some (tyX3 k) := by decide +kernel
abbrev cX3_init : ByteArray := prog_5_method_1_code
def yX3_init : MethodName := ⟨RX3, "<init>", "(I)V"⟩
abbrev cX3_copy : ByteArray := prog_5_method_2_code
def yX3_copy : MethodName := ⟨RX3, "copy", "(LHaltingale$Machine;)V"⟩
abbrev cX3_settle : ByteArray := prog_5_method_3_code
def yX3_settle : MethodName := ⟨RX3, "settle", "(III)V"⟩
abbrev cX3_writeOf : ByteArray := prog_5_method_4_code
def yX3_writeOf : MethodName := ⟨RX3, "writeOf", "(I)I"⟩
abbrev cX3_moveOf : ByteArray := prog_5_method_5_code
def yX3_moveOf : MethodName := ⟨RX3, "moveOf", "(I)I"⟩
abbrev cX3_nextOf : ByteArray := prog_5_method_6_code
def yX3_nextOf : MethodName := ⟨RX3, "nextOf", "(I)I"⟩
abbrev cX3_isEmpty : ByteArray := prog_5_method_7_code
def yX3_isEmpty : MethodName := ⟨RX3, "isEmpty", "(I)Z"⟩
abbrev cX3_isEnd : ByteArray := prog_5_method_8_code
def yX3_isEnd : MethodName := ⟨RX3, "isEnd", "(I)Z"⟩
abbrev cX3_fill : ByteArray := prog_5_method_9_code
def yX3_fill : MethodName := ⟨RX3, "fill", "(IIII)V"⟩
abbrev cX3_countCells : ByteArray := prog_5_method_10_code
def yX3_countCells : MethodName := ⟨RX3, "countCells", "()I"⟩
abbrev cX3_countEmpty : ByteArray := prog_5_method_11_code
def yX3_countEmpty : MethodName := ⟨RX3, "countEmpty", "()I"⟩
abbrev cX3_countFillings : ByteArray := prog_5_method_12_code
def yX3_countFillings : MethodName := ⟨RX3, "countFillings", "()I"⟩
abbrev cX3_fillByWay : ByteArray := prog_5_method_13_code
def yX3_fillByWay : MethodName := ⟨RX3, "fillByWay", "(II)V"⟩
def RX4 : String := "Haltingale$Rows"
def TX4 : u_T := fun k => match k with
  | 0 => ("Haltingale$Rows", "states", "[I", true)
  | 1 => ("Haltingale$Rows", "places", "[I", true)
  | 2 => ("Haltingale$Rows", "known", "[I", true)
  | 3 => ("Haltingale$Rows", "ones", "[I", true)
  | _ => ("Haltingale$Rows", "count", "I", false)
def tyX4 : Nat → FieldType := fun k => match k with
  | 0 => .array .int
  | 1 => .array .int
  | 2 => .array .int
  | 3 => .array .int
  | _ => .int
abbrev wsX40 : List Cond := u_ws RX4 TX4 5
theorem nmX4 : ∀ a, a < 5 → ∀ b, b < 5 → a ≠ b → (TX4 a).2.1 ≠ (TX4 b).2.1 := by decide +kernel
theorem tyX4_ok : ∀ k, k < 5 → parseFieldDescriptor (TX4 k).2.2.1 = some (tyX4 k) := by decide +kernel
abbrev cX4_init : ByteArray := prog_6_method_1_code
def yX4_init : MethodName := ⟨RX4, "<init>", "()V"⟩
abbrev cX4_add : ByteArray := prog_6_method_2_code
def yX4_add : MethodName := ⟨RX4, "add", "(IIII)Z"⟩
abbrev cX4_bitOf : ByteArray := prog_6_method_3_code
def yX4_bitOf : MethodName := ⟨RX4, "bitOf", "(I)I"⟩
def RX5 : String := "Haltingale$Tag"
def TX5 : u_T := fun k => match k with
  | _ => ("", "", "", false)
def tyX5 : Nat → FieldType := fun k => match k with
  | _ => .int
abbrev wsX50 : List Cond := u_ws RX5 TX5 0
theorem nmX5 : ∀ a, a < 0 → ∀ b, b < 0 → a ≠ b → (TX5 a).2.1 ≠ (TX5 b).2.1 := by decide +kernel
theorem tyX5_ok : ∀ k, k < 0 → parseFieldDescriptor (TX5 k).2.2.1 = some (tyX5 k) := by decide +kernel
abbrev cX5_lengthOf : ByteArray := prog_7_method_2_code
def yX5_lengthOf : MethodName := ⟨RX5, "lengthOf", "(I)I"⟩
abbrev cX5_goOn : ByteArray := prog_7_method_3_code
def yX5_goOn : MethodName := ⟨RX5, "goOn", "(I)I"⟩
def RX6 : String := "Haltingale$Walk"
def TX6 : u_T := fun k => match k with
  | 0 => ("Haltingale$Walk", "tape", "[I", true)
  | 1 => ("Haltingale$Walk", "done", "I", false)
  | 2 => ("Haltingale$Walk", "state", "I", false)
  | 3 => ("Haltingale$Walk", "place", "I", false)
  | 4 => ("Haltingale$Walk", "least", "I", false)
  | _ => ("Haltingale$Walk", "greatest", "I", false)
def tyX6 : Nat → FieldType := fun k => match k with
  | 0 => .array .int
  | 1 => .int
  | 2 => .int
  | 3 => .int
  | 4 => .int
  | _ => .int
abbrev wsX60 : List Cond := u_ws RX6 TX6 6
theorem nmX6 : ∀ a, a < 6 → ∀ b, b < 6 → a ≠ b → (TX6 a).2.1 ≠ (TX6 b).2.1 := by decide +kernel
theorem tyX6_ok : ∀ k, k < 6 → parseFieldDescriptor (TX6 k).2.2.1 = some (tyX6 k) := by decide +kernel
abbrev cX6_init : ByteArray := prog_8_method_1_code
def yX6_init : MethodName := ⟨RX6, "<init>", "()V"⟩
abbrev cX6_begin : ByteArray := prog_8_method_2_code
def yX6_begin : MethodName := ⟨RX6, "begin", "()V"⟩
abbrev cX6_run : ByteArray := prog_8_method_3_code
def yX6_run : MethodName := ⟨RX6, "run", "(LHaltingale$Machine;I)V"⟩
abbrev cX6_step : ByteArray := prog_8_method_4_code
def yX6_step : MethodName := ⟨RX6, "step", "(LHaltingale$Machine;)Z"⟩
abbrev cX6_metCell : ByteArray := prog_8_method_5_code
def yX6_metCell : MethodName := ⟨RX6, "metCell", "()I"⟩
abbrev cX6_hasStopped : ByteArray := prog_8_method_6_code
def yX6_hasStopped : MethodName := ⟨RX6, "hasStopped", "(LHaltingale$Machine;)Z"⟩
abbrev cX6_isHanging : ByteArray := prog_8_method_7_code
def yX6_isHanging : MethodName := ⟨RX6, "isHanging", "(LHaltingale$Machine;)Z"⟩
abbrev cX6_read : ByteArray := prog_8_method_8_code
def yX6_read : MethodName := ⟨RX6, "read", "(I)I"⟩
abbrev cX6_put : ByteArray := prog_8_method_9_code
def yX6_put : MethodName := ⟨RX6, "put", "(II)V"⟩
abbrev cX6_countOnes : ByteArray := prog_8_method_10_code
def yX6_countOnes : MethodName := ⟨RX6, "countOnes", "()I"⟩
abbrev cX6_countRuns : ByteArray := prog_8_method_11_code
def yX6_countRuns : MethodName := ⟨RX6, "countRuns", "()I"⟩
abbrev cX6_eighths : ByteArray := prog_8_method_12_code
def yX6_eighths : MethodName := ⟨RX6, "eighths", "()I"⟩
def RX7 : String := "Haltingale"
def TX7 : u_T := fun k => match k with
  | 0 => ("Haltingale", "machines", "[LHaltingale$Machine;", true)
  | 1 => ("Haltingale", "tags", "[LHaltingale$Tag;", true)
  | 2 => ("Haltingale", "walk", "LHaltingale$Walk;", true)
  | 3 => ("Haltingale", "cycles", "LHaltingale$Cycles;", true)
  | 4 => ("Haltingale", "back", "LHaltingale$Back;", true)
  | 5 => ("Haltingale", "gram", "LHaltingale$Gram;", true)
  | 6 => ("Haltingale", "machineCount", "I", false)
  | 7 => ("Haltingale", "tagCount", "I", false)
  | 8 => ("Haltingale", "givenCount", "I", false)
  | 9 => ("Haltingale", "takenCount", "I", false)
  | _ => ("Haltingale", "takenBackCount", "I", false)
def tyX7 : Nat → FieldType := fun k => match k with
  | 0 => .array (.object "Haltingale$Machine")
  | 1 => .array (.object "Haltingale$Tag")
  | 2 => .object "Haltingale$Walk"
  | 3 => .object "Haltingale$Cycles"
  | 4 => .object "Haltingale$Back"
  | 5 => .object "Haltingale$Gram"
  | 6 => .int
  | 7 => .int
  | 8 => .int
  | 9 => .int
  | _ => .int
abbrev wsX70 : List Cond := u_ws RX7 TX7 11
theorem nmX7 : ∀ a, a < 11 → ∀ b, b < 11 → a ≠ b → (TX7 a).2.1 ≠ (TX7 b).2.1 := by decide +kernel
theorem tyX7_ok : ∀ k, k < 11 → parseFieldDescriptor (TX7 k).2.2.1 = some (tyX7 k) := by decide +kernel
abbrev cX7_init : ByteArray := prog_1_method_1_code
def yX7_init : MethodName := ⟨RX7, "<init>", "()V"⟩
abbrev cX7_machine : ByteArray := prog_1_method_2_code
def yX7_machine : MethodName := ⟨RX7, "machine", "(I)I"⟩
abbrev cX7_tell : ByteArray := prog_1_method_3_code
def yX7_tell : MethodName := ⟨RX7, "tell", "(IIIIII)I"⟩
abbrev cX7_amend : ByteArray := prog_1_method_4_code
def yX7_amend : MethodName := ⟨RX7, "amend", "(IIIIII)Z"⟩
abbrev cX7_child : ByteArray := prog_1_method_5_code
def yX7_child : MethodName := ⟨RX7, "child", "(II)I"⟩
abbrev cX7_prove : ByteArray := prog_1_method_7_code
def yX7_prove : MethodName := ⟨RX7, "prove", "(IIII)Z"⟩
abbrev cX7_doubt : ByteArray := prog_1_method_8_code
def yX7_doubt : MethodName := ⟨RX7, "doubt", "(I)I"⟩
abbrev cX7_decide : ByteArray := prog_1_method_9_code
def yX7_decide : MethodName := ⟨RX7, "decide", "(I)I"⟩
abbrev cX7_cell : ByteArray := prog_1_method_10_code
def yX7_cell : MethodName := ⟨RX7, "cell", "(IIII)I"⟩
abbrev cX7_ofMachine : ByteArray := prog_1_method_11_code
def yX7_ofMachine : MethodName := ⟨RX7, "ofMachine", "(II)I"⟩
abbrev cX7_at : ByteArray := prog_1_method_12_code
def yX7_at : MethodName := ⟨RX7, "at", "(III)I"⟩
abbrev cX7_symbol : ByteArray := prog_1_method_13_code
def yX7_symbol : MethodName := ⟨RX7, "symbol", "(III)I"⟩
abbrev cX7_champion : ByteArray := prog_1_method_17_code
def yX7_champion : MethodName := ⟨RX7, "champion", "(I)I"⟩
abbrev cX7_tagged : ByteArray := prog_1_method_18_code
def yX7_tagged : MethodName := ⟨RX7, "tagged", "(III)I"⟩
abbrev cX7_many : ByteArray := prog_1_method_19_code
def yX7_many : MethodName := ⟨RX7, "many", "(I)I"⟩
abbrev cX7_meanStop : ByteArray := prog_1_method_20_code
def yX7_meanStop : MethodName := ⟨RX7, "meanStop", "()D"⟩
abbrev cX7_digest : ByteArray := prog_1_method_24_code
def yX7_digest : MethodName := ⟨RX7, "digest", "()J"⟩
abbrev cX7_digestTable : ByteArray := prog_1_method_25_code
def yX7_digestTable : MethodName := ⟨RX7, "digestTable", "(JI)J"⟩
abbrev cX7_digestRuns : ByteArray := prog_1_method_26_code
def yX7_digestRuns : MethodName := ⟨RX7, "digestRuns", "(JI)J"⟩
abbrev cX7_isWithin : ByteArray := prog_1_method_27_code
def yX7_isWithin : MethodName := ⟨RX7, "isWithin", "(III)Z"⟩
abbrev cX7_require : ByteArray := prog_1_method_28_code
def yX7_require : MethodName := ⟨RX7, "require", "(Z)V"⟩
abbrev cX7_requireOpen : ByteArray := prog_1_method_29_code
def yX7_requireOpen : MethodName := ⟨RX7, "requireOpen", "(LHaltingale$Machine;)V"⟩
abbrev cX7_requireRoomForMachine : ByteArray := prog_1_method_30_code
def yX7_requireRoomForMachine : MethodName := ⟨RX7, "requireRoomForMachine", "()V"⟩
abbrev cX7_find : ByteArray := prog_1_method_31_code
def yX7_find : MethodName := ⟨RX7, "find", "(I)LHaltingale$Machine;"⟩
abbrev cX7_findCell : ByteArray := prog_1_method_32_code
def yX7_findCell : MethodName := ⟨RX7, "findCell", "(LHaltingale$Machine;II)I"⟩
abbrev cX7_findTag : ByteArray := prog_1_method_33_code
def yX7_findTag : MethodName := ⟨RX7, "findTag", "(I)LHaltingale$Tag;"⟩
abbrev cX7_isFilling : ByteArray := prog_1_method_34_code
def yX7_isFilling : MethodName := ⟨RX7, "isFilling", "(LHaltingale$Machine;III)Z"⟩
abbrev cX7_isCertificate : ByteArray := prog_1_method_35_code
def yX7_isCertificate : MethodName := ⟨RX7, "isCertificate", "(III)Z"⟩
abbrev cX7_append : ByteArray := prog_1_method_36_code
def yX7_append : MethodName := ⟨RX7, "append", "(LHaltingale$Machine;)I"⟩
abbrev cX7_takeBack : ByteArray := prog_1_method_37_code
def yX7_takeBack : MethodName := ⟨RX7, "takeBack", "(LHaltingale$Machine;)Z"⟩
abbrev cX7_decideBy : ByteArray := prog_1_method_38_code
def yX7_decideBy : MethodName := ⟨RX7, "decideBy", "(LHaltingale$Machine;III)I"⟩
abbrev cX7_isTaken : ByteArray := prog_1_method_39_code
def yX7_isTaken : MethodName := ⟨RX7, "isTaken", "(LHaltingale$Machine;III)Z"⟩
abbrev cX7_isBack : ByteArray := prog_1_method_40_code
def yX7_isBack : MethodName := ⟨RX7, "isBack", "(LHaltingale$Machine;I)Z"⟩
abbrev cX7_smallestBack : ByteArray := prog_1_method_41_code
def yX7_smallestBack : MethodName := ⟨RX7, "smallestBack", "(LHaltingale$Machine;)I"⟩
abbrev cX7_goesOnFor : ByteArray := prog_1_method_42_code
def yX7_goesOnFor : MethodName := ⟨RX7, "goesOnFor", "(LHaltingale$Machine;I)Z"⟩
abbrev cX7_countWays : ByteArray := prog_1_method_43_code
def yX7_countWays : MethodName := ⟨RX7, "countWays", "(LHaltingale$Machine;)I"⟩
abbrev cX7_asItStops : ByteArray := prog_1_method_44_code
def yX7_asItStops : MethodName := ⟨RX7, "asItStops", "(LHaltingale$Machine;I)I"⟩
abbrev cX7_countOfKind : ByteArray := prog_1_method_45_code
def yX7_countOfKind : MethodName := ⟨RX7, "countOfKind", "(I)I"⟩
abbrev cX7_countEmptyCells : ByteArray := prog_1_method_46_code
def yX7_countEmptyCells : MethodName := ⟨RX7, "countEmptyCells", "()I"⟩
def RX8 : String := "HaltingaleModel$Machine"
def TX8 : u_T := fun k => match k with
  | _ => ("", "", "", false)
def tyX8 : Nat → FieldType := fun k => match k with
  | _ => .int
abbrev wsX80 : List Cond := u_ws RX8 TX8 0
theorem nmX8 : ∀ a, a < 0 → ∀ b, b < 0 → a ≠ b → (TX8 a).2.1 ≠ (TX8 b).2.1 := by decide +kernel
theorem tyX8_ok : ∀ k, k < 0 → parseFieldDescriptor (TX8 k).2.2.1 = some (tyX8 k) := by decide +kernel
def RX9 : String := "HaltingaleModel$Run"
def TX9 : u_T := fun k => match k with
  | _ => ("", "", "", false)
def tyX9 : Nat → FieldType := fun k => match k with
  | _ => .int
abbrev wsX90 : List Cond := u_ws RX9 TX9 0
theorem nmX9 : ∀ a, a < 0 → ∀ b, b < 0 → a ≠ b → (TX9 a).2.1 ≠ (TX9 b).2.1 := by decide +kernel
theorem tyX9_ok : ∀ k, k < 0 → parseFieldDescriptor (TX9 k).2.2.1 = some (tyX9 k) := by decide +kernel
def RX10 : String := "HaltingaleModel"
def TX10 : u_T := fun k => match k with
  | _ => ("", "", "", false)
def tyX10 : Nat → FieldType := fun k => match k with
  | _ => .int
abbrev wsX100 : List Cond := u_ws RX10 TX10 0
theorem nmX10 : ∀ a, a < 0 → ∀ b, b < 0 → a ≠ b → (TX10 a).2.1 ≠ (TX10 b).2.1 := by decide +kernel
theorem tyX10_ok : ∀ k, k < 0 → parseFieldDescriptor (TX10 k).2.2.1 = some (tyX10 k) := by decide +kernel
def RJx145de : String := "java/io/Serializable"
def TJx145de : u_T := fun k => match k with
  | _ => ("", "", "", false)
def tyJx145de : Nat → FieldType := fun k => match k with
  | _ => .int
abbrev wsJx145de0 : List Cond := u_ws RJx145de TJx145de 0
theorem nmJx145de : ∀ a, a < 0 → ∀ b, b < 0 → a ≠ b → (TJx145de a).2.1 ≠ (TJx145de b).2.1 := by decide +kernel
theorem tyJx145de_ok : ∀ k, k < 0 → parseFieldDescriptor (TJx145de k).2.2.1 = some (tyJx145de k) := by decide +kernel
def RJ9 : String := "java/lang/Math"
def TJ9 : u_T := fun k => match k with
  | _ => ("", "", "", false)
def tyJ9 : Nat → FieldType := fun k => match k with
  | _ => .int
abbrev wsJ90 : List Cond := u_ws RJ9 TJ9 0
theorem nmJ9 : ∀ a, a < 0 → ∀ b, b < 0 → a ≠ b → (TJ9 a).2.1 ≠ (TJ9 b).2.1 := by decide +kernel
theorem tyJ9_ok : ∀ k, k < 0 → parseFieldDescriptor (TJ9 k).2.2.1 = some (tyJ9 k) := by decide +kernel
abbrev cJ9_abs_0f7a4 : ByteArray := prog_17_method_59_code
def yJ9_abs_0f7a4 : MethodName := ⟨RJ9, "abs", "(I)I"⟩
abbrev cJ9_max_7cf53 : ByteArray := prog_17_method_65_code
def yJ9_max_7cf53 : MethodName := ⟨RJ9, "max", "(II)I"⟩
abbrev cJ9_min_7cf53 : ByteArray := prog_17_method_69_code
def yJ9_min_7cf53 : MethodName := ⟨RJ9, "min", "(II)I"⟩
def RJ0 : String := "java/lang/String"
def TJ0 : u_T := fun k => match k with
  | _ => ("", "", "", false)
def tyJ0 : Nat → FieldType := fun k => match k with
  | _ => .int
abbrev wsJ00 : List Cond := u_ws RJ0 TJ0 0
theorem nmJ0 : ∀ a, a < 0 → ∀ b, b < 0 → a ≠ b → (TJ0 a).2.1 ≠ (TJ0 b).2.1 := by decide +kernel
theorem tyJ0_ok : ∀ k, k < 0 → parseFieldDescriptor (TJ0 k).2.2.1 = some (tyJ0 k) := by decide +kernel
def RL : String := "HaltingaleLaw"
abbrev cL_below : ByteArray := method_2_code
def yL_below : MethodName := ⟨RL, "below", "(II)I"⟩
abbrev cL_cell : ByteArray := method_3_code
def yL_cell : MethodName := ⟨RL, "cell", "([II)I"⟩
abbrev cL_machine : ByteArray := method_4_code
def yL_machine : MethodName := ⟨RL, "machine", "(LHaltingale;III)I"⟩
abbrev cL_law : ByteArray := code
def yL_law : MethodName := ⟨RL, "law", "([I)Z"⟩
abbrev cL_prove : ByteArray := method_6_code
def yL_prove : MethodName := ⟨RL, "prove", "(LHaltingale;IIII)I"⟩
abbrev cL_isStep : ByteArray := method_7_code
def yL_isStep : MethodName := ⟨RL, "isStep", "(LHaltingale;II)Z"⟩
abbrev cL_isSo : ByteArray := method_8_code
def yL_isSo : MethodName := ⟨RL, "isSo", "(LHaltingale;)Z"⟩
abbrev cL_areStanding : ByteArray := method_9_code
def yL_areStanding : MethodName := ⟨RL, "areStanding", "(LHaltingale;)Z"⟩
abbrev vwCl : List vw_C := [(RX0, TX0, 2), (RX1, TX1, 4), (RX2, TX2, 7), (RX3, TX3, 7), (RX4, TX4, 5), (RX6, TX6, 6), (RX7, TX7, 11)]
theorem inX0 : ∀ w ∈ wsX00, w ∈ lw_tbl := by decide +kernel
theorem inX1 : ∀ w ∈ wsX10, w ∈ lw_tbl := by decide +kernel
theorem inX2 : ∀ w ∈ wsX20, w ∈ lw_tbl := by decide +kernel
theorem inX3 : ∀ w ∈ wsX30, w ∈ lw_tbl := by decide +kernel
theorem inX4 : ∀ w ∈ wsX40, w ∈ lw_tbl := by decide +kernel
theorem inX6 : ∀ w ∈ wsX60, w ∈ lw_tbl := by decide +kernel
theorem inX7 : ∀ w ∈ wsX70, w ∈ lw_tbl := by decide +kernel
