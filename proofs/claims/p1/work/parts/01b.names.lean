/-! ===== BEGIN printed: names, fields, word lists, decode rows ===== -/
def RX0 : String := "Haltingale$Back"
def TX0 : u_T := fun k => match k with
  | 0 => ("Haltingale$Back", "rows", "LHaltingale$Rows;", false)
  | _ => ("Haltingale$Back", "spare", "LHaltingale$Rows;", false)
def tyX0 : Nat → FieldType := fun k => match k with
  | 0 => .object "Haltingale$Rows"
  | _ => .object "Haltingale$Rows"
abbrev wsX00 : List Cond := u_ws RX0 TX0 2
theorem nmX0 : ∀ a, a < 2 → ∀ b, b < 2 → a ≠ b → (TX0 a).2.1 ≠ (TX0 b).2.1 := by decide +kernel
theorem tyX0_ok : ∀ k, k < 2 → parseFieldDescriptor (TX0 k).2.2.1 = some (tyX0 k) := by decide +kernel
abbrev cX0_init : ByteArray := prog_2_method_1_code
def yX0_init : MethodName := ⟨RX0, "<init>", "()V"⟩
abbrev cX0_emptyDepth : ByteArray := prog_2_method_2_code
def yX0_emptyDepth : MethodName := ⟨RX0, "emptyDepth", "(LHaltingale$Machine;)I"⟩
abbrev cX0_takeEnds : ByteArray := prog_2_method_3_code
def yX0_takeEnds : MethodName := ⟨RX0, "takeEnds", "(LHaltingale$Machine;)V"⟩
abbrev cX0_goBack : ByteArray := prog_2_method_4_code
def yX0_goBack : MethodName := ⟨RX0, "goBack", "(LHaltingale$Machine;)Z"⟩
abbrev cX0_canLead : ByteArray := prog_2_method_5_code
def yX0_canLead : MethodName := ⟨RX0, "canLead", "(LHaltingale$Machine;II)Z"⟩
def RX1 : String := "Haltingale$Cycles"
def TX1 : u_T := fun k => match k with
  | 0 => ("Haltingale$Cycles", "early", "LHaltingale$Walk;", true)
  | 1 => ("Haltingale$Cycles", "late", "LHaltingale$Walk;", true)
  | 2 => ("Haltingale$Cycles", "least", "I", false)
  | _ => ("Haltingale$Cycles", "greatest", "I", false)
def tyX1 : Nat → FieldType := fun k => match k with
  | 0 => .object "Haltingale$Walk"
  | 1 => .object "Haltingale$Walk"
  | 2 => .int
  | _ => .int
abbrev wsX10 : List Cond := u_ws RX1 TX1 4
theorem nmX1 : ∀ a, a < 4 → ∀ b, b < 4 → a ≠ b → (TX1 a).2.1 ≠ (TX1 b).2.1 := by decide +kernel
theorem tyX1_ok : ∀ k, k < 4 → parseFieldDescriptor (TX1 k).2.2.1 = some (tyX1 k) := by decide +kernel
abbrev cX1_init : ByteArray := prog_3_method_1_code
def yX1_init : MethodName := ⟨RX1, "<init>", "()V"⟩
abbrev cX1_isCycle : ByteArray := prog_3_method_2_code
def yX1_isCycle : MethodName := ⟨RX1, "isCycle", "(LHaltingale$Machine;II)Z"⟩
abbrev cX1_smallestCode : ByteArray := prog_3_method_3_code
def yX1_smallestCode : MethodName := ⟨RX1, "smallestCode", "(LHaltingale$Machine;I)I"⟩
abbrev cX1_standBehind : ByteArray := prog_3_method_4_code
def yX1_standBehind : MethodName := ⟨RX1, "standBehind", "(LHaltingale$Machine;I)Z"⟩
abbrev cX1_goFurther : ByteArray := prog_3_method_5_code
def yX1_goFurther : MethodName := ⟨RX1, "goFurther", "(LHaltingale$Machine;)Z"⟩
abbrev cX1_repeats : ByteArray := prog_3_method_6_code
def yX1_repeats : MethodName := ⟨RX1, "repeats", "()Z"⟩
def RX2 : String := "Haltingale$Gram"
def TX2 : u_T := fun k => match k with
  | 0 => ("Haltingale$Gram", "isFound", "[Z", true)
  | 1 => ("Haltingale$Gram", "found", "[I", true)
  | 2 => ("Haltingale$Gram", "lefts", "[Z", true)
  | 3 => ("Haltingale$Gram", "rights", "[Z", true)
  | 4 => ("Haltingale$Gram", "count", "I", false)
  | 5 => ("Haltingale$Gram", "width", "I", false)
  | _ => ("Haltingale$Gram", "isNew", "Z", false)
def tyX2 : Nat → FieldType := fun k => match k with
  | 0 => .array .boolean
  | 1 => .array .int
  | 2 => .array .boolean
  | 3 => .array .boolean
  | 4 => .int
  | 5 => .int
  | _ => .boolean
abbrev wsX20 : List Cond := u_ws RX2 TX2 7
theorem nmX2 : ∀ a, a < 7 → ∀ b, b < 7 → a ≠ b → (TX2 a).2.1 ≠ (TX2 b).2.1 := by decide +kernel
theorem tyX2_ok : ∀ k, k < 7 → parseFieldDescriptor (TX2 k).2.2.1 = some (tyX2 k) := by decide +kernel
abbrev cX2_init : ByteArray := prog_4_method_1_code
def yX2_init : MethodName := ⟨RX2, "<init>", "()V"⟩
abbrev cX2_smallestWidth : ByteArray := prog_4_method_2_code
def yX2_smallestWidth : MethodName := ⟨RX2, "smallestWidth", "(LHaltingale$Machine;)I"⟩
abbrev cX2_isClosed : ByteArray := prog_4_method_3_code
def yX2_isClosed : MethodName := ⟨RX2, "isClosed", "(LHaltingale$Machine;I)Z"⟩
abbrev cX2_clear : ByteArray := prog_4_method_4_code
def yX2_clear : MethodName := ⟨RX2, "clear", "(I)V"⟩
abbrev cX2_spread : ByteArray := prog_4_method_5_code
def yX2_spread : MethodName := ⟨RX2, "spread", "(LHaltingale$Machine;I)Z"⟩
abbrev cX2_hasRow : ByteArray := prog_4_method_6_code
def yX2_hasRow : MethodName := ⟨RX2, "hasRow", "([ZI)Z"⟩
abbrev cX2_addRow : ByteArray := prog_4_method_7_code
def yX2_addRow : MethodName := ⟨RX2, "addRow", "([ZI)V"⟩
abbrev cX2_addWindow : ByteArray := prog_4_method_8_code
def yX2_addWindow : MethodName := ⟨RX2, "addWindow", "(III)V"⟩
def RX3 : String := "Haltingale$Machine"
def TX3 : u_T := fun k => match k with
  | 0 => ("Haltingale$Machine", "states", "I", true)
  | 1 => ("Haltingale$Machine", "writes", "[I", true)
  | 2 => ("Haltingale$Machine", "moves", "[I", true)
  | 3 => ("Haltingale$Machine", "nexts", "[I", true)
  | 4 => ("Haltingale$Machine", "kind", "I", false)
  | 5 => ("Haltingale$Machine", "a", "I", false)
  | _ => ("Haltingale$Machine", "b", "I", false)
def tyX3 : Nat → FieldType := fun k => match k with
  | 0 => .int
  | 1 => .array .int
  | 2 => .array .int
  | 3 => .array .int
  | 4 => .int
  | 5 => .int
  | _ => .int
abbrev wsX30 : List Cond := u_ws RX3 TX3 7
theorem nmX3 : ∀ a, a < 7 → ∀ b, b < 7 → a ≠ b → (TX3 a).2.1 ≠ (TX3 b).2.1 := by decide +kernel
theorem tyX3_ok : ∀ k, k < 7 → parseFieldDescriptor (TX3 k).2.2.1 = some (tyX3 k) := by decide +kernel
abbrev cX3_init : ByteArray := prog_5_method_1_code
def yX3_init : MethodName := ⟨RX3, "<init>", "(I)V"⟩
abbrev cX3_copy : ByteArray := prog_5_method_2_code
def yX3_copy : MethodName := ⟨RX3, "copy", "(LHaltingale$Machine;)V"⟩
abbrev cX3_settle : ByteArray := prog_5_method_3_code
def yX3_settle : MethodName := ⟨RX3, "settle", "(III)V"⟩
abbrev cX3_writeOf : ByteArray := prog_5_method_4_code
def yX3_writeOf : MethodName := ⟨RX3, "writeOf", "(I)I"⟩
abbrev cX3_moveOf : ByteArray := prog_5_method_5_code
def yX3_moveOf : MethodName := ⟨RX3, "moveOf", "(I)I"⟩
abbrev cX3_nextOf : ByteArray := prog_5_method_6_code
def yX3_nextOf : MethodName := ⟨RX3, "nextOf", "(I)I"⟩
abbrev cX3_isEmpty : ByteArray := prog_5_method_7_code
def yX3_isEmpty : MethodName := ⟨RX3, "isEmpty", "(I)Z"⟩
abbrev cX3_isEnd : ByteArray := prog_5_method_8_code
def yX3_isEnd : MethodName := ⟨RX3, "isEnd", "(I)Z"⟩
abbrev cX3_fill : ByteArray := prog_5_method_9_code
def yX3_fill : MethodName := ⟨RX3, "fill", "(IIII)V"⟩
abbrev cX3_countCells : ByteArray := prog_5_method_10_code
def yX3_countCells : MethodName := ⟨RX3, "countCells", "()I"⟩
abbrev cX3_countEmpty : ByteArray := prog_5_method_11_code
def yX3_countEmpty : MethodName := ⟨RX3, "countEmpty", "()I"⟩
abbrev cX3_countFillings : ByteArray := prog_5_method_12_code
def yX3_countFillings : MethodName := ⟨RX3, "countFillings", "()I"⟩
abbrev cX3_fillByWay : ByteArray := prog_5_method_13_code
def yX3_fillByWay : MethodName := ⟨RX3, "fillByWay", "(II)V"⟩
abbrev cX3_isLike : ByteArray := prog_5_method_14_code
def yX3_isLike : MethodName := ⟨RX3, "isLike", "(LHaltingale$Machine;I)Z"⟩
def RX4 : String := "Haltingale$Rows"
def TX4 : u_T := fun k => match k with
  | 0 => ("Haltingale$Rows", "states", "[I", true)
  | 1 => ("Haltingale$Rows", "places", "[I", true)
  | 2 => ("Haltingale$Rows", "known", "[I", true)
  | 3 => ("Haltingale$Rows", "ones", "[I", true)
  | _ => ("Haltingale$Rows", "count", "I", false)
def tyX4 : Nat → FieldType := fun k => match k with
  | 0 => .array .int
  | 1 => .array .int
  | 2 => .array .int
  | 3 => .array .int
  | _ => .int
abbrev wsX40 : List Cond := u_ws RX4 TX4 5
theorem nmX4 : ∀ a, a < 5 → ∀ b, b < 5 → a ≠ b → (TX4 a).2.1 ≠ (TX4 b).2.1 := by decide +kernel
theorem tyX4_ok : ∀ k, k < 5 → parseFieldDescriptor (TX4 k).2.2.1 = some (tyX4 k) := by decide +kernel
abbrev cX4_init : ByteArray := prog_6_method_1_code
def yX4_init : MethodName := ⟨RX4, "<init>", "()V"⟩
abbrev cX4_add : ByteArray := prog_6_method_2_code
def yX4_add : MethodName := ⟨RX4, "add", "(IIII)Z"⟩
abbrev cX4_bitOf : ByteArray := prog_6_method_3_code
def yX4_bitOf : MethodName := ⟨RX4, "bitOf", "(I)I"⟩
def RX5 : String := "Haltingale$Tag"
def TX5 : u_T := fun k => match k with
  | 0 => ("Haltingale$Tag", "cut", "I", true)
  | 1 => ("Haltingale$Tag", "zero", "I", true)
  | _ => ("Haltingale$Tag", "one", "I", true)
def tyX5 : Nat → FieldType := fun k => match k with
  | 0 => .int
  | 1 => .int
  | _ => .int
abbrev wsX50 : List Cond := u_ws RX5 TX5 3
theorem nmX5 : ∀ a, a < 3 → ∀ b, b < 3 → a ≠ b → (TX5 a).2.1 ≠ (TX5 b).2.1 := by decide +kernel
theorem tyX5_ok : ∀ k, k < 3 → parseFieldDescriptor (TX5 k).2.2.1 = some (tyX5 k) := by decide +kernel
abbrev cX5_init : ByteArray := prog_7_method_1_code
def yX5_init : MethodName := ⟨RX5, "<init>", "(III)V"⟩
abbrev cX5_lengthOf : ByteArray := prog_7_method_2_code
def yX5_lengthOf : MethodName := ⟨RX5, "lengthOf", "(I)I"⟩
abbrev cX5_goOn : ByteArray := prog_7_method_3_code
def yX5_goOn : MethodName := ⟨RX5, "goOn", "(I)I"⟩
def RX6 : String := "Haltingale$Walk"
def TX6 : u_T := fun k => match k with
  | 0 => ("Haltingale$Walk", "tape", "[I", true)
  | 1 => ("Haltingale$Walk", "done", "I", false)
  | 2 => ("Haltingale$Walk", "state", "I", false)
  | 3 => ("Haltingale$Walk", "place", "I", false)
  | 4 => ("Haltingale$Walk", "least", "I", false)
  | _ => ("Haltingale$Walk", "greatest", "I", false)
def tyX6 : Nat → FieldType := fun k => match k with
  | 0 => .array .int
  | 1 => .int
  | 2 => .int
  | 3 => .int
  | 4 => .int
  | _ => .int
abbrev wsX60 : List Cond := u_ws RX6 TX6 6
theorem nmX6 : ∀ a, a < 6 → ∀ b, b < 6 → a ≠ b → (TX6 a).2.1 ≠ (TX6 b).2.1 := by decide +kernel
theorem tyX6_ok : ∀ k, k < 6 → parseFieldDescriptor (TX6 k).2.2.1 = some (tyX6 k) := by decide +kernel
abbrev cX6_init : ByteArray := prog_8_method_1_code
def yX6_init : MethodName := ⟨RX6, "<init>", "()V"⟩
abbrev cX6_begin : ByteArray := prog_8_method_2_code
def yX6_begin : MethodName := ⟨RX6, "begin", "()V"⟩
abbrev cX6_run : ByteArray := prog_8_method_3_code
def yX6_run : MethodName := ⟨RX6, "run", "(LHaltingale$Machine;I)V"⟩
abbrev cX6_step : ByteArray := prog_8_method_4_code
def yX6_step : MethodName := ⟨RX6, "step", "(LHaltingale$Machine;)Z"⟩
abbrev cX6_metCell : ByteArray := prog_8_method_5_code
def yX6_metCell : MethodName := ⟨RX6, "metCell", "()I"⟩
abbrev cX6_hasStopped : ByteArray := prog_8_method_6_code
def yX6_hasStopped : MethodName := ⟨RX6, "hasStopped", "(LHaltingale$Machine;)Z"⟩
abbrev cX6_isHanging : ByteArray := prog_8_method_7_code
def yX6_isHanging : MethodName := ⟨RX6, "isHanging", "(LHaltingale$Machine;)Z"⟩
abbrev cX6_read : ByteArray := prog_8_method_8_code
def yX6_read : MethodName := ⟨RX6, "read", "(I)I"⟩
abbrev cX6_put : ByteArray := prog_8_method_9_code
def yX6_put : MethodName := ⟨RX6, "put", "(II)V"⟩
abbrev cX6_countOnes : ByteArray := prog_8_method_10_code
def yX6_countOnes : MethodName := ⟨RX6, "countOnes", "()I"⟩
abbrev cX6_countRuns : ByteArray := prog_8_method_11_code
def yX6_countRuns : MethodName := ⟨RX6, "countRuns", "()I"⟩
abbrev cX6_eighths : ByteArray := prog_8_method_12_code
def yX6_eighths : MethodName := ⟨RX6, "eighths", "()I"⟩
def RX7 : String := "Haltingale"
def TX7 : u_T := fun k => match k with
  | 0 => ("Haltingale", "machines", "[LHaltingale$Machine;", true)
  | 1 => ("Haltingale", "tags", "[LHaltingale$Tag;", true)
  | 2 => ("Haltingale", "walk", "LHaltingale$Walk;", true)
  | 3 => ("Haltingale", "cycles", "LHaltingale$Cycles;", true)
  | 4 => ("Haltingale", "back", "LHaltingale$Back;", true)
  | 5 => ("Haltingale", "gram", "LHaltingale$Gram;", true)
  | 6 => ("Haltingale", "machineCount", "I", false)
  | 7 => ("Haltingale", "tagCount", "I", false)
  | 8 => ("Haltingale", "givenCount", "I", false)
  | 9 => ("Haltingale", "takenCount", "I", false)
  | _ => ("Haltingale", "takenBackCount", "I", false)
def tyX7 : Nat → FieldType := fun k => match k with
  | 0 => .array (.object "Haltingale$Machine")
  | 1 => .array (.object "Haltingale$Tag")
  | 2 => .object "Haltingale$Walk"
  | 3 => .object "Haltingale$Cycles"
  | 4 => .object "Haltingale$Back"
  | 5 => .object "Haltingale$Gram"
  | 6 => .int
  | 7 => .int
  | 8 => .int
  | 9 => .int
  | _ => .int
abbrev wsX70 : List Cond := u_ws RX7 TX7 11
theorem nmX7 : ∀ a, a < 11 → ∀ b, b < 11 → a ≠ b → (TX7 a).2.1 ≠ (TX7 b).2.1 := by decide +kernel
theorem tyX7_ok : ∀ k, k < 11 → parseFieldDescriptor (TX7 k).2.2.1 = some (tyX7 k) := by decide +kernel
abbrev cX7_init : ByteArray := prog_1_method_1_code
def yX7_init : MethodName := ⟨RX7, "<init>", "()V"⟩
abbrev cX7_machine : ByteArray := prog_1_method_2_code
def yX7_machine : MethodName := ⟨RX7, "machine", "(I)I"⟩
abbrev cX7_tell : ByteArray := prog_1_method_3_code
def yX7_tell : MethodName := ⟨RX7, "tell", "(IIIIII)I"⟩
abbrev cX7_amend : ByteArray := prog_1_method_4_code
def yX7_amend : MethodName := ⟨RX7, "amend", "(IIIIII)Z"⟩
abbrev cX7_child : ByteArray := prog_1_method_5_code
def yX7_child : MethodName := ⟨RX7, "child", "(II)I"⟩
abbrev cX7_tag : ByteArray := prog_1_method_6_code
def yX7_tag : MethodName := ⟨RX7, "tag", "(III)I"⟩
abbrev cX7_prove : ByteArray := prog_1_method_7_code
def yX7_prove : MethodName := ⟨RX7, "prove", "(IIII)Z"⟩
abbrev cX7_doubt : ByteArray := prog_1_method_8_code
def yX7_doubt : MethodName := ⟨RX7, "doubt", "(I)I"⟩
abbrev cX7_decide : ByteArray := prog_1_method_9_code
def yX7_decide : MethodName := ⟨RX7, "decide", "(I)I"⟩
abbrev cX7_cell : ByteArray := prog_1_method_10_code
def yX7_cell : MethodName := ⟨RX7, "cell", "(IIII)I"⟩
abbrev cX7_ofMachine : ByteArray := prog_1_method_11_code
def yX7_ofMachine : MethodName := ⟨RX7, "ofMachine", "(II)I"⟩
abbrev cX7_at : ByteArray := prog_1_method_12_code
def yX7_at : MethodName := ⟨RX7, "at", "(III)I"⟩
abbrev cX7_symbol : ByteArray := prog_1_method_13_code
def yX7_symbol : MethodName := ⟨RX7, "symbol", "(III)I"⟩
abbrev cX7_lean : ByteArray := prog_1_method_14_code
def yX7_lean : MethodName := ⟨RX7, "lean", "(II)D"⟩
abbrev cX7_meets : ByteArray := prog_1_method_15_code
def yX7_meets : MethodName := ⟨RX7, "meets", "(IIII)I"⟩
abbrev cX7_likeness : ByteArray := prog_1_method_16_code
def yX7_likeness : MethodName := ⟨RX7, "likeness", "(II)I"⟩
abbrev cX7_champion : ByteArray := prog_1_method_17_code
def yX7_champion : MethodName := ⟨RX7, "champion", "(I)I"⟩
abbrev cX7_tagged : ByteArray := prog_1_method_18_code
def yX7_tagged : MethodName := ⟨RX7, "tagged", "(III)I"⟩
abbrev cX7_many : ByteArray := prog_1_method_19_code
def yX7_many : MethodName := ⟨RX7, "many", "(I)I"⟩
abbrev cX7_meanStop : ByteArray := prog_1_method_20_code
def yX7_meanStop : MethodName := ⟨RX7, "meanStop", "()D"⟩
abbrev cX7_cycleIn : ByteArray := prog_1_method_21_code
def yX7_cycleIn : MethodName := ⟨RX7, "cycleIn", "(II)I"⟩
abbrev cX7_backIn : ByteArray := prog_1_method_22_code
def yX7_backIn : MethodName := ⟨RX7, "backIn", "(I)I"⟩
abbrev cX7_gramIn : ByteArray := prog_1_method_23_code
def yX7_gramIn : MethodName := ⟨RX7, "gramIn", "(I)I"⟩
abbrev cX7_digest : ByteArray := prog_1_method_24_code
def yX7_digest : MethodName := ⟨RX7, "digest", "()J"⟩
abbrev cX7_digestTable : ByteArray := prog_1_method_25_code
def yX7_digestTable : MethodName := ⟨RX7, "digestTable", "(JI)J"⟩
abbrev cX7_digestRuns : ByteArray := prog_1_method_26_code
def yX7_digestRuns : MethodName := ⟨RX7, "digestRuns", "(JI)J"⟩
abbrev cX7_isWithin : ByteArray := prog_1_method_27_code
def yX7_isWithin : MethodName := ⟨RX7, "isWithin", "(III)Z"⟩
abbrev cX7_require : ByteArray := prog_1_method_28_code
def yX7_require : MethodName := ⟨RX7, "require", "(Z)V"⟩
abbrev cX7_requireOpen : ByteArray := prog_1_method_29_code
def yX7_requireOpen : MethodName := ⟨RX7, "requireOpen", "(LHaltingale$Machine;)V"⟩
abbrev cX7_requireRoomForMachine : ByteArray := prog_1_method_30_code
def yX7_requireRoomForMachine : MethodName := ⟨RX7, "requireRoomForMachine", "()V"⟩
abbrev cX7_find : ByteArray := prog_1_method_31_code
def yX7_find : MethodName := ⟨RX7, "find", "(I)LHaltingale$Machine;"⟩
abbrev cX7_findCell : ByteArray := prog_1_method_32_code
def yX7_findCell : MethodName := ⟨RX7, "findCell", "(LHaltingale$Machine;II)I"⟩
abbrev cX7_findTag : ByteArray := prog_1_method_33_code
def yX7_findTag : MethodName := ⟨RX7, "findTag", "(I)LHaltingale$Tag;"⟩
abbrev cX7_isFilling : ByteArray := prog_1_method_34_code
def yX7_isFilling : MethodName := ⟨RX7, "isFilling", "(LHaltingale$Machine;III)Z"⟩
abbrev cX7_isCertificate : ByteArray := prog_1_method_35_code
def yX7_isCertificate : MethodName := ⟨RX7, "isCertificate", "(III)Z"⟩
abbrev cX7_append : ByteArray := prog_1_method_36_code
def yX7_append : MethodName := ⟨RX7, "append", "(LHaltingale$Machine;)I"⟩
abbrev cX7_takeBack : ByteArray := prog_1_method_37_code
def yX7_takeBack : MethodName := ⟨RX7, "takeBack", "(LHaltingale$Machine;)Z"⟩
abbrev cX7_decideBy : ByteArray := prog_1_method_38_code
def yX7_decideBy : MethodName := ⟨RX7, "decideBy", "(LHaltingale$Machine;III)I"⟩
abbrev cX7_isTaken : ByteArray := prog_1_method_39_code
def yX7_isTaken : MethodName := ⟨RX7, "isTaken", "(LHaltingale$Machine;III)Z"⟩
abbrev cX7_isBack : ByteArray := prog_1_method_40_code
def yX7_isBack : MethodName := ⟨RX7, "isBack", "(LHaltingale$Machine;I)Z"⟩
abbrev cX7_smallestBack : ByteArray := prog_1_method_41_code
def yX7_smallestBack : MethodName := ⟨RX7, "smallestBack", "(LHaltingale$Machine;)I"⟩
abbrev cX7_goesOnFor : ByteArray := prog_1_method_42_code
def yX7_goesOnFor : MethodName := ⟨RX7, "goesOnFor", "(LHaltingale$Machine;I)Z"⟩
abbrev cX7_countWays : ByteArray := prog_1_method_43_code
def yX7_countWays : MethodName := ⟨RX7, "countWays", "(LHaltingale$Machine;)I"⟩
abbrev cX7_asItStops : ByteArray := prog_1_method_44_code
def yX7_asItStops : MethodName := ⟨RX7, "asItStops", "(LHaltingale$Machine;I)I"⟩
abbrev cX7_countOfKind : ByteArray := prog_1_method_45_code
def yX7_countOfKind : MethodName := ⟨RX7, "countOfKind", "(I)I"⟩
abbrev cX7_countEmptyCells : ByteArray := prog_1_method_46_code
def yX7_countEmptyCells : MethodName := ⟨RX7, "countEmptyCells", "()I"⟩
abbrev cX7_nearestQuotient : ByteArray := prog_1_method_47_code
def yX7_nearestQuotient : MethodName := ⟨RX7, "nearestQuotient", "(II)I"⟩
def RX8 : String := "HaltingaleModel$Machine"
def TX8 : u_T := fun k => match k with
  | 0 => ("HaltingaleModel$Machine", "states", "I", true)
  | 1 => ("HaltingaleModel$Machine", "cells", "[[I", true)
  | 2 => ("HaltingaleModel$Machine", "kind", "I", false)
  | 3 => ("HaltingaleModel$Machine", "a", "I", false)
  | _ => ("HaltingaleModel$Machine", "b", "I", false)
def tyX8 : Nat → FieldType := fun k => match k with
  | 0 => .int
  | 1 => .array (.array .int)
  | 2 => .int
  | 3 => .int
  | _ => .int
abbrev wsX80 : List Cond := u_ws RX8 TX8 5
theorem nmX8 : ∀ a, a < 5 → ∀ b, b < 5 → a ≠ b → (TX8 a).2.1 ≠ (TX8 b).2.1 := by decide +kernel
theorem tyX8_ok : ∀ k, k < 5 → parseFieldDescriptor (TX8 k).2.2.1 = some (tyX8 k) := by decide +kernel
abbrev cX8_init : ByteArray := prog_11_method_1_code
def yX8_init : MethodName := ⟨RX8, "<init>", "(I)V"⟩
abbrev cX8_cell : ByteArray := prog_11_method_2_code
def yX8_cell : MethodName := ⟨RX8, "cell", "(II)[I"⟩
abbrev cX8_empty : ByteArray := prog_11_method_3_code
def yX8_empty : MethodName := ⟨RX8, "empty", "()I"⟩
abbrev cX8_open : ByteArray := prog_11_method_4_code
def yX8_open : MethodName := ⟨RX8, "open", "()Z"⟩
abbrev cX8_run : ByteArray := prog_11_method_5_code
def yX8_run : MethodName := ⟨RX8, "run", "(I)LHaltingaleModel$Run;"⟩
abbrev cX8_top : ByteArray := prog_11_method_6_code
def yX8_top : MethodName := ⟨RX8, "top", "()I"⟩
def RX9 : String := "HaltingaleModel$Run"
def TX9 : u_T := fun k => match k with
  | 0 => ("HaltingaleModel$Run", "machine", "LHaltingaleModel$Machine;", true)
  | 1 => ("HaltingaleModel$Run", "tape", "[I", true)
  | 2 => ("HaltingaleModel$Run", "home", "I", true)
  | 3 => ("HaltingaleModel$Run", "state", "I", false)
  | 4 => ("HaltingaleModel$Run", "place", "I", false)
  | 5 => ("HaltingaleModel$Run", "done", "I", false)
  | 6 => ("HaltingaleModel$Run", "least", "I", false)
  | _ => ("HaltingaleModel$Run", "most", "I", false)
def tyX9 : Nat → FieldType := fun k => match k with
  | 0 => .object "HaltingaleModel$Machine"
  | 1 => .array .int
  | 2 => .int
  | 3 => .int
  | 4 => .int
  | 5 => .int
  | 6 => .int
  | _ => .int
abbrev wsX90 : List Cond := u_ws RX9 TX9 8
theorem nmX9 : ∀ a, a < 8 → ∀ b, b < 8 → a ≠ b → (TX9 a).2.1 ≠ (TX9 b).2.1 := by decide +kernel
theorem tyX9_ok : ∀ k, k < 8 → parseFieldDescriptor (TX9 k).2.2.1 = some (tyX9 k) := by decide +kernel
abbrev cX9_init : ByteArray := prog_12_method_1_code
def yX9_init : MethodName := ⟨RX9, "<init>", "(LHaltingaleModel$Machine;I)V"⟩
abbrev cX9_isStopped : ByteArray := prog_12_method_2_code
def yX9_isStopped : MethodName := ⟨RX9, "isStopped", "()Z"⟩
abbrev cX9_at : ByteArray := prog_12_method_3_code
def yX9_at : MethodName := ⟨RX9, "at", "(I)I"⟩
abbrev cX9_under : ByteArray := prog_12_method_4_code
def yX9_under : MethodName := ⟨RX9, "under", "()I"⟩
abbrev cX9_isHung : ByteArray := prog_12_method_5_code
def yX9_isHung : MethodName := ⟨RX9, "isHung", "()Z"⟩
abbrev cX9_step : ByteArray := prog_12_method_6_code
def yX9_step : MethodName := ⟨RX9, "step", "()Z"⟩
abbrev cX9_ones : ByteArray := prog_12_method_7_code
def yX9_ones : MethodName := ⟨RX9, "ones", "()I"⟩
abbrev cX9_runs : ByteArray := prog_12_method_8_code
def yX9_runs : MethodName := ⟨RX9, "runs", "()I"⟩
def RX10 : String := "HaltingaleModel"
def TX10 : u_T := fun k => match k with
  | 0 => ("HaltingaleModel", "thrown", "I", false)
  | 1 => ("HaltingaleModel", "machines", "Ljava/util/ArrayList;", true)
  | 2 => ("HaltingaleModel", "tags", "Ljava/util/ArrayList;", true)
  | 3 => ("HaltingaleModel", "given", "I", false)
  | 4 => ("HaltingaleModel", "taken", "I", false)
  | 5 => ("HaltingaleModel", "back", "I", false)
  | _ => ("HaltingaleModel", "sum", "J", false)
def tyX10 : Nat → FieldType := fun k => match k with
  | 0 => .int
  | 1 => .object "java/util/ArrayList"
  | 2 => .object "java/util/ArrayList"
  | 3 => .int
  | 4 => .int
  | 5 => .int
  | _ => .long
abbrev wsX100 : List Cond := u_ws RX10 TX10 7
theorem nmX10 : ∀ a, a < 7 → ∀ b, b < 7 → a ≠ b → (TX10 a).2.1 ≠ (TX10 b).2.1 := by decide +kernel
theorem tyX10_ok : ∀ k, k < 7 → parseFieldDescriptor (TX10 k).2.2.1 = some (tyX10 k) := by decide +kernel
abbrev cX10_init : ByteArray := prog_10_method_1_code
def yX10_init : MethodName := ⟨RX10, "<init>", "()V"⟩
abbrev cX10_thrown : ByteArray := prog_10_method_2_code
def yX10_thrown : MethodName := ⟨RX10, "thrown", "()I"⟩
abbrev cX10_refuse : ByteArray := prog_10_method_3_code
def yX10_refuse : MethodName := ⟨RX10, "refuse", "(I)I"⟩
abbrev cX10_is : ByteArray := prog_10_method_4_code
def yX10_is : MethodName := ⟨RX10, "is", "(III)Z"⟩
abbrev cX10_isMachine : ByteArray := prog_10_method_5_code
def yX10_isMachine : MethodName := ⟨RX10, "isMachine", "(I)Z"⟩
abbrev cX10_machine : ByteArray := prog_10_method_6_code
def yX10_machine : MethodName := ⟨RX10, "machine", "(I)I"⟩
abbrev cX10_refused : ByteArray := prog_10_method_7_code
def yX10_refused : MethodName := ⟨RX10, "refused", "(IIIIIIZ)I"⟩
abbrev cX10_put : ByteArray := prog_10_method_8_code
def yX10_put : MethodName := ⟨RX10, "put", "(LHaltingaleModel$Machine;IIIII)Z"⟩
abbrev cX10_tell : ByteArray := prog_10_method_9_code
def yX10_tell : MethodName := ⟨RX10, "tell", "(IIIIII)I"⟩
abbrev cX10_amend : ByteArray := prog_10_method_10_code
def yX10_amend : MethodName := ⟨RX10, "amend", "(IIIIII)Z"⟩
abbrev cX10_ways : ByteArray := prog_10_method_11_code
def yX10_ways : MethodName := ⟨RX10, "ways", "(LHaltingaleModel$Machine;)I"⟩
abbrev cX10_child : ByteArray := prog_10_method_12_code
def yX10_child : MethodName := ⟨RX10, "child", "(II)I"⟩
abbrev cX10_tag : ByteArray := prog_10_method_13_code
def yX10_tag : MethodName := ⟨RX10, "tag", "(III)I"⟩
abbrev cX10_isCertificate : ByteArray := prog_10_method_14_code
def yX10_isCertificate : MethodName := ⟨RX10, "isCertificate", "(III)Z"⟩
abbrev cX10_isTaken : ByteArray := prog_10_method_15_code
def yX10_isTaken : MethodName := ⟨RX10, "isTaken", "(LHaltingaleModel$Machine;III)Z"⟩
abbrev cX10_isCycle : ByteArray := prog_10_method_16_code
def yX10_isCycle : MethodName := ⟨RX10, "isCycle", "(LHaltingaleModel$Machine;II)Z"⟩
abbrev cX10_isBack : ByteArray := prog_10_method_17_code
def yX10_isBack : MethodName := ⟨RX10, "isBack", "(LHaltingaleModel$Machine;I)Z"⟩
abbrev cX10_lastRows : ByteArray := prog_10_method_18_code
def yX10_lastRows : MethodName := ⟨RX10, "lastRows", "(LHaltingaleModel$Machine;)Ljava/util/ArrayList;"⟩
abbrev cX10_backNow : ByteArray := prog_10_method_19_code
def yX10_backNow : MethodName := ⟨RX10, "backNow", "(LHaltingaleModel$Machine;)I"⟩
abbrev cX10_ahead : ByteArray := prog_10_method_20_code
def yX10_ahead : MethodName := ⟨RX10, "ahead", "(LHaltingaleModel$Machine;Ljava/util/ArrayList;)Ljava/util/ArrayList;"⟩
abbrev cX10_ahead_ : ByteArray := prog_10_method_21_code
def yX10_ahead_ : MethodName := ⟨RX10, "ahead", "(LHaltingaleModel$Machine;[ILjava/util/ArrayList;)V"⟩
abbrev cX10_isGram : ByteArray := prog_10_method_22_code
def yX10_isGram : MethodName := ⟨RX10, "isGram", "(LHaltingaleModel$Machine;I)Z"⟩
abbrev cX10_decide : ByteArray := prog_10_method_23_code
def yX10_decide : MethodName := ⟨RX10, "decide", "(LHaltingaleModel$Machine;III)V"⟩
abbrev cX10_prove : ByteArray := prog_10_method_24_code
def yX10_prove : MethodName := ⟨RX10, "prove", "(IIII)Z"⟩
abbrev cX10_doubt : ByteArray := prog_10_method_25_code
def yX10_doubt : MethodName := ⟨RX10, "doubt", "(I)I"⟩
abbrev cX10_gramNow : ByteArray := prog_10_method_26_code
def yX10_gramNow : MethodName := ⟨RX10, "gramNow", "(LHaltingaleModel$Machine;)I"⟩
abbrev cX10_cycleNow : ByteArray := prog_10_method_27_code
def yX10_cycleNow : MethodName := ⟨RX10, "cycleNow", "(LHaltingaleModel$Machine;I)I"⟩
abbrev cX10_decide_ : ByteArray := prog_10_method_28_code
def yX10_decide_ : MethodName := ⟨RX10, "decide", "(I)I"⟩
abbrev cX10_cellNow : ByteArray := prog_10_method_29_code
def yX10_cellNow : MethodName := ⟨RX10, "cellNow", "(LHaltingaleModel$Machine;III)I"⟩
abbrev cX10_cell : ByteArray := prog_10_method_30_code
def yX10_cell : MethodName := ⟨RX10, "cell", "(IIII)I"⟩
abbrev cX10_ofMachineNow : ByteArray := prog_10_method_31_code
def yX10_ofMachineNow : MethodName := ⟨RX10, "ofMachineNow", "(LHaltingaleModel$Machine;I)I"⟩
abbrev cX10_ofMachine : ByteArray := prog_10_method_32_code
def yX10_ofMachine : MethodName := ⟨RX10, "ofMachine", "(II)I"⟩
abbrev cX10_atNow : ByteArray := prog_10_method_33_code
def yX10_atNow : MethodName := ⟨RX10, "atNow", "(LHaltingaleModel$Run;I)I"⟩
abbrev cX10_at : ByteArray := prog_10_method_34_code
def yX10_at : MethodName := ⟨RX10, "at", "(III)I"⟩
abbrev cX10_symbol : ByteArray := prog_10_method_35_code
def yX10_symbol : MethodName := ⟨RX10, "symbol", "(III)I"⟩
abbrev cX10_lean : ByteArray := prog_10_method_36_code
def yX10_lean : MethodName := ⟨RX10, "lean", "(II)D"⟩
abbrev cX10_meets : ByteArray := prog_10_method_37_code
def yX10_meets : MethodName := ⟨RX10, "meets", "(IIII)I"⟩
abbrev cX10_areAlike : ByteArray := prog_10_method_38_code
def yX10_areAlike : MethodName := ⟨RX10, "areAlike", "(LHaltingaleModel$Machine;LHaltingaleModel$Machine;I)Z"⟩
abbrev cX10_likeness : ByteArray := prog_10_method_39_code
def yX10_likeness : MethodName := ⟨RX10, "likeness", "(II)I"⟩
abbrev cX10_championNow : ByteArray := prog_10_method_40_code
def yX10_championNow : MethodName := ⟨RX10, "championNow", "(I)I"⟩
abbrev cX10_champion : ByteArray := prog_10_method_41_code
def yX10_champion : MethodName := ⟨RX10, "champion", "(I)I"⟩
abbrev cX10_length : ByteArray := prog_10_method_42_code
def yX10_length : MethodName := ⟨RX10, "length", "(I)I"⟩
abbrev cX10_taggedNow : ByteArray := prog_10_method_43_code
def yX10_taggedNow : MethodName := ⟨RX10, "taggedNow", "(III)I"⟩
abbrev cX10_tagged : ByteArray := prog_10_method_44_code
def yX10_tagged : MethodName := ⟨RX10, "tagged", "(III)I"⟩
abbrev cX10_manyNow : ByteArray := prog_10_method_45_code
def yX10_manyNow : MethodName := ⟨RX10, "manyNow", "(I)I"⟩
abbrev cX10_many : ByteArray := prog_10_method_46_code
def yX10_many : MethodName := ⟨RX10, "many", "(I)I"⟩
abbrev cX10_meanStop : ByteArray := prog_10_method_47_code
def yX10_meanStop : MethodName := ⟨RX10, "meanStop", "()D"⟩
abbrev cX10_cycleIn : ByteArray := prog_10_method_48_code
def yX10_cycleIn : MethodName := ⟨RX10, "cycleIn", "(II)I"⟩
abbrev cX10_backIn : ByteArray := prog_10_method_49_code
def yX10_backIn : MethodName := ⟨RX10, "backIn", "(I)I"⟩
abbrev cX10_gramIn : ByteArray := prog_10_method_50_code
def yX10_gramIn : MethodName := ⟨RX10, "gramIn", "(I)I"⟩
abbrev cX10_add : ByteArray := prog_10_method_51_code
def yX10_add : MethodName := ⟨RX10, "add", "(I)V"⟩
abbrev cX10_digest : ByteArray := prog_10_method_52_code
def yX10_digest : MethodName := ⟨RX10, "digest", "()J"⟩
def RJx145de : String := "java/io/Serializable"
def TJx145de : u_T := fun k => match k with
  | _ => ("", "", "", false)
def tyJx145de : Nat → FieldType := fun k => match k with
  | _ => .int
abbrev wsJx145de0 : List Cond := u_ws RJx145de TJx145de 0
theorem nmJx145de : ∀ a, a < 0 → ∀ b, b < 0 → a ≠ b → (TJx145de a).2.1 ≠ (TJx145de b).2.1 := by decide +kernel
theorem tyJx145de_ok : ∀ k, k < 0 → parseFieldDescriptor (TJx145de k).2.2.1 = some (tyJx145de k) := by decide +kernel
def RJx8e188 : String := "java/lang/Cloneable"
def TJx8e188 : u_T := fun k => match k with
  | _ => ("", "", "", false)
def tyJx8e188 : Nat → FieldType := fun k => match k with
  | _ => .int
abbrev wsJx8e1880 : List Cond := u_ws RJx8e188 TJx8e188 0
theorem nmJx8e188 : ∀ a, a < 0 → ∀ b, b < 0 → a ≠ b → (TJx8e188 a).2.1 ≠ (TJx8e188 b).2.1 := by decide +kernel
theorem tyJx8e188_ok : ∀ k, k < 0 → parseFieldDescriptor (TJx8e188 k).2.2.1 = some (tyJx8e188 k) := by decide +kernel
def RJ6 : String := "java/lang/Integer"
def TJ6 : u_T := fun k => match k with
  | _ => ("", "", "", false)
def tyJ6 : Nat → FieldType := fun k => match k with
  | _ => .int
abbrev wsJ60 : List Cond := u_ws RJ6 TJ6 0
theorem nmJ6 : ∀ a, a < 0 → ∀ b, b < 0 → a ≠ b → (TJ6 a).2.1 ≠ (TJ6 b).2.1 := by decide +kernel
theorem tyJ6_ok : ∀ k, k < 0 → parseFieldDescriptor (TJ6 k).2.2.1 = some (tyJ6 k) := by decide +kernel
abbrev cJ6_numberOfLeadingZeros_0f7a4 : ByteArray := prog_19_method_47_code
def yJ6_numberOfLeadingZeros_0f7a4 : MethodName := ⟨RJ6, "numberOfLeadingZeros", "(I)I"⟩
def RJxab1ab : String := "java/lang/Iterable"
def TJxab1ab : u_T := fun k => match k with
  | _ => ("", "", "", false)
def tyJxab1ab : Nat → FieldType := fun k => match k with
  | _ => .int
abbrev wsJxab1ab0 : List Cond := u_ws RJxab1ab TJxab1ab 0
theorem nmJxab1ab : ∀ a, a < 0 → ∀ b, b < 0 → a ≠ b → (TJxab1ab a).2.1 ≠ (TJxab1ab b).2.1 := by decide +kernel
theorem tyJxab1ab_ok : ∀ k, k < 0 → parseFieldDescriptor (TJxab1ab k).2.2.1 = some (tyJxab1ab k) := by decide +kernel
def RJ9 : String := "java/lang/Math"
def TJ9 : u_T := fun k => match k with
  | _ => ("", "", "", false)
def tyJ9 : Nat → FieldType := fun k => match k with
  | _ => .int
abbrev wsJ90 : List Cond := u_ws RJ9 TJ9 0
theorem nmJ9 : ∀ a, a < 0 → ∀ b, b < 0 → a ≠ b → (TJ9 a).2.1 ≠ (TJ9 b).2.1 := by decide +kernel
theorem tyJ9_ok : ∀ k, k < 0 → parseFieldDescriptor (TJ9 k).2.2.1 = some (tyJ9 k) := by decide +kernel
abbrev cJ9_floorDiv_7cf53 : ByteArray := prog_21_method_47_code
def yJ9_floorDiv_7cf53 : MethodName := ⟨RJ9, "floorDiv", "(II)I"⟩
abbrev cJ9_abs_0f7a4 : ByteArray := prog_21_method_59_code
def yJ9_abs_0f7a4 : MethodName := ⟨RJ9, "abs", "(I)I"⟩
abbrev cJ9_max_7cf53 : ByteArray := prog_21_method_65_code
def yJ9_max_7cf53 : MethodName := ⟨RJ9, "max", "(II)I"⟩
abbrev cJ9_min_7cf53 : ByteArray := prog_21_method_69_code
def yJ9_min_7cf53 : MethodName := ⟨RJ9, "min", "(II)I"⟩
def RJ0 : String := "java/lang/String"
def TJ0 : u_T := fun k => match k with
  | _ => ("", "", "", false)
def tyJ0 : Nat → FieldType := fun k => match k with
  | _ => .int
abbrev wsJ00 : List Cond := u_ws RJ0 TJ0 0
theorem nmJ0 : ∀ a, a < 0 → ∀ b, b < 0 → a ≠ b → (TJ0 a).2.1 ≠ (TJ0 b).2.1 := by decide +kernel
theorem tyJ0_ok : ∀ k, k < 0 → parseFieldDescriptor (TJ0 k).2.2.1 = some (tyJ0 k) := by decide +kernel
def RJ10 : String := "java/lang/System"
def TJ10 : u_T := fun k => match k with
  | _ => ("", "", "", false)
def tyJ10 : Nat → FieldType := fun k => match k with
  | _ => .int
abbrev wsJ100 : List Cond := u_ws RJ10 TJ10 0
theorem nmJ10 : ∀ a, a < 0 → ∀ b, b < 0 → a ≠ b → (TJ10 a).2.1 ≠ (TJ10 b).2.1 := by decide +kernel
theorem tyJ10_ok : ∀ k, k < 0 → parseFieldDescriptor (TJ10 k).2.2.1 = some (tyJ10 k) := by decide +kernel
def RJxa1e45 : String := "java/util/AbstractCollection"
def TJxa1e45 : u_T := fun k => match k with
  | _ => ("", "", "", false)
def tyJxa1e45 : Nat → FieldType := fun k => match k with
  | _ => .int
abbrev wsJxa1e450 : List Cond := u_ws RJxa1e45 TJxa1e45 0
theorem nmJxa1e45 : ∀ a, a < 0 → ∀ b, b < 0 → a ≠ b → (TJxa1e45 a).2.1 ≠ (TJxa1e45 b).2.1 := by decide +kernel
theorem tyJxa1e45_ok : ∀ k, k < 0 → parseFieldDescriptor (TJxa1e45 k).2.2.1 = some (tyJxa1e45 k) := by decide +kernel
abbrev cJxa1e45_init_da8c8 : ByteArray := prog_26_method_1_code
def yJxa1e45_init_da8c8 : MethodName := ⟨RJxa1e45, "<init>", "()V"⟩
def RJxc12de : String := "java/util/AbstractList"
def TJxc12de : u_T := fun k => match k with
  | _ => ("", "", "", false)
def tyJxc12de : Nat → FieldType := fun k => match k with
  | _ => .int
abbrev wsJxc12de0 : List Cond := u_ws RJxc12de TJxc12de 0
theorem nmJxc12de : ∀ a, a < 0 → ∀ b, b < 0 → a ≠ b → (TJxc12de a).2.1 ≠ (TJxc12de b).2.1 := by decide +kernel
theorem tyJxc12de_ok : ∀ k, k < 0 → parseFieldDescriptor (TJxc12de k).2.2.1 = some (tyJxc12de k) := by decide +kernel
abbrev cJxc12de_init_da8c8 : ByteArray := prog_27_method_1_code
def yJxc12de_init_da8c8 : MethodName := ⟨RJxc12de, "<init>", "()V"⟩
def RJx35411 : String := "java/util/ArrayList$Itr"
def TJx35411 : u_T := fun k => match k with
  | 0 => ("java/util/ArrayList$Itr", "cursor", "I", false)
  | 1 => ("java/util/ArrayList$Itr", "lastRet", "I", false)
  | 2 => ("java/util/ArrayList$Itr", "expectedModCount", "I", false)
  | _ => ("java/util/ArrayList$Itr", "this$0", "Ljava/util/ArrayList;", true)
def tyJx35411 : Nat → FieldType := fun k => match k with
  | 0 => .int
  | 1 => .int
  | 2 => .int
  | _ => .object "java/util/ArrayList"
abbrev wsJx354110 : List Cond := u_ws RJx35411 TJx35411 4
theorem nmJx35411 : ∀ a, a < 4 → ∀ b, b < 4 → a ≠ b → (TJx35411 a).2.1 ≠ (TJx35411 b).2.1 := by decide +kernel
theorem tyJx35411_ok : ∀ k, k < 4 → parseFieldDescriptor (TJx35411 k).2.2.1 = some (tyJx35411 k) := by decide +kernel
abbrev cJx35411_init_45d68 : ByteArray := prog_29_method_1_code
def yJx35411_init_45d68 : MethodName := ⟨RJx35411, "<init>", "(Ljava/util/ArrayList;)V"⟩
abbrev cJx35411_hasNext_aae02 : ByteArray := prog_29_method_2_code
def yJx35411_hasNext_aae02 : MethodName := ⟨RJx35411, "hasNext", "()Z"⟩
abbrev cJx35411_next_0502b : ByteArray := prog_29_method_3_code
def yJx35411_next_0502b : MethodName := ⟨RJx35411, "next", "()Ljava/lang/Object;"⟩
abbrev cJx35411_checkForComodification_da8c8 : ByteArray := prog_29_method_6_code
def yJx35411_checkForComodification_da8c8 : MethodName := ⟨RJx35411, "checkForComodification", "()V"⟩
def RJx4a65c : String := "java/util/ArrayList"
def TJx4a65c : u_T := fun k => match k with
  | 0 => ("java/util/AbstractList", "modCount", "I", false)
  | 1 => ("java/util/ArrayList", "elementData", "[Ljava/lang/Object;", false)
  | _ => ("java/util/ArrayList", "size", "I", false)
def tyJx4a65c : Nat → FieldType := fun k => match k with
  | 0 => .int
  | 1 => .array (.object "java/lang/Object")
  | _ => .int
abbrev wsJx4a65c0 : List Cond := u_ws RJx4a65c TJx4a65c 3
theorem nmJx4a65c : ∀ a, a < 3 → ∀ b, b < 3 → a ≠ b → (TJx4a65c a).2.1 ≠ (TJx4a65c b).2.1 := by decide +kernel
theorem tyJx4a65c_ok : ∀ k, k < 3 → parseFieldDescriptor (TJx4a65c k).2.2.1 = some (tyJx4a65c k) := by decide +kernel
abbrev cJx4a65c_init_da8c8 : ByteArray := prog_28_method_2_code
def yJx4a65c_init_da8c8 : MethodName := ⟨RJx4a65c, "<init>", "()V"⟩
abbrev cJx4a65c_grow_92f84 : ByteArray := prog_28_method_6_code
def yJx4a65c_grow_92f84 : MethodName := ⟨RJx4a65c, "grow", "(I)[Ljava/lang/Object;"⟩
abbrev cJx4a65c_grow_d5877 : ByteArray := prog_28_method_7_code
def yJx4a65c_grow_d5877 : MethodName := ⟨RJx4a65c, "grow", "()[Ljava/lang/Object;"⟩
abbrev cJx4a65c_size_8abf5 : ByteArray := prog_28_method_8_code
def yJx4a65c_size_8abf5 : MethodName := ⟨RJx4a65c, "size", "()I"⟩
abbrev cJx4a65c_isEmpty_aae02 : ByteArray := prog_28_method_9_code
def yJx4a65c_isEmpty_aae02 : MethodName := ⟨RJx4a65c, "isEmpty", "()Z"⟩
abbrev cJx4a65c_elementData_915e3 : ByteArray := prog_28_method_18_code
def yJx4a65c_elementData_915e3 : MethodName := ⟨RJx4a65c, "elementData", "(I)Ljava/lang/Object;"⟩
abbrev cJx4a65c_get_915e3 : ByteArray := prog_28_method_20_code
def yJx4a65c_get_915e3 : MethodName := ⟨RJx4a65c, "get", "(I)Ljava/lang/Object;"⟩
abbrev cJx4a65c_add_72be8 : ByteArray := prog_28_method_24_code
def yJx4a65c_add_72be8 : MethodName := ⟨RJx4a65c, "add", "(Ljava/lang/Object;[Ljava/lang/Object;I)V"⟩
abbrev cJx4a65c_add_9ea2d : ByteArray := prog_28_method_25_code
def yJx4a65c_add_9ea2d : MethodName := ⟨RJx4a65c, "add", "(Ljava/lang/Object;)Z"⟩
abbrev cJx4a65c_iterator_32c93 : ByteArray := prog_28_method_55_code
def yJx4a65c_iterator_32c93 : MethodName := ⟨RJx4a65c, "iterator", "()Ljava/util/Iterator;"⟩
def RJ7 : String := "java/util/Arrays"
def TJ7 : u_T := fun k => match k with
  | _ => ("", "", "", false)
def tyJ7 : Nat → FieldType := fun k => match k with
  | _ => .int
abbrev wsJ70 : List Cond := u_ws RJ7 TJ7 0
theorem nmJ7 : ∀ a, a < 0 → ∀ b, b < 0 → a ≠ b → (TJ7 a).2.1 ≠ (TJ7 b).2.1 := by decide +kernel
theorem tyJ7_ok : ∀ k, k < 0 → parseFieldDescriptor (TJ7 k).2.2.1 = some (tyJ7 k) := by decide +kernel
abbrev cJ7_copyOf_1904c : ByteArray := prog_30_method_119_code
def yJ7_copyOf_1904c : MethodName := ⟨RJ7, "copyOf", "([Ljava/lang/Object;I)[Ljava/lang/Object;"⟩
abbrev cJ7_copyOf_6403c : ByteArray := prog_30_method_120_code
def yJ7_copyOf_6403c : MethodName := ⟨RJ7, "copyOf", "([Ljava/lang/Object;ILjava/lang/Class;)[Ljava/lang/Object;"⟩
def RJx5ef63 : String := "java/util/Collection"
def TJx5ef63 : u_T := fun k => match k with
  | _ => ("", "", "", false)
def tyJx5ef63 : Nat → FieldType := fun k => match k with
  | _ => .int
abbrev wsJx5ef630 : List Cond := u_ws RJx5ef63 TJx5ef63 0
theorem nmJx5ef63 : ∀ a, a < 0 → ∀ b, b < 0 → a ≠ b → (TJx5ef63 a).2.1 ≠ (TJx5ef63 b).2.1 := by decide +kernel
theorem tyJx5ef63_ok : ∀ k, k < 0 → parseFieldDescriptor (TJx5ef63 k).2.2.1 = some (tyJx5ef63 k) := by decide +kernel
def RJx4d0d8 : String := "java/util/Iterator"
def TJx4d0d8 : u_T := fun k => match k with
  | _ => ("", "", "", false)
def tyJx4d0d8 : Nat → FieldType := fun k => match k with
  | _ => .int
abbrev wsJx4d0d80 : List Cond := u_ws RJx4d0d8 TJx4d0d8 0
theorem nmJx4d0d8 : ∀ a, a < 0 → ∀ b, b < 0 → a ≠ b → (TJx4d0d8 a).2.1 ≠ (TJx4d0d8 b).2.1 := by decide +kernel
theorem tyJx4d0d8_ok : ∀ k, k < 0 → parseFieldDescriptor (TJx4d0d8 k).2.2.1 = some (tyJx4d0d8 k) := by decide +kernel
def RJxbd725 : String := "java/util/List"
def TJxbd725 : u_T := fun k => match k with
  | _ => ("", "", "", false)
def tyJxbd725 : Nat → FieldType := fun k => match k with
  | _ => .int
abbrev wsJxbd7250 : List Cond := u_ws RJxbd725 TJxbd725 0
theorem nmJxbd725 : ∀ a, a < 0 → ∀ b, b < 0 → a ≠ b → (TJxbd725 a).2.1 ≠ (TJxbd725 b).2.1 := by decide +kernel
theorem tyJxbd725_ok : ∀ k, k < 0 → parseFieldDescriptor (TJxbd725 k).2.2.1 = some (tyJxbd725 k) := by decide +kernel
def RJ15 : String := "java/util/Objects"
def TJ15 : u_T := fun k => match k with
  | _ => ("", "", "", false)
def tyJ15 : Nat → FieldType := fun k => match k with
  | _ => .int
abbrev wsJ150 : List Cond := u_ws RJ15 TJ15 0
theorem nmJ15 : ∀ a, a < 0 → ∀ b, b < 0 → a ≠ b → (TJ15 a).2.1 ≠ (TJ15 b).2.1 := by decide +kernel
theorem tyJ15_ok : ∀ k, k < 0 → parseFieldDescriptor (TJ15 k).2.2.1 = some (tyJ15 k) := by decide +kernel
abbrev cJ15_checkIndex_7cf53 : ByteArray := prog_34_method_17_code
def yJ15_checkIndex_7cf53 : MethodName := ⟨RJ15, "checkIndex", "(II)I"⟩
def RJxf0a74 : String := "java/util/RandomAccess"
def TJxf0a74 : u_T := fun k => match k with
  | _ => ("", "", "", false)
def tyJxf0a74 : Nat → FieldType := fun k => match k with
  | _ => .int
abbrev wsJxf0a740 : List Cond := u_ws RJxf0a74 TJxf0a74 0
theorem nmJxf0a74 : ∀ a, a < 0 → ∀ b, b < 0 → a ≠ b → (TJxf0a74 a).2.1 ≠ (TJxf0a74 b).2.1 := by decide +kernel
theorem tyJxf0a74_ok : ∀ k, k < 0 → parseFieldDescriptor (TJxf0a74 k).2.2.1 = some (tyJxf0a74 k) := by decide +kernel
def RJxa66e6 : String := "java/util/SequencedCollection"
def TJxa66e6 : u_T := fun k => match k with
  | _ => ("", "", "", false)
def tyJxa66e6 : Nat → FieldType := fun k => match k with
  | _ => .int
abbrev wsJxa66e60 : List Cond := u_ws RJxa66e6 TJxa66e6 0
theorem nmJxa66e6 : ∀ a, a < 0 → ∀ b, b < 0 → a ≠ b → (TJxa66e6 a).2.1 ≠ (TJxa66e6 b).2.1 := by decide +kernel
theorem tyJxa66e6_ok : ∀ k, k < 0 → parseFieldDescriptor (TJxa66e6 k).2.2.1 = some (tyJxa66e6 k) := by decide +kernel
def RJ8 : String := "jdk/internal/util/ArraysSupport"
def TJ8 : u_T := fun k => match k with
  | _ => ("", "", "", false)
def tyJ8 : Nat → FieldType := fun k => match k with
  | _ => .int
abbrev wsJ80 : List Cond := u_ws RJ8 TJ8 0
theorem nmJ8 : ∀ a, a < 0 → ∀ b, b < 0 → a ≠ b → (TJ8 a).2.1 ≠ (TJ8 b).2.1 := by decide +kernel
theorem tyJ8_ok : ∀ k, k < 0 → parseFieldDescriptor (TJ8 k).2.2.1 = some (tyJ8 k) := by decide +kernel
abbrev cJ8_newLength_cabcc : ByteArray := prog_37_method_27_code
def yJ8_newLength_cabcc : MethodName := ⟨RJ8, "newLength", "(III)I"⟩
abbrev cJ8_hugeLength_7cf53 : ByteArray := prog_37_method_28_code
def yJ8_hugeLength_7cf53 : MethodName := ⟨RJ8, "hugeLength", "(II)I"⟩
def RJ3 : String := "jdk/internal/util/Preconditions"
def TJ3 : u_T := fun k => match k with
  | _ => ("", "", "", false)
def tyJ3 : Nat → FieldType := fun k => match k with
  | _ => .int
abbrev wsJ30 : List Cond := u_ws RJ3 TJ3 0
theorem nmJ3 : ∀ a, a < 0 → ∀ b, b < 0 → a ≠ b → (TJ3 a).2.1 ≠ (TJ3 b).2.1 := by decide +kernel
theorem tyJ3_ok : ∀ k, k < 0 → parseFieldDescriptor (TJ3 k).2.2.1 = some (tyJ3 k) := by decide +kernel
abbrev cJ3_checkIndex_8e157 : ByteArray := prog_38_method_11_code
def yJ3_checkIndex_8e157 : MethodName := ⟨RJ3, "checkIndex", "(IILjava/util/function/BiFunction;)I"⟩
def RL : String := "HaltingaleLaw"
abbrev cL_machine : ByteArray := method_3_code
def yL_machine : MethodName := ⟨RL, "machine", "(LHaltingale;I[J)I"⟩
abbrev cL_tell : ByteArray := method_4_code
def yL_tell : MethodName := ⟨RL, "tell", "(LHaltingale;IIIIII[J)I"⟩
abbrev cL_amend : ByteArray := method_5_code
def yL_amend : MethodName := ⟨RL, "amend", "(LHaltingale;IIIIII[J)I"⟩
abbrev cL_child : ByteArray := method_6_code
def yL_child : MethodName := ⟨RL, "child", "(LHaltingale;II[J)I"⟩
abbrev cL_tag : ByteArray := method_7_code
def yL_tag : MethodName := ⟨RL, "tag", "(LHaltingale;III[J)I"⟩
abbrev cL_prove : ByteArray := method_8_code
def yL_prove : MethodName := ⟨RL, "prove", "(LHaltingale;IIII[J)I"⟩
abbrev cL_doubt : ByteArray := method_9_code
def yL_doubt : MethodName := ⟨RL, "doubt", "(LHaltingale;I[J)I"⟩
abbrev cL_decide : ByteArray := method_10_code
def yL_decide : MethodName := ⟨RL, "decide", "(LHaltingale;I[J)I"⟩
abbrev cL_cell : ByteArray := method_11_code
def yL_cell : MethodName := ⟨RL, "cell", "(LHaltingale;IIII[J)I"⟩
abbrev cL_ofMachine : ByteArray := method_12_code
def yL_ofMachine : MethodName := ⟨RL, "ofMachine", "(LHaltingale;II[J)I"⟩
abbrev cL_at : ByteArray := method_13_code
def yL_at : MethodName := ⟨RL, "at", "(LHaltingale;III[J)I"⟩
abbrev cL_symbol : ByteArray := method_14_code
def yL_symbol : MethodName := ⟨RL, "symbol", "(LHaltingale;III[J)I"⟩
abbrev cL_lean : ByteArray := method_15_code
def yL_lean : MethodName := ⟨RL, "lean", "(LHaltingale;II[D)I"⟩
abbrev cL_meets : ByteArray := method_16_code
def yL_meets : MethodName := ⟨RL, "meets", "(LHaltingale;IIII[J)I"⟩
abbrev cL_likeness : ByteArray := method_17_code
def yL_likeness : MethodName := ⟨RL, "likeness", "(LHaltingale;II[J)I"⟩
abbrev cL_champion : ByteArray := method_18_code
def yL_champion : MethodName := ⟨RL, "champion", "(LHaltingale;I[J)I"⟩
abbrev cL_tagged : ByteArray := method_19_code
def yL_tagged : MethodName := ⟨RL, "tagged", "(LHaltingale;III[J)I"⟩
abbrev cL_many : ByteArray := method_20_code
def yL_many : MethodName := ⟨RL, "many", "(LHaltingale;I[J)I"⟩
abbrev cL_cycleIn : ByteArray := method_21_code
def yL_cycleIn : MethodName := ⟨RL, "cycleIn", "(LHaltingale;II[J)I"⟩
abbrev cL_backIn : ByteArray := method_22_code
def yL_backIn : MethodName := ⟨RL, "backIn", "(LHaltingale;I[J)I"⟩
abbrev cL_gramIn : ByteArray := method_23_code
def yL_gramIn : MethodName := ⟨RL, "gramIn", "(LHaltingale;I[J)I"⟩
abbrev cL_law : ByteArray := code
def yL_law : MethodName := ⟨RL, "law", "([I)Z"⟩
abbrev vwCl : List vw_C := [(RJx35411, TJx35411, 4), (RJx4a65c, TJx4a65c, 3), (RX0, TX0, 2), (RX1, TX1, 4), (RX2, TX2, 7), (RX3, TX3, 7), (RX4, TX4, 5), (RX5, TX5, 3), (RX6, TX6, 6), (RX7, TX7, 11), (RX8, TX8, 5), (RX9, TX9, 8), (RX10, TX10, 7)]
theorem inJx35411 : ∀ w ∈ wsJx354110, w ∈ lw_tbl := by decide +kernel
theorem inJx4a65c : ∀ w ∈ wsJx4a65c0, w ∈ lw_tbl := by decide +kernel
theorem inX0 : ∀ w ∈ wsX00, w ∈ lw_tbl := by decide +kernel
theorem inX1 : ∀ w ∈ wsX10, w ∈ lw_tbl := by decide +kernel
theorem inX2 : ∀ w ∈ wsX20, w ∈ lw_tbl := by decide +kernel
theorem inX3 : ∀ w ∈ wsX30, w ∈ lw_tbl := by decide +kernel
theorem inX4 : ∀ w ∈ wsX40, w ∈ lw_tbl := by decide +kernel
theorem inX5 : ∀ w ∈ wsX50, w ∈ lw_tbl := by decide +kernel
theorem inX6 : ∀ w ∈ wsX60, w ∈ lw_tbl := by decide +kernel
theorem inX7 : ∀ w ∈ wsX70, w ∈ lw_tbl := by decide +kernel
theorem inX8 : ∀ w ∈ wsX80, w ∈ lw_tbl := by decide +kernel
theorem inX9 : ∀ w ∈ wsX90, w ∈ lw_tbl := by decide +kernel
theorem inX10 : ∀ w ∈ wsX100, w ∈ lw_tbl := by decide +kernel
