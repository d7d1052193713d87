def RX0 : String := "PulledPanels$Boards"
def TX0 : u_T := fun k => match k with
  | 0 => ("PulledPanels$Boards", "stepsOn", "LPulledPanels$Row;", true)
  | 1 => ("PulledPanels$Boards", "wipesOf", "LPulledPanels$Row;", true)
  | 2 => ("PulledPanels$Boards", "frontOf", "LPulledPanels$Row;", true)
  | 3 => ("PulledPanels$Boards", "pins", "I", false)
  | 4 => ("PulledPanels$Boards", "inUse", "I", false)
  | 5 => ("PulledPanels$Boards", "room", "I", false)
  | _ => ("PulledPanels$Boards", "pulls", "I", false)
def tyX0 : Nat → FieldType := fun k => match k with
  | 0 => .object "PulledPanels$Row"
  | 1 => .object "PulledPanels$Row"
  | 2 => .object "PulledPanels$Row"
  | 3 => .int
  | 4 => .int
  | 5 => .int
  | _ => .int
abbrev wsX00 : List Cond := u_ws RX0 TX0 7
theorem nmX0 : ∀ a, a < 7 → ∀ b, b < 7 → a ≠ b → (TX0 a).2.1 ≠ (TX0 b).2.1 := by decide +kernel
theorem tyX0_ok : ∀ k, k < 7 → parseFieldDescriptor (TX0 k).2.2.1 = some (tyX0 k) := by decide +kernel
abbrev cX0_init : ByteArray := prog_2_method_1_code
def yX0_init : MethodName := ⟨RX0, "<init>", "()V"⟩
abbrev cX0_isInFront : ByteArray := prog_2_method_2_code
def yX0_isInFront : MethodName := ⟨RX0, "isInFront", "(I)Z"⟩
abbrev cX0_isPinned : ByteArray := prog_2_method_3_code
def yX0_isPinned : MethodName := ⟨RX0, "isPinned", "(I)Z"⟩
abbrev cX0_turn : ByteArray := prog_2_method_4_code
def yX0_turn : MethodName := ⟨RX0, "turn", "(I)V"⟩
abbrev cX0_bringToFront : ByteArray := prog_2_method_5_code
def yX0_bringToFront : MethodName := ⟨RX0, "bringToFront", "(I)V"⟩
abbrev cX0_clean : ByteArray := prog_2_method_6_code
def yX0_clean : MethodName := ⟨RX0, "clean", "(I)V"⟩
abbrev cX0_bear : ByteArray := prog_2_method_7_code
def yX0_bear : MethodName := ⟨RX0, "bear", "(II)V"⟩
abbrev cX0_panelWith : ByteArray := prog_2_method_8_code
def yX0_panelWith : MethodName := ⟨RX0, "panelWith", "(I)I"⟩
abbrev cX0_nextToUse : ByteArray := prog_2_method_9_code
def yX0_nextToUse : MethodName := ⟨RX0, "nextToUse", "()I"⟩
abbrev cX0_allWipes : ByteArray := prog_2_method_10_code
def yX0_allWipes : MethodName := ⟨RX0, "allWipes", "()I"⟩
abbrev cX0_allSteps : ByteArray := prog_2_method_11_code
def yX0_allSteps : MethodName := ⟨RX0, "allSteps", "()I"⟩
abbrev cX0_copyFrom : ByteArray := prog_2_method_12_code
def yX0_copyFrom : MethodName := ⟨RX0, "copyFrom", "(LPulledPanels$Boards;)V"⟩
def RX1 : String := "PulledPanels$History"
def TX1 : u_T := fun k => match k with
  | 0 => ("PulledPanels$History", "states", "[LPulledPanels$Lecture;", true)
  | 1 => ("PulledPanels$History", "next", "I", false)
  | _ => ("PulledPanels$History", "size", "I", false)
def tyX1 : Nat → FieldType := fun k => match k with
  | 0 => .array (.object "PulledPanels$Lecture")
  | 1 => .int
  | _ => .int
abbrev wsX10 : List Cond := u_ws RX1 TX1 3
theorem nmX1 : ∀ a, a < 3 → ∀ b, b < 3 → a ≠ b → (TX1 a).2.1 ≠ (TX1 b).2.1 := by decide +kernel
theorem tyX1_ok : ∀ k, k < 3 → parseFieldDescriptor (TX1 k).2.2.1 = some (tyX1 k) := by decide +kernel
abbrev cX1_init : ByteArray := prog_3_method_1_code
def yX1_init : MethodName := ⟨RX1, "<init>", "()V"⟩
abbrev cX1_record : ByteArray := prog_3_method_2_code
def yX1_record : MethodName := ⟨RX1, "record", "(LPulledPanels$Lecture;)V"⟩
abbrev cX1_takeBack : ByteArray := prog_3_method_3_code
def yX1_takeBack : MethodName := ⟨RX1, "takeBack", "(LPulledPanels$Lecture;)V"⟩
abbrev cX1_stateAt : ByteArray := prog_3_method_4_code
def yX1_stateAt : MethodName := ⟨RX1, "stateAt", "(I)LPulledPanels$Lecture;"⟩
def RX2 : String := "PulledPanels$Lecture"
def TX2 : u_T := fun k => match k with
  | 0 => ("PulledPanels$Lecture", "steps", "LPulledPanels$Steps;", true)
  | 1 => ("PulledPanels$Lecture", "boards", "LPulledPanels$Boards;", true)
  | 2 => ("PulledPanels$Lecture", "photos", "LPulledPanels$Photos;", true)
  | _ => ("PulledPanels$Lecture", "tally", "LPulledPanels$Tally;", true)
def tyX2 : Nat → FieldType := fun k => match k with
  | 0 => .object "PulledPanels$Steps"
  | 1 => .object "PulledPanels$Boards"
  | 2 => .object "PulledPanels$Photos"
  | _ => .object "PulledPanels$Tally"
abbrev wsX20 : List Cond := u_ws RX2 TX2 4
theorem nmX2 : ∀ a, a < 4 → ∀ b, b < 4 → a ≠ b → (TX2 a).2.1 ≠ (TX2 b).2.1 := by decide +kernel
theorem tyX2_ok : ∀ k, k < 4 → parseFieldDescriptor (TX2 k).2.2.1 = some (tyX2 k) := by decide +kernel
abbrev cX2_init : ByteArray := prog_4_method_1_code
def yX2_init : MethodName := ⟨RX2, "<init>", "()V"⟩
abbrev cX2_linesOn : ByteArray := prog_4_method_2_code
def yX2_linesOn : MethodName := ⟨RX2, "linesOn", "(I)I"⟩
abbrev cX2_fullestPanel : ByteArray := prog_4_method_3_code
def yX2_fullestPanel : MethodName := ⟨RX2, "fullestPanel", "()I"⟩
abbrev cX2_panelForNext : ByteArray := prog_4_method_4_code
def yX2_panelForNext : MethodName := ⟨RX2, "panelForNext", "()I"⟩
abbrev cX2_writeNext : ByteArray := prog_4_method_5_code
def yX2_writeNext : MethodName := ⟨RX2, "writeNext", "()I"⟩
abbrev cX2_lookAtNeeds : ByteArray := prog_4_method_6_code
def yX2_lookAtNeeds : MethodName := ⟨RX2, "lookAtNeeds", "(I)V"⟩
abbrev cX2_lookAt : ByteArray := prog_4_method_7_code
def yX2_lookAt : MethodName := ⟨RX2, "lookAt", "(I)V"⟩
abbrev cX2_writeAll : ByteArray := prog_4_method_8_code
def yX2_writeAll : MethodName := ⟨RX2, "writeAll", "()I"⟩
abbrev cX2_answer : ByteArray := prog_4_method_9_code
def yX2_answer : MethodName := ⟨RX2, "answer", "(I)I"⟩
abbrev cX2_stepsGone : ByteArray := prog_4_method_10_code
def yX2_stepsGone : MethodName := ⟨RX2, "stepsGone", "()I"⟩
abbrev cX2_copyFrom : ByteArray := prog_4_method_11_code
def yX2_copyFrom : MethodName := ⟨RX2, "copyFrom", "(LPulledPanels$Lecture;)V"⟩
def RX3 : String := "PulledPanels$Photos"
def TX3 : u_T := fun k => match k with
  | 0 => ("PulledPanels$Photos", "panelOf", "LPulledPanels$Row;", true)
  | 1 => ("PulledPanels$Photos", "stepsOf", "LPulledPanels$Row;", true)
  | 2 => ("PulledPanels$Photos", "taken", "I", false)
  | _ => ("PulledPanels$Photos", "stepsTaken", "I", false)
def tyX3 : Nat → FieldType := fun k => match k with
  | 0 => .object "PulledPanels$Row"
  | 1 => .object "PulledPanels$Row"
  | 2 => .int
  | _ => .int
abbrev wsX30 : List Cond := u_ws RX3 TX3 4
theorem nmX3 : ∀ a, a < 4 → ∀ b, b < 4 → a ≠ b → (TX3 a).2.1 ≠ (TX3 b).2.1 := by decide +kernel
theorem tyX3_ok : ∀ k, k < 4 → parseFieldDescriptor (TX3 k).2.2.1 = some (tyX3 k) := by decide +kernel
abbrev cX3_init : ByteArray := prog_5_method_1_code
def yX3_init : MethodName := ⟨RX3, "<init>", "()V"⟩
abbrev cX3_show : ByteArray := prog_5_method_2_code
def yX3_show : MethodName := ⟨RX3, "show", "(I)Z"⟩
abbrev cX3_take : ByteArray := prog_5_method_3_code
def yX3_take : MethodName := ⟨RX3, "take", "(II)V"⟩
abbrev cX3_copyFrom : ByteArray := prog_5_method_4_code
def yX3_copyFrom : MethodName := ⟨RX3, "copyFrom", "(LPulledPanels$Photos;)V"⟩
def RX4 : String := "PulledPanels$PlanText"
def TX4 : u_T := fun k => match k with
  | 0 => ("PulledPanels$PlanText", "lines", "LPulledPanels$Row;", true)
  | 1 => ("PulledPanels$PlanText", "needs", "LPulledPanels$Row;", true)
  | 2 => ("PulledPanels$PlanText", "found", "I", false)
  | 3 => ("PulledPanels$PlanText", "length", "I", false)
  | 4 => ("PulledPanels$PlanText", "characters", "[C", true)
  | 5 => ("PulledPanels$PlanText", "place", "I", false)
  | 6 => ("PulledPanels$PlanText", "first", "I", false)
  | _ => ("PulledPanels$PlanText", "number", "I", false)
def tyX4 : Nat → FieldType := fun k => match k with
  | 0 => .object "PulledPanels$Row"
  | 1 => .object "PulledPanels$Row"
  | 2 => .int
  | 3 => .int
  | 4 => .array .char
  | 5 => .int
  | 6 => .int
  | _ => .int
abbrev wsX40 : List Cond := u_ws RX4 TX4 8
theorem nmX4 : ∀ a, a < 8 → ∀ b, b < 8 → a ≠ b → (TX4 a).2.1 ≠ (TX4 b).2.1 := by decide +kernel
theorem tyX4_ok : ∀ k, k < 8 → parseFieldDescriptor (TX4 k).2.2.1 = some (tyX4 k) := by decide +kernel
abbrev cX4_init : ByteArray := prog_6_method_1_code
def yX4_init : MethodName := ⟨RX4, "<init>", "()V"⟩
def RX5 : String := "PulledPanels$Row"
def TX5 : u_T := fun k => match k with
  | _ => ("PulledPanels$Row", "cells", "[I", true)
def tyX5 : Nat → FieldType := fun k => match k with
  | _ => .array .int
abbrev wsX50 : List Cond := u_ws RX5 TX5 1
theorem nmX5 : ∀ a, a < 1 → ∀ b, b < 1 → a ≠ b → (TX5 a).2.1 ≠ (TX5 b).2.1 := by decide +kernel
theorem tyX5_ok : ∀ k, k < 1 → parseFieldDescriptor (TX5 k).2.2.1 = some (tyX5 k) := by decide +kernel
abbrev cX5_init : ByteArray := prog_7_method_1_code
def yX5_init : MethodName := ⟨RX5, "<init>", "(I)V"⟩
abbrev cX5_at : ByteArray := prog_7_method_2_code
def yX5_at : MethodName := ⟨RX5, "at", "(I)I"⟩
abbrev cX5_put : ByteArray := prog_7_method_3_code
def yX5_put : MethodName := ⟨RX5, "put", "(II)V"⟩
abbrev cX5_raise : ByteArray := prog_7_method_4_code
def yX5_raise : MethodName := ⟨RX5, "raise", "(I)V"⟩
abbrev cX5_copyFrom : ByteArray := prog_7_method_5_code
def yX5_copyFrom : MethodName := ⟨RX5, "copyFrom", "(LPulledPanels$Row;)V"⟩
def RX6 : String := "PulledPanels$Steps"
def TX6 : u_T := fun k => match k with
  | 0 => ("PulledPanels$Steps", "linesOf", "LPulledPanels$Row;", true)
  | 1 => ("PulledPanels$Steps", "needsOf", "LPulledPanels$Row;", true)
  | 2 => ("PulledPanels$Steps", "planned", "I", false)
  | _ => ("PulledPanels$Steps", "written", "I", false)
def tyX6 : Nat → FieldType := fun k => match k with
  | 0 => .object "PulledPanels$Row"
  | 1 => .object "PulledPanels$Row"
  | 2 => .int
  | _ => .int
abbrev wsX60 : List Cond := u_ws RX6 TX6 4
theorem nmX6 : ∀ a, a < 4 → ∀ b, b < 4 → a ≠ b → (TX6 a).2.1 ≠ (TX6 b).2.1 := by decide +kernel
theorem tyX6_ok : ∀ k, k < 4 → parseFieldDescriptor (TX6 k).2.2.1 = some (tyX6 k) := by decide +kernel
abbrev cX6_init : ByteArray := prog_8_method_1_code
def yX6_init : MethodName := ⟨RX6, "<init>", "()V"⟩
abbrev cX6_has : ByteArray := prog_8_method_2_code
def yX6_has : MethodName := ⟨RX6, "has", "(I)Z"⟩
abbrev cX6_add : ByteArray := prog_8_method_3_code
def yX6_add : MethodName := ⟨RX6, "add", "(II)V"⟩
abbrev cX6_timesNeeded : ByteArray := prog_8_method_4_code
def yX6_timesNeeded : MethodName := ⟨RX6, "timesNeeded", "(I)I"⟩
abbrev cX6_copyFrom : ByteArray := prog_8_method_5_code
def yX6_copyFrom : MethodName := ⟨RX6, "copyFrom", "(LPulledPanels$Steps;)V"⟩
def RX7 : String := "PulledPanels$Tally"
def TX7 : u_T := fun k => match k with
  | 0 => ("PulledPanels$Tally", "timesAsked", "LPulledPanels$Row;", true)
  | 1 => ("PulledPanels$Tally", "hidden", "I", false)
  | 2 => ("PulledPanels$Tally", "photoAlone", "I", false)
  | 3 => ("PulledPanels$Tally", "lost", "I", false)
  | 4 => ("PulledPanels$Tally", "answeredFromPanels", "I", false)
  | 5 => ("PulledPanels$Tally", "answeredFromPhotos", "I", false)
  | _ => ("PulledPanels$Tally", "unanswered", "I", false)
def tyX7 : Nat → FieldType := fun k => match k with
  | 0 => .object "PulledPanels$Row"
  | 1 => .int
  | 2 => .int
  | 3 => .int
  | 4 => .int
  | 5 => .int
  | _ => .int
abbrev wsX70 : List Cond := u_ws RX7 TX7 7
theorem nmX7 : ∀ a, a < 7 → ∀ b, b < 7 → a ≠ b → (TX7 a).2.1 ≠ (TX7 b).2.1 := by decide +kernel
theorem tyX7_ok : ∀ k, k < 7 → parseFieldDescriptor (TX7 k).2.2.1 = some (tyX7 k) := by decide +kernel
abbrev cX7_init : ByteArray := prog_9_method_1_code
def yX7_init : MethodName := ⟨RX7, "<init>", "()V"⟩
abbrev cX7_copyFrom : ByteArray := prog_9_method_2_code
def yX7_copyFrom : MethodName := ⟨RX7, "copyFrom", "(LPulledPanels$Tally;)V"⟩
def RX8 : String := "PulledPanels"
def TX8 : u_T := fun k => match k with
  | 0 => ("PulledPanels", "now", "LPulledPanels$Lecture;", true)
  | 1 => ("PulledPanels", "forecast", "LPulledPanels$Lecture;", true)
  | 2 => ("PulledPanels", "snapshot", "LPulledPanels$Lecture;", true)
  | 3 => ("PulledPanels", "history", "LPulledPanels$History;", true)
  | 4 => ("PulledPanels", "text", "LPulledPanels$PlanText;", true)
  | _ => ("PulledPanels", "kept", "Z", false)
def tyX8 : Nat → FieldType := fun k => match k with
  | 0 => .object "PulledPanels$Lecture"
  | 1 => .object "PulledPanels$Lecture"
  | 2 => .object "PulledPanels$Lecture"
  | 3 => .object "PulledPanels$History"
  | 4 => .object "PulledPanels$PlanText"
  | _ => .boolean
abbrev wsX80 : List Cond := u_ws RX8 TX8 6
theorem nmX8 : ∀ a, a < 6 → ∀ b, b < 6 → a ≠ b → (TX8 a).2.1 ≠ (TX8 b).2.1 := by decide +kernel
theorem tyX8_ok : ∀ k, k < 6 → parseFieldDescriptor (TX8 k).2.2.1 = some (tyX8 k) := by decide +kernel
abbrev cX8_init : ByteArray := prog_1_method_1_code
def yX8_init : MethodName := ⟨RX8, "<init>", "()V"⟩
abbrev cX8_setRoom : ByteArray := prog_1_method_2_code
def yX8_setRoom : MethodName := ⟨RX8, "setRoom", "(I)I"⟩
abbrev cX8_plan : ByteArray := prog_1_method_3_code
def yX8_plan : MethodName := ⟨RX8, "plan", "(II)I"⟩
abbrev cX8_write : ByteArray := prog_1_method_5_code
def yX8_write : MethodName := ⟨RX8, "write", "()I"⟩
abbrev cX8_pull : ByteArray := prog_1_method_6_code
def yX8_pull : MethodName := ⟨RX8, "pull", "(I)I"⟩
abbrev cX8_pin : ByteArray := prog_1_method_7_code
def yX8_pin : MethodName := ⟨RX8, "pin", "(IZ)I"⟩
abbrev cX8_wipe : ByteArray := prog_1_method_8_code
def yX8_wipe : MethodName := ⟨RX8, "wipe", "(I)I"⟩
abbrev cX8_photo : ByteArray := prog_1_method_9_code
def yX8_photo : MethodName := ⟨RX8, "photo", "(I)I"⟩
abbrev cX8_ask : ByteArray := prog_1_method_10_code
def yX8_ask : MethodName := ⟨RX8, "ask", "(I)I"⟩
abbrev cX8_undo : ByteArray := prog_1_method_13_code
def yX8_undo : MethodName := ⟨RX8, "undo", "()I"⟩
abbrev cX8_panel : ByteArray := prog_1_method_16_code
def yX8_panel : MethodName := ⟨RX8, "panel", "(II)I"⟩
abbrev cX8_step : ByteArray := prog_1_method_17_code
def yX8_step : MethodName := ⟨RX8, "step", "(II)I"⟩
abbrev cX8_photoOf : ByteArray := prog_1_method_18_code
def yX8_photoOf : MethodName := ⟨RX8, "photoOf", "(II)I"⟩
abbrev cX8_wouldBe : ByteArray := prog_1_method_19_code
def yX8_wouldBe : MethodName := ⟨RX8, "wouldBe", "(I)I"⟩
abbrev cX8_photosNeeded : ByteArray := prog_1_method_20_code
def yX8_photosNeeded : MethodName := ⟨RX8, "photosNeeded", "()I"⟩
abbrev cX8_count : ByteArray := prog_1_method_21_code
def yX8_count : MethodName := ⟨RX8, "count", "(I)I"⟩
abbrev cX8_panelOrNone : ByteArray := prog_1_method_22_code
def yX8_panelOrNone : MethodName := ⟨RX8, "panelOrNone", "(I)I"⟩
abbrev cX8_isPanel : ByteArray := prog_1_method_23_code
def yX8_isPanel : MethodName := ⟨RX8, "isPanel", "(I)Z"⟩
abbrev cX8_columnOf : ByteArray := prog_1_method_24_code
def yX8_columnOf : MethodName := ⟨RX8, "columnOf", "(I)I"⟩
abbrev cX8_bitOf : ByteArray := prog_1_method_25_code
def yX8_bitOf : MethodName := ⟨RX8, "bitOf", "(I)I"⟩
def RX9 : String := "PulledPanelsModel"
def TX9 : u_T := fun k => match k with
  | _ => ("", "", "", false)
def tyX9 : Nat → FieldType := fun k => match k with
  | _ => .int
abbrev wsX90 : List Cond := u_ws RX9 TX9 0
theorem nmX9 : ∀ a, a < 0 → ∀ b, b < 0 → a ≠ b → (TX9 a).2.1 ≠ (TX9 b).2.1 := by decide +kernel
theorem tyX9_ok : ∀ k, k < 0 → parseFieldDescriptor (TX9 k).2.2.1 = some (tyX9 k) := by decide +kernel
def RJ6 : String := "java/lang/Integer"
abbrev cJ6_bitCount_0f7a4 : ByteArray := prog_12_method_49_code
def yJ6_bitCount_0f7a4 : MethodName := ⟨RJ6, "bitCount", "(I)I"⟩
def RJ9 : String := "java/lang/Math"
abbrev cJ9_max_7cf53 : ByteArray := prog_13_method_65_code
def yJ9_max_7cf53 : MethodName := ⟨RJ9, "max", "(II)I"⟩
abbrev cJ9_min_7cf53 : ByteArray := prog_13_method_69_code
def yJ9_min_7cf53 : MethodName := ⟨RJ9, "min", "(II)I"⟩
def RJ10 : String := "java/lang/System"
def RL : String := "PulledPanelsLaw"
abbrev cL_cell : ByteArray := method_2_code
def yL_cell : MethodName := ⟨RL, "cell", "([II)I"⟩
abbrev cL_up : ByteArray := method_3_code
def yL_up : MethodName := ⟨RL, "up", "(II)I"⟩
abbrev cL_bits : ByteArray := method_4_code
def yL_bits : MethodName := ⟨RL, "bits", "(I)I"⟩
abbrev cL_missed : ByteArray := method_5_code
def yL_missed : MethodName := ⟨RL, "missed", "(LPulledPanels;)I"⟩
abbrev cL_isStep : ByteArray := method_6_code
def yL_isStep : MethodName := ⟨RL, "isStep", "(LPulledPanels;II)Z"⟩
abbrev cL_isWell : ByteArray := method_7_code
def yL_isWell : MethodName := ⟨RL, "isWell", "(LPulledPanels;)Z"⟩
abbrev cL_isForeseen : ByteArray := method_8_code
def yL_isForeseen : MethodName := ⟨RL, "isForeseen", "(LPulledPanels;)Z"⟩
abbrev cL_law : ByteArray := code
def yL_law : MethodName := ⟨RL, "law", "([I)Z"⟩
abbrev vwCl : List vw_C := [(RX0, TX0, 7), (RX1, TX1, 3), (RX2, TX2, 4), (RX3, TX3, 4), (RX4, TX4, 8), (RX5, TX5, 1), (RX6, TX6, 4), (RX7, TX7, 7), (RX8, TX8, 6)]
