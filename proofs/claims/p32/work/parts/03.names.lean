def RX0 : String := "KilnYard$Clay"
def TX0 : u_T := fun k => match k with
  | 0 => ("KilnYard$Clay", "top", "I", true)
  | _ => ("KilnYard$Clay", "growth", "D", true)
def tyX0 : Nat → FieldType := fun k => match k with
  | 0 => .int
  | _ => .double
theorem nmX0 : ∀ a, a < 2 → ∀ b, b < 2 → a ≠ b → (TX0 a).2.1 ≠ (TX0 b).2.1 := by decide +kernel
theorem tyX0_ok : ∀ k, k < 2 → parseFieldDescriptor (TX0 k).2.2.1 = some (tyX0 k) := by decide +kernel
abbrev cX0_init : ByteArray := prog_2_method_1_code
def yX0_init : MethodName := ⟨RX0, "<init>", "(II)V"⟩
def RX1 : String := "KilnYard$Glaze"
def TX1 : u_T := fun k => match k with
  | 0 => ("KilnYard$Glaze", "number", "I", true)
  | 1 => ("KilnYard$Glaze", "alumina", "I", true)
  | 2 => ("KilnYard$Glaze", "silica", "I", true)
  | 3 => ("KilnYard$Glaze", "iron", "I", true)
  | 4 => ("KilnYard$Glaze", "melts", "I", true)
  | _ => ("KilnYard$Glaze", "growth", "D", true)
def tyX1 : Nat → FieldType := fun k => match k with
  | 0 => .int
  | 1 => .int
  | 2 => .int
  | 3 => .int
  | 4 => .int
  | _ => .double
theorem nmX1 : ∀ a, a < 6 → ∀ b, b < 6 → a ≠ b → (TX1 a).2.1 ≠ (TX1 b).2.1 := by decide +kernel
theorem tyX1_ok : ∀ k, k < 6 → parseFieldDescriptor (TX1 k).2.2.1 = some (tyX1 k) := by decide +kernel
abbrev cX1_init : ByteArray := prog_3_method_1_code
def yX1_init : MethodName := ⟨RX1, "<init>", "(IIIIII)V"⟩
abbrev cX1_rounded : ByteArray := prog_3_method_2_code
def yX1_rounded : MethodName := ⟨RX1, "rounded", "(D)I"⟩
abbrev cX1_silicaToAlumina : ByteArray := prog_3_method_3_code
def yX1_silicaToAlumina : MethodName := ⟨RX1, "silicaToAlumina", "()D"⟩
abbrev cX1_marksOn : ByteArray := prog_3_method_4_code
def yX1_marksOn : MethodName := ⟨RX1, "marksOn", "(LKilnYard$Clay;I)I"⟩
abbrev cX1_distanceTo : ByteArray := prog_3_method_5_code
def yX1_distanceTo : MethodName := ⟨RX1, "distanceTo", "(LKilnYard$Clay;)D"⟩
def RX2 : String := "KilnYard$Kiln"
def TX2 : u_T := fun k => match k with
  | 0 => ("KilnYard$Kiln", "program", "LKilnYard$Program;", true)
  | 1 => ("KilnYard$Kiln", "heat", "D", false)
  | 2 => ("KilnYard$Kiln", "heatBefore", "D", false)
  | 3 => ("KilnYard$Kiln", "power", "F", false)
  | 4 => ("KilnYard$Kiln", "damper", "I", false)
  | 5 => ("KilnYard$Kiln", "isOpen", "Z", false)
  | 6 => ("KilnYard$Kiln", "isLit", "Z", false)
  | 7 => ("KilnYard$Kiln", "at", "I", false)
  | 8 => ("KilnYard$Kiln", "held", "I", false)
  | 9 => ("KilnYard$Kiln", "clock", "I", false)
  | 10 => ("KilnYard$Kiln", "fuel", "I", false)
  | 11 => ("KilnYard$Kiln", "stalls", "I", false)
  | _ => ("KilnYard$Kiln", "works", "[D", true)
def tyX2 : Nat → FieldType := fun k => match k with
  | 0 => .object "KilnYard$Program"
  | 1 => .double
  | 2 => .double
  | 3 => .float
  | 4 => .int
  | 5 => .boolean
  | 6 => .boolean
  | 7 => .int
  | 8 => .int
  | 9 => .int
  | 10 => .int
  | 11 => .int
  | _ => .array .double
theorem nmX2 : ∀ a, a < 13 → ∀ b, b < 13 → a ≠ b → (TX2 a).2.1 ≠ (TX2 b).2.1 := by decide +kernel
theorem tyX2_ok : ∀ k, k < 13 → parseFieldDescriptor (TX2 k).2.2.1 = some (tyX2 k) := by decide +kernel
abbrev cX2_init : ByteArray := prog_4_method_1_code
def yX2_init : MethodName := ⟨RX2, "<init>", "(LKilnYard$Program;)V"⟩
abbrev cX2_becomeLike : ByteArray := prog_4_method_2_code
def yX2_becomeLike : MethodName := ⟨RX2, "becomeLike", "(LKilnYard$Kiln;)V"⟩
abbrev cX2_hotAt : ByteArray := prog_4_method_3_code
def yX2_hotAt : MethodName := ⟨RX2, "hotAt", "(ID)D"⟩
abbrev cX2_isInReach : ByteArray := prog_4_method_4_code
def yX2_isInReach : MethodName := ⟨RX2, "isInReach", "()Z"⟩
abbrev cX2_gives : ByteArray := prog_4_method_5_code
def yX2_gives : MethodName := ⟨RX2, "gives", "()D"⟩
abbrev cX2_workOf : ByteArray := prog_4_method_6_code
def yX2_workOf : MethodName := ⟨RX2, "workOf", "(I)D"⟩
abbrev cX2_coneOf : ByteArray := prog_4_method_7_code
def yX2_coneOf : MethodName := ⟨RX2, "coneOf", "(I)I"⟩
abbrev cX2_kindle : ByteArray := prog_4_method_8_code
def yX2_kindle : MethodName := ⟨RX2, "kindle", "()V"⟩
abbrev cX2_step : ByteArray := prog_4_method_9_code
def yX2_step : MethodName := ⟨RX2, "step", "()V"⟩
abbrev cX2_passRamps : ByteArray := prog_4_method_10_code
def yX2_passRamps : MethodName := ⟨RX2, "passRamps", "()V"⟩
abbrev cX2_follow : ByteArray := prog_4_method_11_code
def yX2_follow : MethodName := ⟨RX2, "follow", "(LKilnYard$Ramp;)V"⟩
abbrev cX2_rise : ByteArray := prog_4_method_12_code
def yX2_rise : MethodName := ⟨RX2, "rise", "(LKilnYard$Ramp;)V"⟩
abbrev cX2_fall : ByteArray := prog_4_method_13_code
def yX2_fall : MethodName := ⟨RX2, "fall", "(LKilnYard$Ramp;)V"⟩
abbrev cX2_coolDown : ByteArray := prog_4_method_14_code
def yX2_coolDown : MethodName := ⟨RX2, "coolDown", "()V"⟩
abbrev cX2_payFuel : ByteArray := prog_4_method_15_code
def yX2_payFuel : MethodName := ⟨RX2, "payFuel", "()V"⟩
abbrev cX2_addWork : ByteArray := prog_4_method_16_code
def yX2_addWork : MethodName := ⟨RX2, "addWork", "()V"⟩
abbrev cX2_clearWorks : ByteArray := prog_4_method_17_code
def yX2_clearWorks : MethodName := ⟨RX2, "clearWorks", "()V"⟩
def RX3 : String := "KilnYard$Order"
def TX3 : u_T := fun k => match k with
  | _ => ("", "", "", false)
def tyX3 : Nat → FieldType := fun k => match k with
  | _ => .int
theorem nmX3 : ∀ a, a < 0 → ∀ b, b < 0 → a ≠ b → (TX3 a).2.1 ≠ (TX3 b).2.1 := by decide +kernel
theorem tyX3_ok : ∀ k, k < 0 → parseFieldDescriptor (TX3 k).2.2.1 = some (tyX3 k) := by decide +kernel
def RX4 : String := "KilnYard$Pot"
def TX4 : u_T := fun k => match k with
  | 0 => ("KilnYard$Pot", "clay", "LKilnYard$Clay;", true)
  | 1 => ("KilnYard$Pot", "width", "I", true)
  | 2 => ("KilnYard$Pot", "height", "I", true)
  | 3 => ("KilnYard$Pot", "wall", "I", true)
  | 4 => ("KilnYard$Pot", "glaze", "LKilnYard$Glaze;", false)
  | 5 => ("KilnYard$Pot", "state", "I", false)
  | 6 => ("KilnYard$Pot", "water", "F", false)
  | 7 => ("KilnYard$Pot", "isCovered", "Z", false)
  | 8 => ("KilnYard$Pot", "smoke", "I", false)
  | 9 => ("KilnYard$Pot", "marks", "I", false)
  | 10 => ("KilnYard$Pot", "shelf", "I", false)
  | _ => ("KilnYard$Pot", "cell", "I", false)
def tyX4 : Nat → FieldType := fun k => match k with
  | 0 => .object "KilnYard$Clay"
  | 1 => .int
  | 2 => .int
  | 3 => .int
  | 4 => .object "KilnYard$Glaze"
  | 5 => .int
  | 6 => .float
  | 7 => .boolean
  | 8 => .int
  | 9 => .int
  | 10 => .int
  | _ => .int
theorem nmX4 : ∀ a, a < 12 → ∀ b, b < 12 → a ≠ b → (TX4 a).2.1 ≠ (TX4 b).2.1 := by decide +kernel
theorem tyX4_ok : ∀ k, k < 12 → parseFieldDescriptor (TX4 k).2.2.1 = some (tyX4 k) := by decide +kernel
abbrev cX4_init : ByteArray := prog_6_method_1_code
def yX4_init : MethodName := ⟨RX4, "<init>", "(LKilnYard$Clay;III)V"⟩
abbrev cX4_glazeNumber : ByteArray := prog_6_method_2_code
def yX4_glazeNumber : MethodName := ⟨RX4, "glazeNumber", "()I"⟩
abbrev cX4_colour : ByteArray := prog_6_method_3_code
def yX4_colour : MethodName := ⟨RX4, "colour", "()I"⟩
abbrev cX4_canBeSet : ByteArray := prog_6_method_4_code
def yX4_canBeSet : MethodName := ⟨RX4, "canBeSet", "()Z"⟩
abbrev cX4_isReady : ByteArray := prog_6_method_5_code
def yX4_isReady : MethodName := ⟨RX4, "isReady", "()Z"⟩
abbrev cX4_leaveShelf : ByteArray := prog_6_method_6_code
def yX4_leaveShelf : MethodName := ⟨RX4, "leaveShelf", "()V"⟩
abbrev cX4_loseWater : ByteArray := prog_6_method_7_code
def yX4_loseWater : MethodName := ⟨RX4, "loseWater", "(I)V"⟩
abbrev cX4_feel : ByteArray := prog_6_method_8_code
def yX4_feel : MethodName := ⟨RX4, "feel", "(DDZ)V"⟩
abbrev cX4_fire : ByteArray := prog_6_method_9_code
def yX4_fire : MethodName := ⟨RX4, "fire", "(I)V"⟩
def RX5 : String := "KilnYard$Program"
def TX5 : u_T := fun k => match k with
  | 0 => ("KilnYard$Program", "ramps", "[LKilnYard$Ramp;", true)
  | _ => ("KilnYard$Program", "count", "I", false)
def tyX5 : Nat → FieldType := fun k => match k with
  | 0 => .array (.object "KilnYard$Ramp")
  | _ => .int
theorem nmX5 : ∀ a, a < 2 → ∀ b, b < 2 → a ≠ b → (TX5 a).2.1 ≠ (TX5 b).2.1 := by decide +kernel
theorem tyX5_ok : ∀ k, k < 2 → parseFieldDescriptor (TX5 k).2.2.1 = some (tyX5 k) := by decide +kernel
abbrev cX5_init : ByteArray := prog_7_method_1_code
def yX5_init : MethodName := ⟨RX5, "<init>", "()V"⟩
abbrev cX5_rampAt : ByteArray := prog_7_method_2_code
def yX5_rampAt : MethodName := ⟨RX5, "rampAt", "(I)LKilnYard$Ramp;"⟩
def RX6 : String := "KilnYard$Ramp"
def TX6 : u_T := fun k => match k with
  | 0 => ("KilnYard$Ramp", "rate", "I", true)
  | 1 => ("KilnYard$Ramp", "target", "I", true)
  | _ => ("KilnYard$Ramp", "hold", "I", true)
def tyX6 : Nat → FieldType := fun k => match k with
  | 0 => .int
  | 1 => .int
  | _ => .int
theorem nmX6 : ∀ a, a < 3 → ∀ b, b < 3 → a ≠ b → (TX6 a).2.1 ≠ (TX6 b).2.1 := by decide +kernel
theorem tyX6_ok : ∀ k, k < 3 → parseFieldDescriptor (TX6 k).2.2.1 = some (tyX6 k) := by decide +kernel
abbrev cX6_init : ByteArray := prog_8_method_1_code
def yX6_init : MethodName := ⟨RX6, "<init>", "(III)V"⟩
def RX7 : String := "KilnYard"
def TX7 : u_T := fun k => match k with
  | 0 => ("KilnYard", "clays", "[LKilnYard$Clay;", true)
  | 1 => ("KilnYard", "glazes", "[LKilnYard$Glaze;", true)
  | 2 => ("KilnYard", "pots", "[LKilnYard$Pot;", true)
  | 3 => ("KilnYard", "orders", "[LKilnYard$Order;", true)
  | 4 => ("KilnYard", "clayCount", "I", false)
  | 5 => ("KilnYard", "glazeCount", "I", false)
  | 6 => ("KilnYard", "potCount", "I", false)
  | 7 => ("KilnYard", "orderCount", "I", false)
  | 8 => ("KilnYard", "program", "LKilnYard$Program;", true)
  | 9 => ("KilnYard", "real", "LKilnYard$Kiln;", true)
  | 10 => ("KilnYard", "trial", "LKilnYard$Kiln;", true)
  | 11 => ("KilnYard", "day", "I", false)
  | 12 => ("KilnYard", "purse", "I", false)
  | _ => ("KilnYard", "refused", "I", false)
def tyX7 : Nat → FieldType := fun k => match k with
  | 0 => .array (.object "KilnYard$Clay")
  | 1 => .array (.object "KilnYard$Glaze")
  | 2 => .array (.object "KilnYard$Pot")
  | 3 => .array (.object "KilnYard$Order")
  | 4 => .int
  | 5 => .int
  | 6 => .int
  | 7 => .int
  | 8 => .object "KilnYard$Program"
  | 9 => .object "KilnYard$Kiln"
  | 10 => .object "KilnYard$Kiln"
  | 11 => .int
  | 12 => .int
  | _ => .int
theorem nmX7 : ∀ a, a < 14 → ∀ b, b < 14 → a ≠ b → (TX7 a).2.1 ≠ (TX7 b).2.1 := by decide +kernel
theorem tyX7_ok : ∀ k, k < 14 → parseFieldDescriptor (TX7 k).2.2.1 = some (tyX7 k) := by decide +kernel
abbrev cX7_init : ByteArray := prog_1_method_1_code
def yX7_init : MethodName := ⟨RX7, "<init>", "()V"⟩
abbrev cX7_clay : ByteArray := prog_1_method_2_code
def yX7_clay : MethodName := ⟨RX7, "clay", "(II)I"⟩
abbrev cX7_glaze : ByteArray := prog_1_method_3_code
def yX7_glaze : MethodName := ⟨RX7, "glaze", "(IIIII)I"⟩
abbrev cX7_pot : ByteArray := prog_1_method_4_code
def yX7_pot : MethodName := ⟨RX7, "pot", "(IIII)I"⟩
abbrev cX7_cover : ByteArray := prog_1_method_5_code
def yX7_cover : MethodName := ⟨RX7, "cover", "(IZ)Z"⟩
abbrev cX7_dry : ByteArray := prog_1_method_6_code
def yX7_dry : MethodName := ⟨RX7, "dry", "(II)I"⟩
abbrev cX7_dip : ByteArray := prog_1_method_7_code
def yX7_dip : MethodName := ⟨RX7, "dip", "(II)I"⟩
abbrev cX7_set : ByteArray := prog_1_method_8_code
def yX7_set : MethodName := ⟨RX7, "set", "(III)I"⟩
abbrev cX7_ramp : ByteArray := prog_1_method_10_code
def yX7_ramp : MethodName := ⟨RX7, "ramp", "(III)I"⟩
abbrev cX7_light : ByteArray := prog_1_method_12_code
def yX7_light : MethodName := ⟨RX7, "light", "()I"⟩
abbrev cX7_burn : ByteArray := prog_1_method_13_code
def yX7_burn : MethodName := ⟨RX7, "burn", "(I)Z"⟩
abbrev cX7_damper : ByteArray := prog_1_method_14_code
def yX7_damper : MethodName := ⟨RX7, "damper", "(I)I"⟩
abbrev cX7_door : ByteArray := prog_1_method_15_code
def yX7_door : MethodName := ⟨RX7, "door", "(Z)Z"⟩
abbrev cX7_unload : ByteArray := prog_1_method_17_code
def yX7_unload : MethodName := ⟨RX7, "unload", "()I"⟩
abbrev cX7_ofPot : ByteArray := prog_1_method_20_code
def yX7_ofPot : MethodName := ⟨RX7, "ofPot", "(II)I"⟩
abbrev cX7_water : ByteArray := prog_1_method_21_code
def yX7_water : MethodName := ⟨RX7, "water", "(I)D"⟩
abbrev cX7_ofGlaze : ByteArray := prog_1_method_22_code
def yX7_ofGlaze : MethodName := ⟨RX7, "ofGlaze", "(II)D"⟩
abbrev cX7_kiln : ByteArray := prog_1_method_23_code
def yX7_kiln : MethodName := ⟨RX7, "kiln", "(I)D"⟩
abbrev cX7_ofShelf : ByteArray := prog_1_method_24_code
def yX7_ofShelf : MethodName := ⟨RX7, "ofShelf", "(II)I"⟩
abbrev cX7_many : ByteArray := prog_1_method_25_code
def yX7_many : MethodName := ⟨RX7, "many", "(I)I"⟩
abbrev cX7_wouldCone : ByteArray := prog_1_method_26_code
def yX7_wouldCone : MethodName := ⟨RX7, "wouldCone", "(II)I"⟩
abbrev cX7_wouldEnd : ByteArray := prog_1_method_27_code
def yX7_wouldEnd : MethodName := ⟨RX7, "wouldEnd", "()I"⟩
abbrev cX7_best : ByteArray := prog_1_method_28_code
def yX7_best : MethodName := ⟨RX7, "best", "(II)I"⟩
abbrev cX7_wouldHold : ByteArray := prog_1_method_29_code
def yX7_wouldHold : MethodName := ⟨RX7, "wouldHold", "(I)I"⟩
abbrev cX7_digest : ByteArray := prog_1_method_30_code
def yX7_digest : MethodName := ⟨RX7, "digest", "()J"⟩
abbrev cX7_withPot : ByteArray := prog_1_method_31_code
def yX7_withPot : MethodName := ⟨RX7, "withPot", "(JI)J"⟩
abbrev cX7_withShelf : ByteArray := prog_1_method_32_code
def yX7_withShelf : MethodName := ⟨RX7, "withShelf", "(JI)J"⟩
abbrev cX7_isWithin : ByteArray := prog_1_method_33_code
def yX7_isWithin : MethodName := ⟨RX7, "isWithin", "(III)Z"⟩
abbrev cX7_isPart : ByteArray := prog_1_method_34_code
def yX7_isPart : MethodName := ⟨RX7, "isPart", "(I)Z"⟩
abbrev cX7_testShelf : ByteArray := prog_1_method_35_code
def yX7_testShelf : MethodName := ⟨RX7, "testShelf", "(I)V"⟩
abbrev cX7_testSteps : ByteArray := prog_1_method_36_code
def yX7_testSteps : MethodName := ⟨RX7, "testSteps", "(I)V"⟩
abbrev cX7_clayAt : ByteArray := prog_1_method_37_code
def yX7_clayAt : MethodName := ⟨RX7, "clayAt", "(I)LKilnYard$Clay;"⟩
abbrev cX7_glazeAt : ByteArray := prog_1_method_38_code
def yX7_glazeAt : MethodName := ⟨RX7, "glazeAt", "(I)LKilnYard$Glaze;"⟩
abbrev cX7_potAt : ByteArray := prog_1_method_39_code
def yX7_potAt : MethodName := ⟨RX7, "potAt", "(I)LKilnYard$Pot;"⟩
abbrev cX7_dryOneDay : ByteArray := prog_1_method_41_code
def yX7_dryOneDay : MethodName := ⟨RX7, "dryOneDay", "(I)V"⟩
abbrev cX7_heatPots : ByteArray := prog_1_method_42_code
def yX7_heatPots : MethodName := ⟨RX7, "heatPots", "()V"⟩
abbrev cX7_potsInState : ByteArray := prog_1_method_43_code
def yX7_potsInState : MethodName := ⟨RX7, "potsInState", "(I)I"⟩
abbrev cX7_potsOn : ByteArray := prog_1_method_44_code
def yX7_potsOn : MethodName := ⟨RX7, "potsOn", "(I)I"⟩
abbrev cX7_openOrders : ByteArray := prog_1_method_45_code
def yX7_openOrders : MethodName := ⟨RX7, "openOrders", "()I"⟩
abbrev cX7_heightOf : ByteArray := prog_1_method_46_code
def yX7_heightOf : MethodName := ⟨RX7, "heightOf", "(I)I"⟩
abbrev cX7_cellsFrom : ByteArray := prog_1_method_47_code
def yX7_cellsFrom : MethodName := ⟨RX7, "cellsFrom", "(II)I"⟩
abbrev cX7_takenCells : ByteArray := prog_1_method_48_code
def yX7_takenCells : MethodName := ⟨RX7, "takenCells", "(I)I"⟩
abbrev cX7_freeCells : ByteArray := prog_1_method_49_code
def yX7_freeCells : MethodName := ⟨RX7, "freeCells", "(I)I"⟩
abbrev cX7_longestFreeRow : ByteArray := prog_1_method_50_code
def yX7_longestFreeRow : MethodName := ⟨RX7, "longestFreeRow", "(I)I"⟩
abbrev cX7_sumsOfWidths : ByteArray := prog_1_method_51_code
def yX7_sumsOfWidths : MethodName := ⟨RX7, "sumsOfWidths", "(I)I"⟩
def RX8 : String := "KilnYardModel$Kiln"
def TX8 : u_T := fun k => match k with
  | _ => ("", "", "", false)
def tyX8 : Nat → FieldType := fun k => match k with
  | _ => .int
theorem nmX8 : ∀ a, a < 0 → ∀ b, b < 0 → a ≠ b → (TX8 a).2.1 ≠ (TX8 b).2.1 := by decide +kernel
theorem tyX8_ok : ∀ k, k < 0 → parseFieldDescriptor (TX8 k).2.2.1 = some (tyX8 k) := by decide +kernel
def RX9 : String := "KilnYardModel$Pot"
def TX9 : u_T := fun k => match k with
  | _ => ("", "", "", false)
def tyX9 : Nat → FieldType := fun k => match k with
  | _ => .int
theorem nmX9 : ∀ a, a < 0 → ∀ b, b < 0 → a ≠ b → (TX9 a).2.1 ≠ (TX9 b).2.1 := by decide +kernel
theorem tyX9_ok : ∀ k, k < 0 → parseFieldDescriptor (TX9 k).2.2.1 = some (tyX9 k) := by decide +kernel
def RX10 : String := "KilnYardModel"
def TX10 : u_T := fun k => match k with
  | _ => ("", "", "", false)
def tyX10 : Nat → FieldType := fun k => match k with
  | _ => .int
theorem nmX10 : ∀ a, a < 0 → ∀ b, b < 0 → a ≠ b → (TX10 a).2.1 ≠ (TX10 b).2.1 := by decide +kernel
theorem tyX10_ok : ∀ k, k < 0 → parseFieldDescriptor (TX10 k).2.2.1 = some (tyX10 k) := by decide +kernel
def RJx145de : String := "java/io/Serializable"
def TJx145de : u_T := fun k => match k with
  | _ => ("", "", "", false)
def tyJx145de : Nat → FieldType := fun k => match k with
  | _ => .int
theorem nmJx145de : ∀ a, a < 0 → ∀ b, b < 0 → a ≠ b → (TJx145de a).2.1 ≠ (TJx145de b).2.1 := by decide +kernel
theorem tyJx145de_ok : ∀ k, k < 0 → parseFieldDescriptor (TJx145de k).2.2.1 = some (tyJx145de k) := by decide +kernel
def RJ6 : String := "java/lang/Integer"
def TJ6 : u_T := fun k => match k with
  | _ => ("", "", "", false)
def tyJ6 : Nat → FieldType := fun k => match k with
  | _ => .int
theorem nmJ6 : ∀ a, a < 0 → ∀ b, b < 0 → a ≠ b → (TJ6 a).2.1 ≠ (TJ6 b).2.1 := by decide +kernel
theorem tyJ6_ok : ∀ k, k < 0 → parseFieldDescriptor (TJ6 k).2.2.1 = some (tyJ6 k) := by decide +kernel
abbrev cJ6_bitCount_0f7a4 : ByteArray := prog_17_method_49_code
def yJ6_bitCount_0f7a4 : MethodName := ⟨RJ6, "bitCount", "(I)I"⟩
def RJ9 : String := "java/lang/Math"
def TJ9 : u_T := fun k => match k with
  | _ => ("", "", "", false)
def tyJ9 : Nat → FieldType := fun k => match k with
  | _ => .int
theorem nmJ9 : ∀ a, a < 0 → ∀ b, b < 0 → a ≠ b → (TJ9 a).2.1 ≠ (TJ9 b).2.1 := by decide +kernel
theorem tyJ9_ok : ∀ k, k < 0 → parseFieldDescriptor (TJ9 k).2.2.1 = some (tyJ9 k) := by decide +kernel
abbrev cJ9_max_7cf53 : ByteArray := prog_18_method_65_code
def yJ9_max_7cf53 : MethodName := ⟨RJ9, "max", "(II)I"⟩
abbrev cJ9_min_7cf53 : ByteArray := prog_18_method_69_code
def yJ9_min_7cf53 : MethodName := ⟨RJ9, "min", "(II)I"⟩
def RJ0 : String := "java/lang/String"
def TJ0 : u_T := fun k => match k with
  | _ => ("", "", "", false)
def tyJ0 : Nat → FieldType := fun k => match k with
  | _ => .int
theorem nmJ0 : ∀ a, a < 0 → ∀ b, b < 0 → a ≠ b → (TJ0 a).2.1 ≠ (TJ0 b).2.1 := by decide +kernel
theorem tyJ0_ok : ∀ k, k < 0 → parseFieldDescriptor (TJ0 k).2.2.1 = some (tyJ0 k) := by decide +kernel
def RL : String := "KilnYardLaw"
abbrev cL_below : ByteArray := method_2_code
def yL_below : MethodName := ⟨RL, "below", "(II)I"⟩
abbrev cL_cell : ByteArray := method_3_code
def yL_cell : MethodName := ⟨RL, "cell", "([II)I"⟩
abbrev cL_law : ByteArray := code
def yL_law : MethodName := ⟨RL, "law", "([I)Z"⟩
abbrev cL_place : ByteArray := method_5_code
def yL_place : MethodName := ⟨RL, "place", "(LKilnYard;III)V"⟩
abbrev cL_areApart : ByteArray := method_6_code
def yL_areApart : MethodName := ⟨RL, "areApart", "(LKilnYard;[I)Z"⟩
abbrev vwCl : List vw_C := [(RX0, TX0, 2), (RX1, TX1, 6), (RX2, TX2, 13), (RX4, TX4, 12), (RX5, TX5, 2), (RX6, TX6, 3), (RX7, TX7, 14)]
