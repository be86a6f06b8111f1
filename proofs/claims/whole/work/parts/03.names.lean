/-! ===== BEGIN printed: names, fields, word lists, decode rows ===== -/
def RX0 : String := "KilnYard$Clay"
def TX0 : u_T := fun k => match k with
  | 0 => ("KilnYard$Clay", "top", "I", true)
  | _ => ("KilnYard$Clay", "growth", "D", true)
def tyX0 : Nat → FieldType := fun k => match k with
  | 0 => .int
  | _ => .double
theorem nmX0 : ∀ a, a < 2 → ∀ b, b < 2 → a ≠ b → (TX0 a).2.1 ≠ (TX0 b).2.1 := by decide +kernel
theorem tyX0_ok : ∀ k, k < 2 → parseFieldDescriptor (TX0 k).2.2.1 = some (tyX0 k) := by decide +kernel
abbrev cX0_init : ByteArray := prog_2_method_1_code
def yX0_init : MethodName := ⟨RX0, "<init>", "(II)V"⟩
def RX1 : String := "KilnYard$Glaze"
def TX1 : u_T := fun k => match k with
  | 0 => ("KilnYard$Glaze", "number", "I", true)
  | 1 => ("KilnYard$Glaze", "alumina", "I", true)
  | 2 => ("KilnYard$Glaze", "silica", "I", true)
  | 3 => ("KilnYard$Glaze", "iron", "I", true)
  | 4 => ("KilnYard$Glaze", "melts", "I", true)
  | _ => ("KilnYard$Glaze", "growth", "D", true)
def tyX1 : Nat → FieldType := fun k => match k with
  | 0 => .int
  | 1 => .int
  | 2 => .int
  | 3 => .int
  | 4 => .int
  | _ => .double
theorem nmX1 : ∀ a, a < 6 → ∀ b, b < 6 → a ≠ b → (TX1 a).2.1 ≠ (TX1 b).2.1 := by decide +kernel
theorem tyX1_ok : ∀ k, k < 6 → parseFieldDescriptor (TX1 k).2.2.1 = some (tyX1 k) := by decide +kernel
abbrev cX1_init : ByteArray := prog_3_method_1_code
def yX1_init : MethodName := ⟨RX1, "<init>", "(IIIIII)V"⟩
abbrev cX1_rounded : ByteArray := prog_3_method_2_code
def yX1_rounded : MethodName := ⟨RX1, "rounded", "(D)I"⟩
abbrev cX1_silicaToAlumina : ByteArray := prog_3_method_3_code
def yX1_silicaToAlumina : MethodName := ⟨RX1, "silicaToAlumina", "()D"⟩
abbrev cX1_marksOn : ByteArray := prog_3_method_4_code
def yX1_marksOn : MethodName := ⟨RX1, "marksOn", "(LKilnYard$Clay;I)I"⟩
abbrev cX1_distanceTo : ByteArray := prog_3_method_5_code
def yX1_distanceTo : MethodName := ⟨RX1, "distanceTo", "(LKilnYard$Clay;)D"⟩
def RX2 : String := "KilnYard$Kiln"
def TX2 : u_T := fun k => match k with
  | 0 => ("KilnYard$Kiln", "program", "LKilnYard$Program;", true)
  | 1 => ("KilnYard$Kiln", "heat", "D", false)
  | 2 => ("KilnYard$Kiln", "heatBefore", "D", false)
  | 3 => ("KilnYard$Kiln", "power", "F", false)
  | 4 => ("KilnYard$Kiln", "damper", "I", false)
  | 5 => ("KilnYard$Kiln", "isOpen", "Z", false)
  | 6 => ("KilnYard$Kiln", "isLit", "Z", false)
  | 7 => ("KilnYard$Kiln", "at", "I", false)
  | 8 => ("KilnYard$Kiln", "held", "I", false)
  | 9 => ("KilnYard$Kiln", "clock", "I", false)
  | 10 => ("KilnYard$Kiln", "fuel", "I", false)
  | 11 => ("KilnYard$Kiln", "stalls", "I", false)
  | _ => ("KilnYard$Kiln", "works", "[D", true)
def tyX2 : Nat → FieldType := fun k => match k with
  | 0 => .object "KilnYard$Program"
  | 1 => .double
  | 2 => .double
  | 3 => .float
  | 4 => .int
  | 5 => .boolean
  | 6 => .boolean
  | 7 => .int
  | 8 => .int
  | 9 => .int
  | 10 => .int
  | 11 => .int
  | _ => .array .double
theorem nmX2 : ∀ a, a < 13 → ∀ b, b < 13 → a ≠ b → (TX2 a).2.1 ≠ (TX2 b).2.1 := by decide +kernel
theorem tyX2_ok : ∀ k, k < 13 → parseFieldDescriptor (TX2 k).2.2.1 = some (tyX2 k) := by decide +kernel
abbrev cX2_init : ByteArray := prog_4_method_1_code
def yX2_init : MethodName := ⟨RX2, "<init>", "(LKilnYard$Program;)V"⟩
abbrev cX2_becomeLike : ByteArray := prog_4_method_2_code
def yX2_becomeLike : MethodName := ⟨RX2, "becomeLike", "(LKilnYard$Kiln;)V"⟩
abbrev cX2_hotAt : ByteArray := prog_4_method_3_code
def yX2_hotAt : MethodName := ⟨RX2, "hotAt", "(ID)D"⟩
abbrev cX2_isInReach : ByteArray := prog_4_method_4_code
def yX2_isInReach : MethodName := ⟨RX2, "isInReach", "()Z"⟩
abbrev cX2_gives : ByteArray := prog_4_method_5_code
def yX2_gives : MethodName := ⟨RX2, "gives", "()D"⟩
abbrev cX2_workOf : ByteArray := prog_4_method_6_code
def yX2_workOf : MethodName := ⟨RX2, "workOf", "(I)D"⟩
abbrev cX2_coneOf : ByteArray := prog_4_method_7_code
def yX2_coneOf : MethodName := ⟨RX2, "coneOf", "(I)I"⟩
abbrev cX2_kindle : ByteArray := prog_4_method_8_code
def yX2_kindle : MethodName := ⟨RX2, "kindle", "()V"⟩
abbrev cX2_step : ByteArray := prog_4_method_9_code
def yX2_step : MethodName := ⟨RX2, "step", "()V"⟩
abbrev cX2_passRamps : ByteArray := prog_4_method_10_code
def yX2_passRamps : MethodName := ⟨RX2, "passRamps", "()V"⟩
abbrev cX2_follow : ByteArray := prog_4_method_11_code
def yX2_follow : MethodName := ⟨RX2, "follow", "(LKilnYard$Ramp;)V"⟩
abbrev cX2_rise : ByteArray := prog_4_method_12_code
def yX2_rise : MethodName := ⟨RX2, "rise", "(LKilnYard$Ramp;)V"⟩
abbrev cX2_fall : ByteArray := prog_4_method_13_code
def yX2_fall : MethodName := ⟨RX2, "fall", "(LKilnYard$Ramp;)V"⟩
abbrev cX2_coolDown : ByteArray := prog_4_method_14_code
def yX2_coolDown : MethodName := ⟨RX2, "coolDown", "()V"⟩
abbrev cX2_payFuel : ByteArray := prog_4_method_15_code
def yX2_payFuel : MethodName := ⟨RX2, "payFuel", "()V"⟩
abbrev cX2_addWork : ByteArray := prog_4_method_16_code
def yX2_addWork : MethodName := ⟨RX2, "addWork", "()V"⟩
abbrev cX2_clearWorks : ByteArray := prog_4_method_17_code
def yX2_clearWorks : MethodName := ⟨RX2, "clearWorks", "()V"⟩
def RX3 : String := "KilnYard$Order"
def TX3 : u_T := fun k => match k with
  | 0 => ("KilnYard$Order", "glaze", "I", true)
  | 1 => ("KilnYard$Order", "colour", "I", true)
  | 2 => ("KilnYard$Order", "due", "I", true)
  | 3 => ("KilnYard$Order", "price", "I", true)
  | _ => ("KilnYard$Order", "isMet", "Z", false)
def tyX3 : Nat → FieldType := fun k => match k with
  | 0 => .int
  | 1 => .int
  | 2 => .int
  | 3 => .int
  | _ => .boolean
theorem nmX3 : ∀ a, a < 5 → ∀ b, b < 5 → a ≠ b → (TX3 a).2.1 ≠ (TX3 b).2.1 := by decide +kernel
theorem tyX3_ok : ∀ k, k < 5 → parseFieldDescriptor (TX3 k).2.2.1 = some (tyX3 k) := by decide +kernel
abbrev cX3_init : ByteArray := prog_5_method_1_code
def yX3_init : MethodName := ⟨RX3, "<init>", "(IIII)V"⟩
abbrev cX3_worthOf : ByteArray := prog_5_method_2_code
def yX3_worthOf : MethodName := ⟨RX3, "worthOf", "(LKilnYard$Pot;I)I"⟩
def RX4 : String := "KilnYard$Pot"
def TX4 : u_T := fun k => match k with
  | 0 => ("KilnYard$Pot", "clay", "LKilnYard$Clay;", true)
  | 1 => ("KilnYard$Pot", "width", "I", true)
  | 2 => ("KilnYard$Pot", "height", "I", true)
  | 3 => ("KilnYard$Pot", "wall", "I", true)
  | 4 => ("KilnYard$Pot", "glaze", "LKilnYard$Glaze;", false)
  | 5 => ("KilnYard$Pot", "state", "I", false)
  | 6 => ("KilnYard$Pot", "water", "F", false)
  | 7 => ("KilnYard$Pot", "isCovered", "Z", false)
  | 8 => ("KilnYard$Pot", "smoke", "I", false)
  | 9 => ("KilnYard$Pot", "marks", "I", false)
  | 10 => ("KilnYard$Pot", "shelf", "I", false)
  | _ => ("KilnYard$Pot", "cell", "I", false)
def tyX4 : Nat → FieldType := fun k => match k with
  | 0 => .object "KilnYard$Clay"
  | 1 => .int
  | 2 => .int
  | 3 => .int
  | 4 => .object "KilnYard$Glaze"
  | 5 => .int
  | 6 => .float
  | 7 => .boolean
  | 8 => .int
  | 9 => .int
  | 10 => .int
  | _ => .int
theorem nmX4 : ∀ a, a < 12 → ∀ b, b < 12 → a ≠ b → (TX4 a).2.1 ≠ (TX4 b).2.1 := by decide +kernel
theorem tyX4_ok : ∀ k, k < 12 → parseFieldDescriptor (TX4 k).2.2.1 = some (tyX4 k) := by decide +kernel
abbrev cX4_init : ByteArray := prog_6_method_1_code
def yX4_init : MethodName := ⟨RX4, "<init>", "(LKilnYard$Clay;III)V"⟩
abbrev cX4_glazeNumber : ByteArray := prog_6_method_2_code
def yX4_glazeNumber : MethodName := ⟨RX4, "glazeNumber", "()I"⟩
abbrev cX4_colour : ByteArray := prog_6_method_3_code
def yX4_colour : MethodName := ⟨RX4, "colour", "()I"⟩
abbrev cX4_canBeSet : ByteArray := prog_6_method_4_code
def yX4_canBeSet : MethodName := ⟨RX4, "canBeSet", "()Z"⟩
abbrev cX4_isReady : ByteArray := prog_6_method_5_code
def yX4_isReady : MethodName := ⟨RX4, "isReady", "()Z"⟩
abbrev cX4_leaveShelf : ByteArray := prog_6_method_6_code
def yX4_leaveShelf : MethodName := ⟨RX4, "leaveShelf", "()V"⟩
abbrev cX4_loseWater : ByteArray := prog_6_method_7_code
def yX4_loseWater : MethodName := ⟨RX4, "loseWater", "(I)V"⟩
abbrev cX4_feel : ByteArray := prog_6_method_8_code
def yX4_feel : MethodName := ⟨RX4, "feel", "(DDZ)V"⟩
abbrev cX4_fire : ByteArray := prog_6_method_9_code
def yX4_fire : MethodName := ⟨RX4, "fire", "(I)V"⟩
def RX5 : String := "KilnYard$Program"
def TX5 : u_T := fun k => match k with
  | 0 => ("KilnYard$Program", "ramps", "[LKilnYard$Ramp;", true)
  | _ => ("KilnYard$Program", "count", "I", false)
def tyX5 : Nat → FieldType := fun k => match k with
  | 0 => .array (.object "KilnYard$Ramp")
  | _ => .int
theorem nmX5 : ∀ a, a < 2 → ∀ b, b < 2 → a ≠ b → (TX5 a).2.1 ≠ (TX5 b).2.1 := by decide +kernel
theorem tyX5_ok : ∀ k, k < 2 → parseFieldDescriptor (TX5 k).2.2.1 = some (tyX5 k) := by decide +kernel
abbrev cX5_init : ByteArray := prog_7_method_1_code
def yX5_init : MethodName := ⟨RX5, "<init>", "()V"⟩
abbrev cX5_rampAt : ByteArray := prog_7_method_2_code
def yX5_rampAt : MethodName := ⟨RX5, "rampAt", "(I)LKilnYard$Ramp;"⟩
def RX6 : String := "KilnYard$Ramp"
def TX6 : u_T := fun k => match k with
  | 0 => ("KilnYard$Ramp", "rate", "I", true)
  | 1 => ("KilnYard$Ramp", "target", "I", true)
  | _ => ("KilnYard$Ramp", "hold", "I", true)
def tyX6 : Nat → FieldType := fun k => match k with
  | 0 => .int
  | 1 => .int
  | _ => .int
theorem nmX6 : ∀ a, a < 3 → ∀ b, b < 3 → a ≠ b → (TX6 a).2.1 ≠ (TX6 b).2.1 := by decide +kernel
theorem tyX6_ok : ∀ k, k < 3 → parseFieldDescriptor (TX6 k).2.2.1 = some (tyX6 k) := by decide +kernel
abbrev cX6_init : ByteArray := prog_8_method_1_code
def yX6_init : MethodName := ⟨RX6, "<init>", "(III)V"⟩
def RX7 : String := "KilnYard"
def TX7 : u_T := fun k => match k with
  | 0 => ("KilnYard", "clays", "[LKilnYard$Clay;", true)
  | 1 => ("KilnYard", "glazes", "[LKilnYard$Glaze;", true)
  | 2 => ("KilnYard", "pots", "[LKilnYard$Pot;", true)
  | 3 => ("KilnYard", "orders", "[LKilnYard$Order;", true)
  | 4 => ("KilnYard", "clayCount", "I", false)
  | 5 => ("KilnYard", "glazeCount", "I", false)
  | 6 => ("KilnYard", "potCount", "I", false)
  | 7 => ("KilnYard", "orderCount", "I", false)
  | 8 => ("KilnYard", "program", "LKilnYard$Program;", true)
  | 9 => ("KilnYard", "real", "LKilnYard$Kiln;", true)
  | 10 => ("KilnYard", "trial", "LKilnYard$Kiln;", true)
  | 11 => ("KilnYard", "day", "I", false)
  | 12 => ("KilnYard", "purse", "I", false)
  | _ => ("KilnYard", "refused", "I", false)
def tyX7 : Nat → FieldType := fun k => match k with
  | 0 => .array (.object "KilnYard$Clay")
  | 1 => .array (.object "KilnYard$Glaze")
  | 2 => .array (.object "KilnYard$Pot")
  | 3 => .array (.object "KilnYard$Order")
  | 4 => .int
  | 5 => .int
  | 6 => .int
  | 7 => .int
  | 8 => .object "KilnYard$Program"
  | 9 => .object "KilnYard$Kiln"
  | 10 => .object "KilnYard$Kiln"
  | 11 => .int
  | 12 => .int
  | _ => .int
theorem nmX7 : ∀ a, a < 14 → ∀ b, b < 14 → a ≠ b → (TX7 a).2.1 ≠ (TX7 b).2.1 := by decide +kernel
theorem tyX7_ok : ∀ k, k < 14 → parseFieldDescriptor (TX7 k).2.2.1 = some (tyX7 k) := by decide +kernel
abbrev cX7_init : ByteArray := prog_1_method_1_code
def yX7_init : MethodName := ⟨RX7, "<init>", "()V"⟩
abbrev cX7_clay : ByteArray := prog_1_method_2_code
def yX7_clay : MethodName := ⟨RX7, "clay", "(II)I"⟩
abbrev cX7_glaze : ByteArray := prog_1_method_3_code
def yX7_glaze : MethodName := ⟨RX7, "glaze", "(IIIII)I"⟩
abbrev cX7_pot : ByteArray := prog_1_method_4_code
def yX7_pot : MethodName := ⟨RX7, "pot", "(IIII)I"⟩
abbrev cX7_cover : ByteArray := prog_1_method_5_code
def yX7_cover : MethodName := ⟨RX7, "cover", "(IZ)Z"⟩
abbrev cX7_dry : ByteArray := prog_1_method_6_code
def yX7_dry : MethodName := ⟨RX7, "dry", "(II)I"⟩
abbrev cX7_dip : ByteArray := prog_1_method_7_code
def yX7_dip : MethodName := ⟨RX7, "dip", "(II)I"⟩
abbrev cX7_set : ByteArray := prog_1_method_8_code
def yX7_set : MethodName := ⟨RX7, "set", "(III)I"⟩
abbrev cX7_take : ByteArray := prog_1_method_9_code
def yX7_take : MethodName := ⟨RX7, "take", "(I)I"⟩
abbrev cX7_ramp : ByteArray := prog_1_method_10_code
def yX7_ramp : MethodName := ⟨RX7, "ramp", "(III)I"⟩
abbrev cX7_forget : ByteArray := prog_1_method_11_code
def yX7_forget : MethodName := ⟨RX7, "forget", "()I"⟩
abbrev cX7_light : ByteArray := prog_1_method_12_code
def yX7_light : MethodName := ⟨RX7, "light", "()I"⟩
abbrev cX7_burn : ByteArray := prog_1_method_13_code
def yX7_burn : MethodName := ⟨RX7, "burn", "(I)Z"⟩
abbrev cX7_damper : ByteArray := prog_1_method_14_code
def yX7_damper : MethodName := ⟨RX7, "damper", "(I)I"⟩
abbrev cX7_door : ByteArray := prog_1_method_15_code
def yX7_door : MethodName := ⟨RX7, "door", "(Z)Z"⟩
abbrev cX7_bell : ByteArray := prog_1_method_16_code
def yX7_bell : MethodName := ⟨RX7, "bell", "()I"⟩
abbrev cX7_unload : ByteArray := prog_1_method_17_code
def yX7_unload : MethodName := ⟨RX7, "unload", "()I"⟩
abbrev cX7_order : ByteArray := prog_1_method_18_code
def yX7_order : MethodName := ⟨RX7, "order", "(IIII)I"⟩
abbrev cX7_meet : ByteArray := prog_1_method_19_code
def yX7_meet : MethodName := ⟨RX7, "meet", "(II)I"⟩
abbrev cX7_ofPot : ByteArray := prog_1_method_20_code
def yX7_ofPot : MethodName := ⟨RX7, "ofPot", "(II)I"⟩
abbrev cX7_water : ByteArray := prog_1_method_21_code
def yX7_water : MethodName := ⟨RX7, "water", "(I)D"⟩
abbrev cX7_ofGlaze : ByteArray := prog_1_method_22_code
def yX7_ofGlaze : MethodName := ⟨RX7, "ofGlaze", "(II)D"⟩
abbrev cX7_kiln : ByteArray := prog_1_method_23_code
def yX7_kiln : MethodName := ⟨RX7, "kiln", "(I)D"⟩
abbrev cX7_ofShelf : ByteArray := prog_1_method_24_code
def yX7_ofShelf : MethodName := ⟨RX7, "ofShelf", "(II)I"⟩
abbrev cX7_many : ByteArray := prog_1_method_25_code
def yX7_many : MethodName := ⟨RX7, "many", "(I)I"⟩
abbrev cX7_wouldCone : ByteArray := prog_1_method_26_code
def yX7_wouldCone : MethodName := ⟨RX7, "wouldCone", "(II)I"⟩
abbrev cX7_wouldEnd : ByteArray := prog_1_method_27_code
def yX7_wouldEnd : MethodName := ⟨RX7, "wouldEnd", "()I"⟩
abbrev cX7_best : ByteArray := prog_1_method_28_code
def yX7_best : MethodName := ⟨RX7, "best", "(II)I"⟩
abbrev cX7_wouldHold : ByteArray := prog_1_method_29_code
def yX7_wouldHold : MethodName := ⟨RX7, "wouldHold", "(I)I"⟩
abbrev cX7_digest : ByteArray := prog_1_method_30_code
def yX7_digest : MethodName := ⟨RX7, "digest", "()J"⟩
abbrev cX7_withPot : ByteArray := prog_1_method_31_code
def yX7_withPot : MethodName := ⟨RX7, "withPot", "(JI)J"⟩
abbrev cX7_withShelf : ByteArray := prog_1_method_32_code
def yX7_withShelf : MethodName := ⟨RX7, "withShelf", "(JI)J"⟩
abbrev cX7_isWithin : ByteArray := prog_1_method_33_code
def yX7_isWithin : MethodName := ⟨RX7, "isWithin", "(III)Z"⟩
abbrev cX7_isPart : ByteArray := prog_1_method_34_code
def yX7_isPart : MethodName := ⟨RX7, "isPart", "(I)Z"⟩
abbrev cX7_testShelf : ByteArray := prog_1_method_35_code
def yX7_testShelf : MethodName := ⟨RX7, "testShelf", "(I)V"⟩
abbrev cX7_testSteps : ByteArray := prog_1_method_36_code
def yX7_testSteps : MethodName := ⟨RX7, "testSteps", "(I)V"⟩
abbrev cX7_clayAt : ByteArray := prog_1_method_37_code
def yX7_clayAt : MethodName := ⟨RX7, "clayAt", "(I)LKilnYard$Clay;"⟩
abbrev cX7_glazeAt : ByteArray := prog_1_method_38_code
def yX7_glazeAt : MethodName := ⟨RX7, "glazeAt", "(I)LKilnYard$Glaze;"⟩
abbrev cX7_potAt : ByteArray := prog_1_method_39_code
def yX7_potAt : MethodName := ⟨RX7, "potAt", "(I)LKilnYard$Pot;"⟩
abbrev cX7_orderAt : ByteArray := prog_1_method_40_code
def yX7_orderAt : MethodName := ⟨RX7, "orderAt", "(I)LKilnYard$Order;"⟩
abbrev cX7_dryOneDay : ByteArray := prog_1_method_41_code
def yX7_dryOneDay : MethodName := ⟨RX7, "dryOneDay", "(I)V"⟩
abbrev cX7_heatPots : ByteArray := prog_1_method_42_code
def yX7_heatPots : MethodName := ⟨RX7, "heatPots", "()V"⟩
abbrev cX7_potsInState : ByteArray := prog_1_method_43_code
def yX7_potsInState : MethodName := ⟨RX7, "potsInState", "(I)I"⟩
abbrev cX7_potsOn : ByteArray := prog_1_method_44_code
def yX7_potsOn : MethodName := ⟨RX7, "potsOn", "(I)I"⟩
abbrev cX7_openOrders : ByteArray := prog_1_method_45_code
def yX7_openOrders : MethodName := ⟨RX7, "openOrders", "()I"⟩
abbrev cX7_heightOf : ByteArray := prog_1_method_46_code
def yX7_heightOf : MethodName := ⟨RX7, "heightOf", "(I)I"⟩
abbrev cX7_cellsFrom : ByteArray := prog_1_method_47_code
def yX7_cellsFrom : MethodName := ⟨RX7, "cellsFrom", "(II)I"⟩
abbrev cX7_takenCells : ByteArray := prog_1_method_48_code
def yX7_takenCells : MethodName := ⟨RX7, "takenCells", "(I)I"⟩
abbrev cX7_freeCells : ByteArray := prog_1_method_49_code
def yX7_freeCells : MethodName := ⟨RX7, "freeCells", "(I)I"⟩
abbrev cX7_longestFreeRow : ByteArray := prog_1_method_50_code
def yX7_longestFreeRow : MethodName := ⟨RX7, "longestFreeRow", "(I)I"⟩
abbrev cX7_sumsOfWidths : ByteArray := prog_1_method_51_code
def yX7_sumsOfWidths : MethodName := ⟨RX7, "sumsOfWidths", "(I)I"⟩
def RX8 : String := "KilnYardModel$Kiln"
def TX8 : u_T := fun k => match k with
  | 0 => ("KilnYardModel$Kiln", "ramps", "Ljava/util/ArrayList;", true)
  | 1 => ("KilnYardModel$Kiln", "heat", "D", false)
  | 2 => ("KilnYardModel$Kiln", "power", "F", false)
  | 3 => ("KilnYardModel$Kiln", "isDoor", "Z", false)
  | 4 => ("KilnYardModel$Kiln", "isLit", "Z", false)
  | 5 => ("KilnYardModel$Kiln", "ramp", "I", false)
  | 6 => ("KilnYardModel$Kiln", "held", "I", false)
  | 7 => ("KilnYardModel$Kiln", "clock", "I", false)
  | 8 => ("KilnYardModel$Kiln", "fuel", "I", false)
  | 9 => ("KilnYardModel$Kiln", "stalls", "I", false)
  | _ => ("KilnYardModel$Kiln", "work", "[D", true)
def tyX8 : Nat → FieldType := fun k => match k with
  | 0 => .object "java/util/ArrayList"
  | 1 => .double
  | 2 => .float
  | 3 => .boolean
  | 4 => .boolean
  | 5 => .int
  | 6 => .int
  | 7 => .int
  | 8 => .int
  | 9 => .int
  | _ => .array .double
theorem nmX8 : ∀ a, a < 11 → ∀ b, b < 11 → a ≠ b → (TX8 a).2.1 ≠ (TX8 b).2.1 := by decide +kernel
theorem tyX8_ok : ∀ k, k < 11 → parseFieldDescriptor (TX8 k).2.2.1 = some (tyX8 k) := by decide +kernel
abbrev cX8_init : ByteArray := prog_11_method_1_code
def yX8_init : MethodName := ⟨RX8, "<init>", "()V"⟩
abbrev cX8_copy : ByteArray := prog_11_method_2_code
def yX8_copy : MethodName := ⟨RX8, "copy", "()LKilnYardModel$Kiln;"⟩
abbrev cX8_gives : ByteArray := prog_11_method_3_code
def yX8_gives : MethodName := ⟨RX8, "gives", "()D"⟩
abbrev cX8_step : ByteArray := prog_11_method_4_code
def yX8_step : MethodName := ⟨RX8, "step", "()V"⟩
abbrev cX8_lit : ByteArray := prog_11_method_5_code
def yX8_lit : MethodName := ⟨RX8, "lit", "(II)V"⟩
abbrev cX8_cone : ByteArray := prog_11_method_6_code
def yX8_cone : MethodName := ⟨RX8, "cone", "(I)I"⟩
def RX9 : String := "KilnYardModel$Pot"
def TX9 : u_T := fun k => match k with
  | 0 => ("KilnYardModel$Pot", "clay", "I", true)
  | 1 => ("KilnYardModel$Pot", "width", "I", true)
  | 2 => ("KilnYardModel$Pot", "height", "I", true)
  | 3 => ("KilnYardModel$Pot", "wall", "I", true)
  | 4 => ("KilnYardModel$Pot", "glaze", "I", false)
  | 5 => ("KilnYardModel$Pot", "state", "I", false)
  | 6 => ("KilnYardModel$Pot", "water", "F", false)
  | 7 => ("KilnYardModel$Pot", "isCovered", "Z", false)
  | 8 => ("KilnYardModel$Pot", "marks", "I", false)
  | 9 => ("KilnYardModel$Pot", "shelf", "I", false)
  | 10 => ("KilnYardModel$Pot", "cell", "I", false)
  | _ => ("KilnYardModel$Pot", "smoke", "I", false)
def tyX9 : Nat → FieldType := fun k => match k with
  | 0 => .int
  | 1 => .int
  | 2 => .int
  | 3 => .int
  | 4 => .int
  | 5 => .int
  | 6 => .float
  | 7 => .boolean
  | 8 => .int
  | 9 => .int
  | 10 => .int
  | _ => .int
theorem nmX9 : ∀ a, a < 12 → ∀ b, b < 12 → a ≠ b → (TX9 a).2.1 ≠ (TX9 b).2.1 := by decide +kernel
theorem tyX9_ok : ∀ k, k < 12 → parseFieldDescriptor (TX9 k).2.2.1 = some (tyX9 k) := by decide +kernel
abbrev cX9_init : ByteArray := prog_12_method_1_code
def yX9_init : MethodName := ⟨RX9, "<init>", "(IIII)V"⟩
abbrev cX9_day : ByteArray := prog_12_method_2_code
def yX9_day : MethodName := ⟨RX9, "day", "(I)V"⟩
abbrev cX9_fail : ByteArray := prog_12_method_3_code
def yX9_fail : MethodName := ⟨RX9, "fail", "(I)V"⟩
abbrev cX9_burn : ByteArray := prog_12_method_4_code
def yX9_burn : MethodName := ⟨RX9, "burn", "(DDI)V"⟩
def RX10 : String := "KilnYardModel"
def TX10 : u_T := fun k => match k with
  | 0 => ("KilnYardModel", "thrown", "I", false)
  | 1 => ("KilnYardModel", "clays", "Ljava/util/ArrayList;", true)
  | 2 => ("KilnYardModel", "glazes", "Ljava/util/ArrayList;", true)
  | 3 => ("KilnYardModel", "pots", "Ljava/util/ArrayList;", true)
  | 4 => ("KilnYardModel", "orders", "Ljava/util/ArrayList;", true)
  | 5 => ("KilnYardModel", "kiln", "LKilnYardModel$Kiln;", true)
  | 6 => ("KilnYardModel", "day", "I", false)
  | 7 => ("KilnYardModel", "damper", "I", false)
  | 8 => ("KilnYardModel", "purse", "I", false)
  | _ => ("KilnYardModel", "refused", "I", false)
def tyX10 : Nat → FieldType := fun k => match k with
  | 0 => .int
  | 1 => .object "java/util/ArrayList"
  | 2 => .object "java/util/ArrayList"
  | 3 => .object "java/util/ArrayList"
  | 4 => .object "java/util/ArrayList"
  | 5 => .object "KilnYardModel$Kiln"
  | 6 => .int
  | 7 => .int
  | 8 => .int
  | _ => .int
theorem nmX10 : ∀ a, a < 10 → ∀ b, b < 10 → a ≠ b → (TX10 a).2.1 ≠ (TX10 b).2.1 := by decide +kernel
theorem tyX10_ok : ∀ k, k < 10 → parseFieldDescriptor (TX10 k).2.2.1 = some (tyX10 k) := by decide +kernel
abbrev cX10_isIn : ByteArray := prog_10_method_1_code
def yX10_isIn : MethodName := ⟨RX10, "isIn", "(III)Z"⟩
abbrev cX10_one : ByteArray := prog_10_method_2_code
def yX10_one : MethodName := ⟨RX10, "one", "(Z)I"⟩
abbrev cX10_init : ByteArray := prog_10_method_3_code
def yX10_init : MethodName := ⟨RX10, "<init>", "()V"⟩
abbrev cX10_thrown : ByteArray := prog_10_method_4_code
def yX10_thrown : MethodName := ⟨RX10, "thrown", "()I"⟩
abbrev cX10_refuse : ByteArray := prog_10_method_5_code
def yX10_refuse : MethodName := ⟨RX10, "refuse", "(ZI)Z"⟩
abbrev cX10_start : ByteArray := prog_10_method_6_code
def yX10_start : MethodName := ⟨RX10, "start", "(ZI)Z"⟩
abbrev cX10_isNoClay : ByteArray := prog_10_method_7_code
def yX10_isNoClay : MethodName := ⟨RX10, "isNoClay", "(I)Z"⟩
abbrev cX10_isNoGlaze : ByteArray := prog_10_method_8_code
def yX10_isNoGlaze : MethodName := ⟨RX10, "isNoGlaze", "(I)Z"⟩
abbrev cX10_isNoPot : ByteArray := prog_10_method_9_code
def yX10_isNoPot : MethodName := ⟨RX10, "isNoPot", "(I)Z"⟩
abbrev cX10_isNoShelf : ByteArray := prog_10_method_10_code
def yX10_isNoShelf : MethodName := ⟨RX10, "isNoShelf", "(I)Z"⟩
abbrev cX10_isHot : ByteArray := prog_10_method_11_code
def yX10_isHot : MethodName := ⟨RX10, "isHot", "()Z"⟩
abbrev cX10_melts : ByteArray := prog_10_method_12_code
def yX10_melts : MethodName := ⟨RX10, "melts", "(I)I"⟩
abbrev cX10_growth : ByteArray := prog_10_method_13_code
def yX10_growth : MethodName := ⟨RX10, "growth", "(I)D"⟩
abbrev cX10_growthOf : ByteArray := prog_10_method_14_code
def yX10_growthOf : MethodName := ⟨RX10, "growthOf", "(I)D"⟩
abbrev cX10_clay : ByteArray := prog_10_method_15_code
def yX10_clay : MethodName := ⟨RX10, "clay", "(II)I"⟩
abbrev cX10_glaze : ByteArray := prog_10_method_16_code
def yX10_glaze : MethodName := ⟨RX10, "glaze", "(IIIII)I"⟩
abbrev cX10_pot : ByteArray := prog_10_method_17_code
def yX10_pot : MethodName := ⟨RX10, "pot", "(IIII)I"⟩
abbrev cX10_cover : ByteArray := prog_10_method_18_code
def yX10_cover : MethodName := ⟨RX10, "cover", "(IZ)Z"⟩
abbrev cX10_manyIn : ByteArray := prog_10_method_19_code
def yX10_manyIn : MethodName := ⟨RX10, "manyIn", "(I)I"⟩
abbrev cX10_dry : ByteArray := prog_10_method_20_code
def yX10_dry : MethodName := ⟨RX10, "dry", "(II)I"⟩
abbrev cX10_dip : ByteArray := prog_10_method_21_code
def yX10_dip : MethodName := ⟨RX10, "dip", "(II)I"⟩
abbrev cX10_isTaken : ByteArray := prog_10_method_22_code
def yX10_isTaken : MethodName := ⟨RX10, "isTaken", "(II)Z"⟩
abbrev cX10_free : ByteArray := prog_10_method_23_code
def yX10_free : MethodName := ⟨RX10, "free", "(I)I"⟩
abbrev cX10_row : ByteArray := prog_10_method_24_code
def yX10_row : MethodName := ⟨RX10, "row", "(I)I"⟩
abbrev cX10_high : ByteArray := prog_10_method_25_code
def yX10_high : MethodName := ⟨RX10, "high", "(I)I"⟩
abbrev cX10_set : ByteArray := prog_10_method_26_code
def yX10_set : MethodName := ⟨RX10, "set", "(III)I"⟩
abbrev cX10_leave : ByteArray := prog_10_method_27_code
def yX10_leave : MethodName := ⟨RX10, "leave", "(LKilnYardModel$Pot;)V"⟩
abbrev cX10_take : ByteArray := prog_10_method_28_code
def yX10_take : MethodName := ⟨RX10, "take", "(I)I"⟩
abbrev cX10_ramp : ByteArray := prog_10_method_29_code
def yX10_ramp : MethodName := ⟨RX10, "ramp", "(III)I"⟩
abbrev cX10_forget : ByteArray := prog_10_method_30_code
def yX10_forget : MethodName := ⟨RX10, "forget", "()I"⟩
abbrev cX10_placed : ByteArray := prog_10_method_31_code
def yX10_placed : MethodName := ⟨RX10, "placed", "(I)I"⟩
abbrev cX10_light : ByteArray := prog_10_method_32_code
def yX10_light : MethodName := ⟨RX10, "light", "()I"⟩
abbrev cX10_burn : ByteArray := prog_10_method_33_code
def yX10_burn : MethodName := ⟨RX10, "burn", "(I)Z"⟩
abbrev cX10_damper : ByteArray := prog_10_method_34_code
def yX10_damper : MethodName := ⟨RX10, "damper", "(I)I"⟩
abbrev cX10_door : ByteArray := prog_10_method_35_code
def yX10_door : MethodName := ⟨RX10, "door", "(Z)Z"⟩
abbrev cX10_bell : ByteArray := prog_10_method_36_code
def yX10_bell : MethodName := ⟨RX10, "bell", "()I"⟩
abbrev cX10_finish : ByteArray := prog_10_method_37_code
def yX10_finish : MethodName := ⟨RX10, "finish", "(LKilnYardModel$Pot;I)V"⟩
abbrev cX10_unload : ByteArray := prog_10_method_38_code
def yX10_unload : MethodName := ⟨RX10, "unload", "()I"⟩
abbrev cX10_order : ByteArray := prog_10_method_39_code
def yX10_order : MethodName := ⟨RX10, "order", "(IIII)I"⟩
abbrev cX10_colour : ByteArray := prog_10_method_40_code
def yX10_colour : MethodName := ⟨RX10, "colour", "(LKilnYardModel$Pot;)I"⟩
abbrev cX10_meet : ByteArray := prog_10_method_41_code
def yX10_meet : MethodName := ⟨RX10, "meet", "(II)I"⟩
abbrev cX10_toldOfPot : ByteArray := prog_10_method_42_code
def yX10_toldOfPot : MethodName := ⟨RX10, "toldOfPot", "(II)I"⟩
abbrev cX10_ofPot : ByteArray := prog_10_method_43_code
def yX10_ofPot : MethodName := ⟨RX10, "ofPot", "(II)I"⟩
abbrev cX10_water : ByteArray := prog_10_method_44_code
def yX10_water : MethodName := ⟨RX10, "water", "(I)D"⟩
abbrev cX10_toldOfGlaze : ByteArray := prog_10_method_45_code
def yX10_toldOfGlaze : MethodName := ⟨RX10, "toldOfGlaze", "(II)D"⟩
abbrev cX10_ofGlaze : ByteArray := prog_10_method_46_code
def yX10_ofGlaze : MethodName := ⟨RX10, "ofGlaze", "(II)D"⟩
abbrev cX10_kiln : ByteArray := prog_10_method_47_code
def yX10_kiln : MethodName := ⟨RX10, "kiln", "(I)D"⟩
abbrev cX10_toldOfShelf : ByteArray := prog_10_method_48_code
def yX10_toldOfShelf : MethodName := ⟨RX10, "toldOfShelf", "(II)I"⟩
abbrev cX10_ofShelf : ByteArray := prog_10_method_49_code
def yX10_ofShelf : MethodName := ⟨RX10, "ofShelf", "(II)I"⟩
abbrev cX10_count : ByteArray := prog_10_method_50_code
def yX10_count : MethodName := ⟨RX10, "count", "(I)I"⟩
abbrev cX10_many : ByteArray := prog_10_method_51_code
def yX10_many : MethodName := ⟨RX10, "many", "(I)I"⟩
abbrev cX10_coneBy : ByteArray := prog_10_method_52_code
def yX10_coneBy : MethodName := ⟨RX10, "coneBy", "(II)I"⟩
abbrev cX10_wouldCone : ByteArray := prog_10_method_53_code
def yX10_wouldCone : MethodName := ⟨RX10, "wouldCone", "(II)I"⟩
abbrev cX10_ending : ByteArray := prog_10_method_54_code
def yX10_ending : MethodName := ⟨RX10, "ending", "()I"⟩
abbrev cX10_wouldEnd : ByteArray := prog_10_method_55_code
def yX10_wouldEnd : MethodName := ⟨RX10, "wouldEnd", "()I"⟩
abbrev cX10_best : ByteArray := prog_10_method_56_code
def yX10_best : MethodName := ⟨RX10, "best", "(II)I"⟩
abbrev cX10_holding : ByteArray := prog_10_method_57_code
def yX10_holding : MethodName := ⟨RX10, "holding", "(I)I"⟩
abbrev cX10_wouldHold : ByteArray := prog_10_method_58_code
def yX10_wouldHold : MethodName := ⟨RX10, "wouldHold", "(I)I"⟩
abbrev cX10_add : ByteArray := prog_10_method_59_code
def yX10_add : MethodName := ⟨RX10, "add", "(JJ)J"⟩
abbrev cX10_digest : ByteArray := prog_10_method_60_code
def yX10_digest : MethodName := ⟨RX10, "digest", "()J"⟩
def RJx145de : String := "java/io/Serializable"
def TJx145de : u_T := fun k => match k with
  | _ => ("", "", "", false)
def tyJx145de : Nat → FieldType := fun k => match k with
  | _ => .int
theorem nmJx145de : ∀ a, a < 0 → ∀ b, b < 0 → a ≠ b → (TJx145de a).2.1 ≠ (TJx145de b).2.1 := by decide +kernel
theorem tyJx145de_ok : ∀ k, k < 0 → parseFieldDescriptor (TJx145de k).2.2.1 = some (tyJx145de k) := by decide +kernel
def RJx8e188 : String := "java/lang/Cloneable"
def TJx8e188 : u_T := fun k => match k with
  | _ => ("", "", "", false)
def tyJx8e188 : Nat → FieldType := fun k => match k with
  | _ => .int
theorem nmJx8e188 : ∀ a, a < 0 → ∀ b, b < 0 → a ≠ b → (TJx8e188 a).2.1 ≠ (TJx8e188 b).2.1 := by decide +kernel
theorem tyJx8e188_ok : ∀ k, k < 0 → parseFieldDescriptor (TJx8e188 k).2.2.1 = some (tyJx8e188 k) := by decide +kernel
def RJxb160c : String := "java/lang/Comparable"
def TJxb160c : u_T := fun k => match k with
  | _ => ("", "", "", false)
def tyJxb160c : Nat → FieldType := fun k => match k with
  | _ => .int
theorem nmJxb160c : ∀ a, a < 0 → ∀ b, b < 0 → a ≠ b → (TJxb160c a).2.1 ≠ (TJxb160c b).2.1 := by decide +kernel
theorem tyJxb160c_ok : ∀ k, k < 0 → parseFieldDescriptor (TJxb160c k).2.2.1 = some (tyJxb160c k) := by decide +kernel
def RJxe99ae : String := "java/lang/Double"
def TJxe99ae : u_T := fun k => match k with
  | _ => ("", "", "", false)
def tyJxe99ae : Nat → FieldType := fun k => match k with
  | _ => .int
theorem nmJxe99ae : ∀ a, a < 0 → ∀ b, b < 0 → a ≠ b → (TJxe99ae a).2.1 ≠ (TJxe99ae b).2.1 := by decide +kernel
theorem tyJxe99ae_ok : ∀ k, k < 0 → parseFieldDescriptor (TJxe99ae k).2.2.1 = some (tyJxe99ae k) := by decide +kernel
def RJxf58ca : String := "java/lang/Float"
def TJxf58ca : u_T := fun k => match k with
  | _ => ("", "", "", false)
def tyJxf58ca : Nat → FieldType := fun k => match k with
  | _ => .int
theorem nmJxf58ca : ∀ a, a < 0 → ∀ b, b < 0 → a ≠ b → (TJxf58ca a).2.1 ≠ (TJxf58ca b).2.1 := by decide +kernel
theorem tyJxf58ca_ok : ∀ k, k < 0 → parseFieldDescriptor (TJxf58ca k).2.2.1 = some (tyJxf58ca k) := by decide +kernel
def RJ6 : String := "java/lang/Integer"
def TJ6 : u_T := fun k => match k with
  | _ => ("", "", "", false)
def tyJ6 : Nat → FieldType := fun k => match k with
  | _ => .int
theorem nmJ6 : ∀ a, a < 0 → ∀ b, b < 0 → a ≠ b → (TJ6 a).2.1 ≠ (TJ6 b).2.1 := by decide +kernel
theorem tyJ6_ok : ∀ k, k < 0 → parseFieldDescriptor (TJ6 k).2.2.1 = some (tyJ6 k) := by decide +kernel
abbrev cJ6_bitCount_0f7a4 : ByteArray := prog_22_method_49_code
def yJ6_bitCount_0f7a4 : MethodName := ⟨RJ6, "bitCount", "(I)I"⟩
def RJxab1ab : String := "java/lang/Iterable"
def TJxab1ab : u_T := fun k => match k with
  | _ => ("", "", "", false)
def tyJxab1ab : Nat → FieldType := fun k => match k with
  | _ => .int
theorem nmJxab1ab : ∀ a, a < 0 → ∀ b, b < 0 → a ≠ b → (TJxab1ab a).2.1 ≠ (TJxab1ab b).2.1 := by decide +kernel
theorem tyJxab1ab_ok : ∀ k, k < 0 → parseFieldDescriptor (TJxab1ab k).2.2.1 = some (tyJxab1ab k) := by decide +kernel
def RJ9 : String := "java/lang/Math"
def TJ9 : u_T := fun k => match k with
  | _ => ("", "", "", false)
def tyJ9 : Nat → FieldType := fun k => match k with
  | _ => .int
theorem nmJ9 : ∀ a, a < 0 → ∀ b, b < 0 → a ≠ b → (TJ9 a).2.1 ≠ (TJ9 b).2.1 := by decide +kernel
theorem tyJ9_ok : ∀ k, k < 0 → parseFieldDescriptor (TJ9 k).2.2.1 = some (tyJ9 k) := by decide +kernel
abbrev cJ9_rint_294c1 : ByteArray := prog_24_method_18_code
def yJ9_rint_294c1 : MethodName := ⟨RJ9, "rint", "(D)D"⟩
abbrev cJ9_abs_294c1 : ByteArray := prog_24_method_64_code
def yJ9_abs_294c1 : MethodName := ⟨RJ9, "abs", "(D)D"⟩
abbrev cJ9_max_7cf53 : ByteArray := prog_24_method_65_code
def yJ9_max_7cf53 : MethodName := ⟨RJ9, "max", "(II)I"⟩
abbrev cJ9_max_eb370 : ByteArray := prog_24_method_68_code
def yJ9_max_eb370 : MethodName := ⟨RJ9, "max", "(DD)D"⟩
abbrev cJ9_min_7cf53 : ByteArray := prog_24_method_69_code
def yJ9_min_7cf53 : MethodName := ⟨RJ9, "min", "(II)I"⟩
abbrev cJ9_min_e70c8 : ByteArray := prog_24_method_71_code
def yJ9_min_e70c8 : MethodName := ⟨RJ9, "min", "(FF)F"⟩
abbrev cJ9_min_eb370 : ByteArray := prog_24_method_72_code
def yJ9_min_eb370 : MethodName := ⟨RJ9, "min", "(DD)D"⟩
abbrev cJ9_copySign_eb370 : ByteArray := prog_24_method_89_code
def yJ9_copySign_eb370 : MethodName := ⟨RJ9, "copySign", "(DD)D"⟩
def RJxd2413 : String := "java/lang/Number"
def TJxd2413 : u_T := fun k => match k with
  | _ => ("", "", "", false)
def tyJxd2413 : Nat → FieldType := fun k => match k with
  | _ => .int
theorem nmJxd2413 : ∀ a, a < 0 → ∀ b, b < 0 → a ≠ b → (TJxd2413 a).2.1 ≠ (TJxd2413 b).2.1 := by decide +kernel
theorem tyJxd2413_ok : ∀ k, k < 0 → parseFieldDescriptor (TJxd2413 k).2.2.1 = some (tyJxd2413 k) := by decide +kernel
def RJxfc994 : String := "java/lang/StrictMath"
def TJxfc994 : u_T := fun k => match k with
  | _ => ("", "", "", false)
def tyJxfc994 : Nat → FieldType := fun k => match k with
  | _ => .int
theorem nmJxfc994 : ∀ a, a < 0 → ∀ b, b < 0 → a ≠ b → (TJxfc994 a).2.1 ≠ (TJxfc994 b).2.1 := by decide +kernel
theorem tyJxfc994_ok : ∀ k, k < 0 → parseFieldDescriptor (TJxfc994 k).2.2.1 = some (tyJxfc994 k) := by decide +kernel
abbrev cJxfc994_rint_294c1 : ByteArray := prog_27_method_19_code
def yJxfc994_rint_294c1 : MethodName := ⟨RJxfc994, "rint", "(D)D"⟩
def RJ0 : String := "java/lang/String"
def TJ0 : u_T := fun k => match k with
  | _ => ("", "", "", false)
def tyJ0 : Nat → FieldType := fun k => match k with
  | _ => .int
theorem nmJ0 : ∀ a, a < 0 → ∀ b, b < 0 → a ≠ b → (TJ0 a).2.1 ≠ (TJ0 b).2.1 := by decide +kernel
theorem tyJ0_ok : ∀ k, k < 0 → parseFieldDescriptor (TJ0 k).2.2.1 = some (tyJ0 k) := by decide +kernel
def RJ10 : String := "java/lang/System"
def TJ10 : u_T := fun k => match k with
  | _ => ("", "", "", false)
def tyJ10 : Nat → FieldType := fun k => match k with
  | _ => .int
theorem nmJ10 : ∀ a, a < 0 → ∀ b, b < 0 → a ≠ b → (TJ10 a).2.1 ≠ (TJ10 b).2.1 := by decide +kernel
theorem tyJ10_ok : ∀ k, k < 0 → parseFieldDescriptor (TJ10 k).2.2.1 = some (tyJ10 k) := by decide +kernel
def RJxfd54e : String := "java/lang/constant/Constable"
def TJxfd54e : u_T := fun k => match k with
  | _ => ("", "", "", false)
def tyJxfd54e : Nat → FieldType := fun k => match k with
  | _ => .int
theorem nmJxfd54e : ∀ a, a < 0 → ∀ b, b < 0 → a ≠ b → (TJxfd54e a).2.1 ≠ (TJxfd54e b).2.1 := by decide +kernel
theorem tyJxfd54e_ok : ∀ k, k < 0 → parseFieldDescriptor (TJxfd54e k).2.2.1 = some (tyJxfd54e k) := by decide +kernel
def RJx3cf43 : String := "java/lang/constant/ConstantDesc"
def TJx3cf43 : u_T := fun k => match k with
  | _ => ("", "", "", false)
def tyJx3cf43 : Nat → FieldType := fun k => match k with
  | _ => .int
theorem nmJx3cf43 : ∀ a, a < 0 → ∀ b, b < 0 → a ≠ b → (TJx3cf43 a).2.1 ≠ (TJx3cf43 b).2.1 := by decide +kernel
theorem tyJx3cf43_ok : ∀ k, k < 0 → parseFieldDescriptor (TJx3cf43 k).2.2.1 = some (tyJx3cf43 k) := by decide +kernel
def RJxa1e45 : String := "java/util/AbstractCollection"
def TJxa1e45 : u_T := fun k => match k with
  | _ => ("", "", "", false)
def tyJxa1e45 : Nat → FieldType := fun k => match k with
  | _ => .int
theorem nmJxa1e45 : ∀ a, a < 0 → ∀ b, b < 0 → a ≠ b → (TJxa1e45 a).2.1 ≠ (TJxa1e45 b).2.1 := by decide +kernel
theorem tyJxa1e45_ok : ∀ k, k < 0 → parseFieldDescriptor (TJxa1e45 k).2.2.1 = some (tyJxa1e45 k) := by decide +kernel
abbrev cJxa1e45_init_da8c8 : ByteArray := prog_33_method_1_code
def yJxa1e45_init_da8c8 : MethodName := ⟨RJxa1e45, "<init>", "()V"⟩
def RJxc12de : String := "java/util/AbstractList"
def TJxc12de : u_T := fun k => match k with
  | _ => ("", "", "", false)
def tyJxc12de : Nat → FieldType := fun k => match k with
  | _ => .int
theorem nmJxc12de : ∀ a, a < 0 → ∀ b, b < 0 → a ≠ b → (TJxc12de a).2.1 ≠ (TJxc12de b).2.1 := by decide +kernel
theorem tyJxc12de_ok : ∀ k, k < 0 → parseFieldDescriptor (TJxc12de k).2.2.1 = some (tyJxc12de k) := by decide +kernel
abbrev cJxc12de_init_da8c8 : ByteArray := prog_34_method_1_code
def yJxc12de_init_da8c8 : MethodName := ⟨RJxc12de, "<init>", "()V"⟩
def RJx35411 : String := "java/util/ArrayList$Itr"
def TJx35411 : u_T := fun k => match k with
  | 0 => ("java/util/ArrayList$Itr", "cursor", "I", false)
  | 1 => ("java/util/ArrayList$Itr", "lastRet", "I", false)
  | 2 => ("java/util/ArrayList$Itr", "expectedModCount", "I", false)
  | _ => ("java/util/ArrayList$Itr", "this$0", "Ljava/util/ArrayList;", true)
def tyJx35411 : Nat → FieldType := fun k => match k with
  | 0 => .int
  | 1 => .int
  | 2 => .int
  | _ => .object "java/util/ArrayList"
theorem nmJx35411 : ∀ a, a < 4 → ∀ b, b < 4 → a ≠ b → (TJx35411 a).2.1 ≠ (TJx35411 b).2.1 := by decide +kernel
theorem tyJx35411_ok : ∀ k, k < 4 → parseFieldDescriptor (TJx35411 k).2.2.1 = some (tyJx35411 k) := by decide +kernel
abbrev cJx35411_init_45d68 : ByteArray := prog_36_method_1_code
def yJx35411_init_45d68 : MethodName := ⟨RJx35411, "<init>", "(Ljava/util/ArrayList;)V"⟩
abbrev cJx35411_hasNext_aae02 : ByteArray := prog_36_method_2_code
def yJx35411_hasNext_aae02 : MethodName := ⟨RJx35411, "hasNext", "()Z"⟩
abbrev cJx35411_next_0502b : ByteArray := prog_36_method_3_code
def yJx35411_next_0502b : MethodName := ⟨RJx35411, "next", "()Ljava/lang/Object;"⟩
abbrev cJx35411_checkForComodification_da8c8 : ByteArray := prog_36_method_6_code
def yJx35411_checkForComodification_da8c8 : MethodName := ⟨RJx35411, "checkForComodification", "()V"⟩
def RJx4a65c : String := "java/util/ArrayList"
def TJx4a65c : u_T := fun k => match k with
  | 0 => ("java/util/AbstractList", "modCount", "I", false)
  | 1 => ("java/util/ArrayList", "elementData", "[Ljava/lang/Object;", false)
  | _ => ("java/util/ArrayList", "size", "I", false)
def tyJx4a65c : Nat → FieldType := fun k => match k with
  | 0 => .int
  | 1 => .array (.object "java/lang/Object")
  | _ => .int
theorem nmJx4a65c : ∀ a, a < 3 → ∀ b, b < 3 → a ≠ b → (TJx4a65c a).2.1 ≠ (TJx4a65c b).2.1 := by decide +kernel
theorem tyJx4a65c_ok : ∀ k, k < 3 → parseFieldDescriptor (TJx4a65c k).2.2.1 = some (tyJx4a65c k) := by decide +kernel
abbrev cJx4a65c_init_da8c8 : ByteArray := prog_35_method_2_code
def yJx4a65c_init_da8c8 : MethodName := ⟨RJx4a65c, "<init>", "()V"⟩
abbrev cJx4a65c_grow_92f84 : ByteArray := prog_35_method_6_code
def yJx4a65c_grow_92f84 : MethodName := ⟨RJx4a65c, "grow", "(I)[Ljava/lang/Object;"⟩
abbrev cJx4a65c_grow_d5877 : ByteArray := prog_35_method_7_code
def yJx4a65c_grow_d5877 : MethodName := ⟨RJx4a65c, "grow", "()[Ljava/lang/Object;"⟩
abbrev cJx4a65c_size_8abf5 : ByteArray := prog_35_method_8_code
def yJx4a65c_size_8abf5 : MethodName := ⟨RJx4a65c, "size", "()I"⟩
abbrev cJx4a65c_isEmpty_aae02 : ByteArray := prog_35_method_9_code
def yJx4a65c_isEmpty_aae02 : MethodName := ⟨RJx4a65c, "isEmpty", "()Z"⟩
abbrev cJx4a65c_toArray_d5877 : ByteArray := prog_35_method_16_code
def yJx4a65c_toArray_d5877 : MethodName := ⟨RJx4a65c, "toArray", "()[Ljava/lang/Object;"⟩
abbrev cJx4a65c_elementData_915e3 : ByteArray := prog_35_method_18_code
def yJx4a65c_elementData_915e3 : MethodName := ⟨RJx4a65c, "elementData", "(I)Ljava/lang/Object;"⟩
abbrev cJx4a65c_get_915e3 : ByteArray := prog_35_method_20_code
def yJx4a65c_get_915e3 : MethodName := ⟨RJx4a65c, "get", "(I)Ljava/lang/Object;"⟩
abbrev cJx4a65c_add_72be8 : ByteArray := prog_35_method_24_code
def yJx4a65c_add_72be8 : MethodName := ⟨RJx4a65c, "add", "(Ljava/lang/Object;[Ljava/lang/Object;I)V"⟩
abbrev cJx4a65c_add_9ea2d : ByteArray := prog_35_method_25_code
def yJx4a65c_add_9ea2d : MethodName := ⟨RJx4a65c, "add", "(Ljava/lang/Object;)Z"⟩
abbrev cJx4a65c_clear_da8c8 : ByteArray := prog_35_method_40_code
def yJx4a65c_clear_da8c8 : MethodName := ⟨RJx4a65c, "clear", "()V"⟩
abbrev cJx4a65c_addAll_f0b43 : ByteArray := prog_35_method_41_code
def yJx4a65c_addAll_f0b43 : MethodName := ⟨RJx4a65c, "addAll", "(Ljava/util/Collection;)Z"⟩
abbrev cJx4a65c_iterator_32c93 : ByteArray := prog_35_method_55_code
def yJx4a65c_iterator_32c93 : MethodName := ⟨RJx4a65c, "iterator", "()Ljava/util/Iterator;"⟩
def RJ7 : String := "java/util/Arrays"
def TJ7 : u_T := fun k => match k with
  | _ => ("", "", "", false)
def tyJ7 : Nat → FieldType := fun k => match k with
  | _ => .int
theorem nmJ7 : ∀ a, a < 0 → ∀ b, b < 0 → a ≠ b → (TJ7 a).2.1 ≠ (TJ7 b).2.1 := by decide +kernel
theorem tyJ7_ok : ∀ k, k < 0 → parseFieldDescriptor (TJ7 k).2.2.1 = some (tyJ7 k) := by decide +kernel
abbrev cJ7_copyOf_1904c : ByteArray := prog_37_method_119_code
def yJ7_copyOf_1904c : MethodName := ⟨RJ7, "copyOf", "([Ljava/lang/Object;I)[Ljava/lang/Object;"⟩
abbrev cJ7_copyOf_6403c : ByteArray := prog_37_method_120_code
def yJ7_copyOf_6403c : MethodName := ⟨RJ7, "copyOf", "([Ljava/lang/Object;ILjava/lang/Class;)[Ljava/lang/Object;"⟩
def RJx5ef63 : String := "java/util/Collection"
def TJx5ef63 : u_T := fun k => match k with
  | _ => ("", "", "", false)
def tyJx5ef63 : Nat → FieldType := fun k => match k with
  | _ => .int
theorem nmJx5ef63 : ∀ a, a < 0 → ∀ b, b < 0 → a ≠ b → (TJx5ef63 a).2.1 ≠ (TJx5ef63 b).2.1 := by decide +kernel
theorem tyJx5ef63_ok : ∀ k, k < 0 → parseFieldDescriptor (TJx5ef63 k).2.2.1 = some (tyJx5ef63 k) := by decide +kernel
def RJx4d0d8 : String := "java/util/Iterator"
def TJx4d0d8 : u_T := fun k => match k with
  | _ => ("", "", "", false)
def tyJx4d0d8 : Nat → FieldType := fun k => match k with
  | _ => .int
theorem nmJx4d0d8 : ∀ a, a < 0 → ∀ b, b < 0 → a ≠ b → (TJx4d0d8 a).2.1 ≠ (TJx4d0d8 b).2.1 := by decide +kernel
theorem tyJx4d0d8_ok : ∀ k, k < 0 → parseFieldDescriptor (TJx4d0d8 k).2.2.1 = some (tyJx4d0d8 k) := by decide +kernel
def RJxbd725 : String := "java/util/List"
def TJxbd725 : u_T := fun k => match k with
  | _ => ("", "", "", false)
def tyJxbd725 : Nat → FieldType := fun k => match k with
  | _ => .int
theorem nmJxbd725 : ∀ a, a < 0 → ∀ b, b < 0 → a ≠ b → (TJxbd725 a).2.1 ≠ (TJxbd725 b).2.1 := by decide +kernel
theorem tyJxbd725_ok : ∀ k, k < 0 → parseFieldDescriptor (TJxbd725 k).2.2.1 = some (tyJxbd725 k) := by decide +kernel
def RJ15 : String := "java/util/Objects"
def TJ15 : u_T := fun k => match k with
  | _ => ("", "", "", false)
def tyJ15 : Nat → FieldType := fun k => match k with
  | _ => .int
theorem nmJ15 : ∀ a, a < 0 → ∀ b, b < 0 → a ≠ b → (TJ15 a).2.1 ≠ (TJ15 b).2.1 := by decide +kernel
theorem tyJ15_ok : ∀ k, k < 0 → parseFieldDescriptor (TJ15 k).2.2.1 = some (tyJ15 k) := by decide +kernel
abbrev cJ15_checkIndex_7cf53 : ByteArray := prog_41_method_17_code
def yJ15_checkIndex_7cf53 : MethodName := ⟨RJ15, "checkIndex", "(II)I"⟩
def RJxf0a74 : String := "java/util/RandomAccess"
def TJxf0a74 : u_T := fun k => match k with
  | _ => ("", "", "", false)
def tyJxf0a74 : Nat → FieldType := fun k => match k with
  | _ => .int
theorem nmJxf0a74 : ∀ a, a < 0 → ∀ b, b < 0 → a ≠ b → (TJxf0a74 a).2.1 ≠ (TJxf0a74 b).2.1 := by decide +kernel
theorem tyJxf0a74_ok : ∀ k, k < 0 → parseFieldDescriptor (TJxf0a74 k).2.2.1 = some (tyJxf0a74 k) := by decide +kernel
def RJxa66e6 : String := "java/util/SequencedCollection"
def TJxa66e6 : u_T := fun k => match k with
  | _ => ("", "", "", false)
def tyJxa66e6 : Nat → FieldType := fun k => match k with
  | _ => .int
theorem nmJxa66e6 : ∀ a, a < 0 → ∀ b, b < 0 → a ≠ b → (TJxa66e6 a).2.1 ≠ (TJxa66e6 b).2.1 := by decide +kernel
theorem tyJxa66e6_ok : ∀ k, k < 0 → parseFieldDescriptor (TJxa66e6 k).2.2.1 = some (tyJxa66e6 k) := by decide +kernel
def RJ8 : String := "jdk/internal/util/ArraysSupport"
def TJ8 : u_T := fun k => match k with
  | _ => ("", "", "", false)
def tyJ8 : Nat → FieldType := fun k => match k with
  | _ => .int
theorem nmJ8 : ∀ a, a < 0 → ∀ b, b < 0 → a ≠ b → (TJ8 a).2.1 ≠ (TJ8 b).2.1 := by decide +kernel
theorem tyJ8_ok : ∀ k, k < 0 → parseFieldDescriptor (TJ8 k).2.2.1 = some (tyJ8 k) := by decide +kernel
abbrev cJ8_newLength_cabcc : ByteArray := prog_44_method_27_code
def yJ8_newLength_cabcc : MethodName := ⟨RJ8, "newLength", "(III)I"⟩
abbrev cJ8_hugeLength_7cf53 : ByteArray := prog_44_method_28_code
def yJ8_hugeLength_7cf53 : MethodName := ⟨RJ8, "hugeLength", "(II)I"⟩
def RJ3 : String := "jdk/internal/util/Preconditions"
def TJ3 : u_T := fun k => match k with
  | _ => ("", "", "", false)
def tyJ3 : Nat → FieldType := fun k => match k with
  | _ => .int
theorem nmJ3 : ∀ a, a < 0 → ∀ b, b < 0 → a ≠ b → (TJ3 a).2.1 ≠ (TJ3 b).2.1 := by decide +kernel
theorem tyJ3_ok : ∀ k, k < 0 → parseFieldDescriptor (TJ3 k).2.2.1 = some (tyJ3 k) := by decide +kernel
abbrev cJ3_checkIndex_8e157 : ByteArray := prog_45_method_11_code
def yJ3_checkIndex_8e157 : MethodName := ⟨RJ3, "checkIndex", "(IILjava/util/function/BiFunction;)I"⟩
def RL : String := "KilnYardLaw"
abbrev cL_clay : ByteArray := method_3_code
def yL_clay : MethodName := ⟨RL, "clay", "(LKilnYard;II[J)I"⟩
abbrev cL_glaze : ByteArray := method_4_code
def yL_glaze : MethodName := ⟨RL, "glaze", "(LKilnYard;IIIII[J)I"⟩
abbrev cL_pot : ByteArray := method_5_code
def yL_pot : MethodName := ⟨RL, "pot", "(LKilnYard;IIII[J)I"⟩
abbrev cL_cover : ByteArray := method_6_code
def yL_cover : MethodName := ⟨RL, "cover", "(LKilnYard;IZ[J)I"⟩
abbrev cL_dry : ByteArray := method_7_code
def yL_dry : MethodName := ⟨RL, "dry", "(LKilnYard;II[J)I"⟩
abbrev cL_dip : ByteArray := method_8_code
def yL_dip : MethodName := ⟨RL, "dip", "(LKilnYard;II[J)I"⟩
abbrev cL_set : ByteArray := method_9_code
def yL_set : MethodName := ⟨RL, "set", "(LKilnYard;III[J)I"⟩
abbrev cL_take : ByteArray := method_10_code
def yL_take : MethodName := ⟨RL, "take", "(LKilnYard;I[J)I"⟩
abbrev cL_ramp : ByteArray := method_11_code
def yL_ramp : MethodName := ⟨RL, "ramp", "(LKilnYard;III[J)I"⟩
abbrev cL_forget : ByteArray := method_12_code
def yL_forget : MethodName := ⟨RL, "forget", "(LKilnYard;[J)I"⟩
abbrev cL_light : ByteArray := method_13_code
def yL_light : MethodName := ⟨RL, "light", "(LKilnYard;[J)I"⟩
abbrev cL_burn : ByteArray := method_14_code
def yL_burn : MethodName := ⟨RL, "burn", "(LKilnYard;I[J)I"⟩
abbrev cL_damper : ByteArray := method_15_code
def yL_damper : MethodName := ⟨RL, "damper", "(LKilnYard;I[J)I"⟩
abbrev cL_unload : ByteArray := method_16_code
def yL_unload : MethodName := ⟨RL, "unload", "(LKilnYard;[J)I"⟩
abbrev cL_order : ByteArray := method_17_code
def yL_order : MethodName := ⟨RL, "order", "(LKilnYard;IIII[J)I"⟩
abbrev cL_meet : ByteArray := method_18_code
def yL_meet : MethodName := ⟨RL, "meet", "(LKilnYard;II[J)I"⟩
abbrev cL_ofPot : ByteArray := method_19_code
def yL_ofPot : MethodName := ⟨RL, "ofPot", "(LKilnYard;II[J)I"⟩
abbrev cL_water : ByteArray := method_20_code
def yL_water : MethodName := ⟨RL, "water", "(LKilnYard;I[D)I"⟩
abbrev cL_ofGlaze : ByteArray := method_21_code
def yL_ofGlaze : MethodName := ⟨RL, "ofGlaze", "(LKilnYard;II[D)I"⟩
abbrev cL_kiln : ByteArray := method_22_code
def yL_kiln : MethodName := ⟨RL, "kiln", "(LKilnYard;I[D)I"⟩
abbrev cL_ofShelf : ByteArray := method_23_code
def yL_ofShelf : MethodName := ⟨RL, "ofShelf", "(LKilnYard;II[J)I"⟩
abbrev cL_many : ByteArray := method_24_code
def yL_many : MethodName := ⟨RL, "many", "(LKilnYard;I[J)I"⟩
abbrev cL_wouldCone : ByteArray := method_25_code
def yL_wouldCone : MethodName := ⟨RL, "wouldCone", "(LKilnYard;II[J)I"⟩
abbrev cL_best : ByteArray := method_26_code
def yL_best : MethodName := ⟨RL, "best", "(LKilnYard;II[J)I"⟩
abbrev cL_wouldHold : ByteArray := method_27_code
def yL_wouldHold : MethodName := ⟨RL, "wouldHold", "(LKilnYard;I[J)I"⟩
abbrev cL_law : ByteArray := code
def yL_law : MethodName := ⟨RL, "law", "([I)Z"⟩
abbrev vwCl : List vw_C := [(RJx35411, TJx35411, 4), (RJx4a65c, TJx4a65c, 3), (RX0, TX0, 2), (RX1, TX1, 6), (RX2, TX2, 13), (RX3, TX3, 5), (RX4, TX4, 12), (RX5, TX5, 2), (RX6, TX6, 3), (RX7, TX7, 14), (RX8, TX8, 11), (RX9, TX9, 12), (RX10, TX10, 10)]

