def RX0 : String := "LysimeterField$Account"
def TX0 : u_T := fun k => match k with
  | 0 => ("LysimeterField$Account", "given", "LLysimeterField$Solutes;", true)
  | 1 => ("LysimeterField$Account", "out", "LLysimeterField$Solutes;", true)
  | 2 => ("LysimeterField$Account", "told", "J", false)
  | 3 => ("LysimeterField$Account", "rained", "J", false)
  | 4 => ("LysimeterField$Account", "watered", "J", false)
  | 5 => ("LysimeterField$Account", "recharge", "J", false)
  | 6 => ("LysimeterField$Account", "runoff", "J", false)
  | 7 => ("LysimeterField$Account", "lost", "J", false)
  | 8 => ("LysimeterField$Account", "vapour", "J", false)
  | 9 => ("LysimeterField$Account", "eaten", "J", false)
  | _ => ("LysimeterField$Account", "fines", "J", false)
def tyX0 : Nat → FieldType := fun k => match k with
  | 0 => .object "LysimeterField$Solutes"
  | 1 => .object "LysimeterField$Solutes"
  | 2 => .long
  | 3 => .long
  | 4 => .long
  | 5 => .long
  | 6 => .long
  | 7 => .long
  | 8 => .long
  | 9 => .long
  | _ => .long
abbrev wsX00 : List Cond := u_ws RX0 TX0 11
theorem nmX0 : ∀ a, a < 11 → ∀ b, b < 11 → a ≠ b → (TX0 a).2.1 ≠ (TX0 b).2.1 := by decide +kernel
theorem tyX0_ok : ∀ k, k < 11 → parseFieldDescriptor (TX0 k).2.2.1 = some (tyX0 k) := by decide +kernel
abbrev cX0_init : ByteArray := prog_2_method_1_code
def yX0_init : MethodName := ⟨RX0, "<init>", "()V"⟩
def RX1 : String := "LysimeterField$Column"
def TX1 : u_T := fun k => match k with
  | 0 => ("LysimeterField$Column", "bottom", "C", true)
  | 1 => ("LysimeterField$Column", "layers", "Ljava/util/ArrayList;", true)
  | 2 => ("LysimeterField$Column", "plants", "Ljava/util/ArrayList;", true)
  | 3 => ("LysimeterField$Column", "account", "LLysimeterField$Account;", true)
  | 4 => ("LysimeterField$Column", "link", "I", false)
  | 5 => ("LysimeterField$Column", "scale", "I", false)
  | 6 => ("LysimeterField$Column", "mulched", "Z", false)
  | 7 => ("LysimeterField$Column", "threshold", "I", false)
  | 8 => ("LysimeterField$Column", "watering", "I", false)
  | 9 => ("LysimeterField$Column", "standing", "I", false)
  | 10 => ("LysimeterField$Column", "rightSince", "I", false)
  | 11 => ("LysimeterField$Column", "running", "J", false)
  | _ => ("LysimeterField$Column", "manure", "J", false)
def tyX1 : Nat → FieldType := fun k => match k with
  | 0 => .char
  | 1 => .object "java/util/ArrayList"
  | 2 => .object "java/util/ArrayList"
  | 3 => .object "LysimeterField$Account"
  | 4 => .int
  | 5 => .int
  | 6 => .boolean
  | 7 => .int
  | 8 => .int
  | 9 => .int
  | 10 => .int
  | 11 => .long
  | _ => .long
abbrev wsX10 : List Cond := u_ws RX1 TX1 13
theorem nmX1 : ∀ a, a < 13 → ∀ b, b < 13 → a ≠ b → (TX1 a).2.1 ≠ (TX1 b).2.1 := by decide +kernel
theorem tyX1_ok : ∀ k, k < 13 → parseFieldDescriptor (TX1 k).2.2.1 = some (tyX1 k) := by decide +kernel
abbrev cX1_init : ByteArray := prog_3_method_1_code
def yX1_init : MethodName := ⟨RX1, "<init>", "(CI)V"⟩
abbrev cX1_becomeLike : ByteArray := prog_3_method_2_code
def yX1_becomeLike : MethodName := ⟨RX1, "becomeLike", "(LLysimeterField$Column;)V"⟩
abbrev cX1_goThroughAnHour : ByteArray := prog_3_method_3_code
def yX1_goThroughAnHour : MethodName := ⟨RX1, "goThroughAnHour", "(III)J"⟩
abbrev cX1_topOrNull : ByteArray := prog_3_method_4_code
def yX1_topOrNull : MethodName := ⟨RX1, "topOrNull", "()LLysimeterField$Layer;"⟩
abbrev cX1_letFrostMove : ByteArray := prog_3_method_5_code
def yX1_letFrostMove : MethodName := ⟨RX1, "letFrostMove", "(I)V"⟩
abbrev cX1_uppermost : ByteArray := prog_3_method_6_code
def yX1_uppermost : MethodName := ⟨RX1, "uppermost", "(Z)LLysimeterField$Layer;"⟩
abbrev cX1_letWaterCome : ByteArray := prog_3_method_7_code
def yX1_letWaterCome : MethodName := ⟨RX1, "letWaterCome", "(I)J"⟩
abbrev cX1_takeArrivals : ByteArray := prog_3_method_8_code
def yX1_takeArrivals : MethodName := ⟨RX1, "takeArrivals", "(I)J"⟩
abbrev cX1_takeWatering : ByteArray := prog_3_method_9_code
def yX1_takeWatering : MethodName := ⟨RX1, "takeWatering", "(LLysimeterField$Layer;)I"⟩
abbrev cX1_fillCrack : ByteArray := prog_3_method_10_code
def yX1_fillCrack : MethodName := ⟨RX1, "fillCrack", "(LLysimeterField$Layer;J)I"⟩
abbrev cX1_soakIn : ByteArray := prog_3_method_11_code
def yX1_soakIn : MethodName := ⟨RX1, "soakIn", "(LLysimeterField$Layer;J)I"⟩
abbrev cX1_crackEnd : ByteArray := prog_3_method_12_code
def yX1_crackEnd : MethodName := ⟨RX1, "crackEnd", "(LLysimeterField$Layer;)LLysimeterField$Layer;"⟩
abbrev cX1_crackBetween : ByteArray := prog_3_method_13_code
def yX1_crackBetween : MethodName := ⟨RX1, "crackBetween", "(LLysimeterField$Layer;LLysimeterField$Layer;)I"⟩
abbrev cX1_crackCanTake : ByteArray := prog_3_method_14_code
def yX1_crackCanTake : MethodName := ⟨RX1, "crackCanTake", "()I"⟩
abbrev cX1_letWaterSink : ByteArray := prog_3_method_15_code
def yX1_letWaterSink : MethodName := ⟨RX1, "letWaterSink", "()V"⟩
abbrev cX1_letDrink : ByteArray := prog_3_method_16_code
def yX1_letDrink : MethodName := ⟨RX1, "letDrink", "(LLysimeterField$Plant;)V"⟩
abbrev cX1_wettest : ByteArray := prog_3_method_17_code
def yX1_wettest : MethodName := ⟨RX1, "wettest", "(I)LLysimeterField$Layer;"⟩
abbrev cX1_letWaterDry : ByteArray := prog_3_method_18_code
def yX1_letWaterDry : MethodName := ⟨RX1, "letWaterDry", "(I)V"⟩
abbrev cX1_makeNitrate : ByteArray := prog_3_method_19_code
def yX1_makeNitrate : MethodName := ⟨RX1, "makeNitrate", "(I)V"⟩
abbrev cX1_eatNitrate : ByteArray := prog_3_method_20_code
def yX1_eatNitrate : MethodName := ⟨RX1, "eatNitrate", "(I)V"⟩
abbrev cX1_waterOfLayers : ByteArray := prog_3_method_21_code
def yX1_waterOfLayers : MethodName := ⟨RX1, "waterOfLayers", "()I"⟩
abbrev cX1_frozenWater : ByteArray := prog_3_method_22_code
def yX1_frozenWater : MethodName := ⟨RX1, "frozenWater", "()I"⟩
abbrev cX1_frozenLayers : ByteArray := prog_3_method_23_code
def yX1_frozenLayers : MethodName := ⟨RX1, "frozenLayers", "()I"⟩
abbrev cX1_missingWater : ByteArray := prog_3_method_24_code
def yX1_missingWater : MethodName := ⟨RX1, "missingWater", "()J"⟩
abbrev cX1_layersHold : ByteArray := prog_3_method_25_code
def yX1_layersHold : MethodName := ⟨RX1, "layersHold", "()Z"⟩
abbrev cX1_solutesHold : ByteArray := prog_3_method_26_code
def yX1_solutesHold : MethodName := ⟨RX1, "solutesHold", "()Z"⟩
def RX2 : String := "LysimeterField$Layer"
def TX2 : u_T := fun k => match k with
  | 0 => ("LysimeterField$Layer", "soil", "LLysimeterField$Soil;", true)
  | 1 => ("LysimeterField$Layer", "thickness", "I", true)
  | 2 => ("LysimeterField$Layer", "capacity", "I", true)
  | 3 => ("LysimeterField$Layer", "field", "I", true)
  | 4 => ("LysimeterField$Layer", "wilting", "I", true)
  | 5 => ("LysimeterField$Layer", "solutes", "LLysimeterField$Solutes;", true)
  | 6 => ("LysimeterField$Layer", "water", "I", false)
  | 7 => ("LysimeterField$Layer", "frost", "I", false)
  | _ => ("LysimeterField$Layer", "frozen", "Z", false)
def tyX2 : Nat → FieldType := fun k => match k with
  | 0 => .object "LysimeterField$Soil"
  | 1 => .int
  | 2 => .int
  | 3 => .int
  | 4 => .int
  | 5 => .object "LysimeterField$Solutes"
  | 6 => .int
  | 7 => .int
  | _ => .boolean
abbrev wsX20 : List Cond := u_ws RX2 TX2 9
theorem nmX2 : ∀ a, a < 9 → ∀ b, b < 9 → a ≠ b → (TX2 a).2.1 ≠ (TX2 b).2.1 := by decide +kernel
theorem tyX2_ok : ∀ k, k < 9 → parseFieldDescriptor (TX2 k).2.2.1 = some (tyX2 k) := by decide +kernel
abbrev cX2_init : ByteArray := prog_4_method_1_code
def yX2_init : MethodName := ⟨RX2, "<init>", "(LLysimeterField$Soil;I)V"⟩
abbrev cX2_room : ByteArray := prog_4_method_2_code
def yX2_room : MethodName := ⟨RX2, "room", "()I"⟩
abbrev cX2_canReceive : ByteArray := prog_4_method_3_code
def yX2_canReceive : MethodName := ⟨RX2, "canReceive", "()I"⟩
abbrev cX2_canFeedRoots : ByteArray := prog_4_method_4_code
def yX2_canFeedRoots : MethodName := ⟨RX2, "canFeedRoots", "()I"⟩
abbrev cX2_canGiveToAir : ByteArray := prog_4_method_5_code
def yX2_canGiveToAir : MethodName := ⟨RX2, "canGiveToAir", "()I"⟩
abbrev cX2_canSink : ByteArray := prog_4_method_6_code
def yX2_canSink : MethodName := ⟨RX2, "canSink", "(I)I"⟩
abbrev cX2_hundredthsOfWater : ByteArray := prog_4_method_7_code
def yX2_hundredthsOfWater : MethodName := ⟨RX2, "hundredthsOfWater", "()I"⟩
abbrev cX2_freeze : ByteArray := prog_4_method_8_code
def yX2_freeze : MethodName := ⟨RX2, "freeze", "(I)V"⟩
abbrev cX2_thaw : ByteArray := prog_4_method_9_code
def yX2_thaw : MethodName := ⟨RX2, "thaw", "(I)V"⟩
abbrev cX2_sendWater : ByteArray := prog_4_method_10_code
def yX2_sendWater : MethodName := ⟨RX2, "sendWater", "(ILLysimeterField$Solutes;)V"⟩
abbrev cX2_becomeLike : ByteArray := prog_4_method_11_code
def yX2_becomeLike : MethodName := ⟨RX2, "becomeLike", "(LLysimeterField$Layer;)V"⟩
def RX3 : String := "LysimeterField$Plant"
def TX3 : u_T := fun k => match k with
  | 0 => ("LysimeterField$Plant", "reach", "I", true)
  | 1 => ("LysimeterField$Plant", "thirst", "I", true)
  | _ => ("LysimeterField$Plant", "stress", "J", false)
def tyX3 : Nat → FieldType := fun k => match k with
  | 0 => .int
  | 1 => .int
  | _ => .long
abbrev wsX30 : List Cond := u_ws RX3 TX3 3
theorem nmX3 : ∀ a, a < 3 → ∀ b, b < 3 → a ≠ b → (TX3 a).2.1 ≠ (TX3 b).2.1 := by decide +kernel
theorem tyX3_ok : ∀ k, k < 3 → parseFieldDescriptor (TX3 k).2.2.1 = some (tyX3 k) := by decide +kernel
abbrev cX3_init : ByteArray := prog_5_method_1_code
def yX3_init : MethodName := ⟨RX3, "<init>", "(II)V"⟩
def RX4 : String := "LysimeterField$Soil"
def TX4 : u_T := fun k => match k with
  | _ => ("", "", "", false)
def tyX4 : Nat → FieldType := fun k => match k with
  | _ => .int
abbrev wsX40 : List Cond := u_ws RX4 TX4 0
theorem nmX4 : ∀ a, a < 0 → ∀ b, b < 0 → a ≠ b → (TX4 a).2.1 ≠ (TX4 b).2.1 := by decide +kernel
theorem tyX4_ok : ∀ k, k < 0 → parseFieldDescriptor (TX4 k).2.2.1 = some (tyX4 k) := by decide +kernel
def RX5 : String := "LysimeterField$Solutes"
def TX5 : u_T := fun k => match k with
  | _ => ("LysimeterField$Solutes", "amounts", "[J", true)
def tyX5 : Nat → FieldType := fun k => match k with
  | _ => .array .long
abbrev wsX50 : List Cond := u_ws RX5 TX5 1
theorem nmX5 : ∀ a, a < 1 → ∀ b, b < 1 → a ≠ b → (TX5 a).2.1 ≠ (TX5 b).2.1 := by decide +kernel
theorem tyX5_ok : ∀ k, k < 1 → parseFieldDescriptor (TX5 k).2.2.1 = some (tyX5 k) := by decide +kernel
abbrev cX5_init : ByteArray := prog_7_method_1_code
def yX5_init : MethodName := ⟨RX5, "<init>", "()V"⟩
abbrev cX5_amountOf : ByteArray := prog_7_method_2_code
def yX5_amountOf : MethodName := ⟨RX5, "amountOf", "(I)J"⟩
abbrev cX5_change : ByteArray := prog_7_method_3_code
def yX5_change : MethodName := ⟨RX5, "change", "(IJ)V"⟩
abbrev cX5_giveShare : ByteArray := prog_7_method_4_code
def yX5_giveShare : MethodName := ⟨RX5, "giveShare", "(IILLysimeterField$Solutes;)V"⟩
def RX6 : String := "LysimeterField$Weather"
def TX6 : u_T := fun k => match k with
  | 0 => ("LysimeterField$Weather", "temperature", "I", false)
  | 1 => ("LysimeterField$Weather", "rain", "I", false)
  | _ => ("LysimeterField$Weather", "thirst", "I", false)
def tyX6 : Nat → FieldType := fun k => match k with
  | 0 => .int
  | 1 => .int
  | _ => .int
abbrev wsX60 : List Cond := u_ws RX6 TX6 3
theorem nmX6 : ∀ a, a < 3 → ∀ b, b < 3 → a ≠ b → (TX6 a).2.1 ≠ (TX6 b).2.1 := by decide +kernel
theorem tyX6_ok : ∀ k, k < 3 → parseFieldDescriptor (TX6 k).2.2.1 = some (tyX6 k) := by decide +kernel
abbrev cX6_init : ByteArray := prog_8_method_1_code
def yX6_init : MethodName := ⟨RX6, "<init>", "()V"⟩
def RX7 : String := "LysimeterField"
def TX7 : u_T := fun k => match k with
  | 0 => ("LysimeterField", "columns", "Ljava/util/ArrayList;", true)
  | 1 => ("LysimeterField", "thoughts", "Ljava/util/ArrayList;", true)
  | 2 => ("LysimeterField", "now", "LLysimeterField$Weather;", true)
  | 3 => ("LysimeterField", "misses", "[J", true)
  | 4 => ("LysimeterField", "limit", "I", false)
  | 5 => ("LysimeterField", "fine", "I", false)
  | _ => ("LysimeterField", "hoursInAll", "I", false)
def tyX7 : Nat → FieldType := fun k => match k with
  | 0 => .object "java/util/ArrayList"
  | 1 => .object "java/util/ArrayList"
  | 2 => .object "LysimeterField$Weather"
  | 3 => .array .long
  | 4 => .int
  | 5 => .int
  | _ => .int
abbrev wsX70 : List Cond := u_ws RX7 TX7 7
theorem nmX7 : ∀ a, a < 7 → ∀ b, b < 7 → a ≠ b → (TX7 a).2.1 ≠ (TX7 b).2.1 := by decide +kernel
theorem tyX7_ok : ∀ k, k < 7 → parseFieldDescriptor (TX7 k).2.2.1 = some (tyX7 k) := by decide +kernel
abbrev cX7_init : ByteArray := prog_1_method_1_code
def yX7_init : MethodName := ⟨RX7, "<init>", "()V"⟩
abbrev cX7_column : ByteArray := prog_1_method_2_code
def yX7_column : MethodName := ⟨RX7, "column", "(C)I"⟩
abbrev cX7_layer : ByteArray := prog_1_method_3_code
def yX7_layer : MethodName := ⟨RX7, "layer", "(ICI)I"⟩
abbrev cX7_wet : ByteArray := prog_1_method_4_code
def yX7_wet : MethodName := ⟨RX7, "wet", "(III)I"⟩
abbrev cX7_water : ByteArray := prog_1_method_5_code
def yX7_water : MethodName := ⟨RX7, "water", "(II)I"⟩
abbrev cX7_capacity : ByteArray := prog_1_method_6_code
def yX7_capacity : MethodName := ⟨RX7, "capacity", "(II)I"⟩
abbrev cX7_link : ByteArray := prog_1_method_7_code
def yX7_link : MethodName := ⟨RX7, "link", "(II)I"⟩
abbrev cX7_scale : ByteArray := prog_1_method_8_code
def yX7_scale : MethodName := ⟨RX7, "scale", "(II)I"⟩
abbrev cX7_plant : ByteArray := prog_1_method_9_code
def yX7_plant : MethodName := ⟨RX7, "plant", "(III)I"⟩
abbrev cX7_harvest : ByteArray := prog_1_method_10_code
def yX7_harvest : MethodName := ⟨RX7, "harvest", "(I)I"⟩
abbrev cX7_stress : ByteArray := prog_1_method_11_code
def yX7_stress : MethodName := ⟨RX7, "stress", "(II)I"⟩
abbrev cX7_mulch : ByteArray := prog_1_method_12_code
def yX7_mulch : MethodName := ⟨RX7, "mulch", "(IZ)Z"⟩
abbrev cX7_rule : ByteArray := prog_1_method_13_code
def yX7_rule : MethodName := ⟨RX7, "rule", "(III)I"⟩
abbrev cX7_spread : ByteArray := prog_1_method_14_code
def yX7_spread : MethodName := ⟨RX7, "spread", "(ICI)J"⟩
abbrev cX7_manure : ByteArray := prog_1_method_15_code
def yX7_manure : MethodName := ⟨RX7, "manure", "(II)J"⟩
abbrev cX7_solute : ByteArray := prog_1_method_16_code
def yX7_solute : MethodName := ⟨RX7, "solute", "(IIC)J"⟩
abbrev cX7_out : ByteArray := prog_1_method_17_code
def yX7_out : MethodName := ⟨RX7, "out", "(IC)J"⟩
abbrev cX7_eaten : ByteArray := prog_1_method_18_code
def yX7_eaten : MethodName := ⟨RX7, "eaten", "(I)J"⟩
abbrev cX7_weather : ByteArray := prog_1_method_19_code
def yX7_weather : MethodName := ⟨RX7, "weather", "(III)I"⟩
abbrev cX7_law : ByteArray := prog_1_method_20_code
def yX7_law : MethodName := ⟨RX7, "law", "(II)I"⟩
abbrev cX7_hours : ByteArray := prog_1_method_21_code
def yX7_hours : MethodName := ⟨RX7, "hours", "(I)I"⟩
abbrev cX7_standing : ByteArray := prog_1_method_22_code
def yX7_standing : MethodName := ⟨RX7, "standing", "(I)I"⟩
abbrev cX7_recharge : ByteArray := prog_1_method_23_code
def yX7_recharge : MethodName := ⟨RX7, "recharge", "(I)J"⟩
abbrev cX7_runoff : ByteArray := prog_1_method_24_code
def yX7_runoff : MethodName := ⟨RX7, "runoff", "(I)J"⟩
abbrev cX7_vapour : ByteArray := prog_1_method_25_code
def yX7_vapour : MethodName := ⟨RX7, "vapour", "(I)J"⟩
abbrev cX7_isFrozen : ByteArray := prog_1_method_26_code
def yX7_isFrozen : MethodName := ⟨RX7, "isFrozen", "(II)Z"⟩
abbrev cX7_frost : ByteArray := prog_1_method_27_code
def yX7_frost : MethodName := ⟨RX7, "frost", "(II)I"⟩
abbrev cX7_heave : ByteArray := prog_1_method_28_code
def yX7_heave : MethodName := ⟨RX7, "heave", "(I)I"⟩
abbrev cX7_crack : ByteArray := prog_1_method_29_code
def yX7_crack : MethodName := ⟨RX7, "crack", "(I)I"⟩
abbrev cX7_tension : ByteArray := prog_1_method_30_code
def yX7_tension : MethodName := ⟨RX7, "tension", "(II)I"⟩
abbrev cX7_reflection : ByteArray := prog_1_method_31_code
def yX7_reflection : MethodName := ⟨RX7, "reflection", "(II)I"⟩
abbrev cX7_setRight : ByteArray := prog_1_method_32_code
def yX7_setRight : MethodName := ⟨RX7, "setRight", "(I)I"⟩
abbrev cX7_weigh : ByteArray := prog_1_method_33_code
def yX7_weigh : MethodName := ⟨RX7, "weigh", "(I)I"⟩
abbrev cX7_fines : ByteArray := prog_1_method_34_code
def yX7_fines : MethodName := ⟨RX7, "fines", "(I)J"⟩
abbrev cX7_forecast : ByteArray := prog_1_method_35_code
def yX7_forecast : MethodName := ⟨RX7, "forecast", "(III)J"⟩
abbrev cX7_fits : ByteArray := prog_1_method_36_code
def yX7_fits : MethodName := ⟨RX7, "fits", "(III)I"⟩
abbrev cX7_fit : ByteArray := prog_1_method_37_code
def yX7_fit : MethodName := ⟨RX7, "fit", "(IIII)I"⟩
abbrev cX7_missing : ByteArray := prog_1_method_38_code
def yX7_missing : MethodName := ⟨RX7, "missing", "()J"⟩
abbrev cX7_frozenShare : ByteArray := prog_1_method_39_code
def yX7_frozenShare : MethodName := ⟨RX7, "frozenShare", "()F"⟩
abbrev cX7_meanWater : ByteArray := prog_1_method_40_code
def yX7_meanWater : MethodName := ⟨RX7, "meanWater", "()D"⟩
abbrev cX7_checksum : ByteArray := prog_1_method_41_code
def yX7_checksum : MethodName := ⟨RX7, "checksum", "()J"⟩
abbrev cX7_isTrue : ByteArray := prog_1_method_42_code
def yX7_isTrue : MethodName := ⟨RX7, "isTrue", "()Z"⟩
abbrev cX7_columnAt : ByteArray := prog_1_method_43_code
def yX7_columnAt : MethodName := ⟨RX7, "columnAt", "(I)LLysimeterField$Column;"⟩
abbrev cX7_thoughtAt : ByteArray := prog_1_method_44_code
def yX7_thoughtAt : MethodName := ⟨RX7, "thoughtAt", "(I)LLysimeterField$Column;"⟩
abbrev cX7_layerAt : ByteArray := prog_1_method_45_code
def yX7_layerAt : MethodName := ⟨RX7, "layerAt", "(II)LLysimeterField$Layer;"⟩
abbrev cX7_checkRange : ByteArray := prog_1_method_46_code
def yX7_checkRange : MethodName := ⟨RX7, "checkRange", "(III)V"⟩
abbrev cX7_soilOf : ByteArray := prog_1_method_47_code
def yX7_soilOf : MethodName := ⟨RX7, "soilOf", "(C)LLysimeterField$Soil;"⟩
abbrev cX7_kindOf : ByteArray := prog_1_method_48_code
def yX7_kindOf : MethodName := ⟨RX7, "kindOf", "(C)I"⟩
abbrev cX7_letAnHourGoBy : ByteArray := prog_1_method_49_code
def yX7_letAnHourGoBy : MethodName := ⟨RX7, "letAnHourGoBy", "(LLysimeterField$Column;)V"⟩
abbrev cX7_runOn : ByteArray := prog_1_method_50_code
def yX7_runOn : MethodName := ⟨RX7, "runOn", "(LLysimeterField$Column;J)V"⟩
abbrev cX7_judge : ByteArray := prog_1_method_51_code
def yX7_judge : MethodName := ⟨RX7, "judge", "(LLysimeterField$Column;JJ)V"⟩
abbrev cX7_driftOf : ByteArray := prog_1_method_52_code
def yX7_driftOf : MethodName := ⟨RX7, "driftOf", "(LLysimeterField$Column;)I"⟩
abbrev cX7_thinkOf : ByteArray := prog_1_method_53_code
def yX7_thinkOf : MethodName := ⟨RX7, "thinkOf", "(II)LLysimeterField$Column;"⟩
abbrev cX7_foresee : ByteArray := prog_1_method_54_code
def yX7_foresee : MethodName := ⟨RX7, "foresee", "(III)J"⟩
abbrev cX7_compareForecasts : ByteArray := prog_1_method_55_code
def yX7_compareForecasts : MethodName := ⟨RX7, "compareForecasts", "(III)J"⟩
abbrev cX7_fittedScale : ByteArray := prog_1_method_56_code
def yX7_fittedScale : MethodName := ⟨RX7, "fittedScale", "(I)I"⟩
abbrev cX7_layersInAll : ByteArray := prog_1_method_57_code
def yX7_layersInAll : MethodName := ⟨RX7, "layersInAll", "()I"⟩
abbrev cX7_forecastHolds : ByteArray := prog_1_method_58_code
def yX7_forecastHolds : MethodName := ⟨RX7, "forecastHolds", "(I)Z"⟩
def RX8 : String := "LysimeterFieldModel$Column"
def TX8 : u_T := fun k => match k with
  | 0 => ("LysimeterFieldModel$Column", "bottom", "C", true)
  | 1 => ("LysimeterFieldModel$Column", "layers", "Ljava/util/ArrayList;", true)
  | 2 => ("LysimeterFieldModel$Column", "plants", "Ljava/util/ArrayList;", true)
  | 3 => ("LysimeterFieldModel$Column", "link", "I", false)
  | 4 => ("LysimeterFieldModel$Column", "scale", "I", false)
  | 5 => ("LysimeterFieldModel$Column", "hasMulch", "Z", false)
  | 6 => ("LysimeterFieldModel$Column", "threshold", "I", false)
  | 7 => ("LysimeterFieldModel$Column", "amount", "I", false)
  | 8 => ("LysimeterFieldModel$Column", "standing", "I", false)
  | 9 => ("LysimeterFieldModel$Column", "coming", "I", false)
  | 10 => ("LysimeterFieldModel$Column", "manure", "J", false)
  | 11 => ("LysimeterFieldModel$Column", "drift", "I", false)
  | 12 => ("LysimeterFieldModel$Column", "recharge", "J", false)
  | 13 => ("LysimeterFieldModel$Column", "runoff", "J", false)
  | 14 => ("LysimeterFieldModel$Column", "vapour", "J", false)
  | 15 => ("LysimeterFieldModel$Column", "eaten", "J", false)
  | 16 => ("LysimeterFieldModel$Column", "fines", "J", false)
  | _ => ("LysimeterFieldModel$Column", "outs", "[J", true)
def tyX8 : Nat → FieldType := fun k => match k with
  | 0 => .char
  | 1 => .object "java/util/ArrayList"
  | 2 => .object "java/util/ArrayList"
  | 3 => .int
  | 4 => .int
  | 5 => .boolean
  | 6 => .int
  | 7 => .int
  | 8 => .int
  | 9 => .int
  | 10 => .long
  | 11 => .int
  | 12 => .long
  | 13 => .long
  | 14 => .long
  | 15 => .long
  | 16 => .long
  | _ => .array .long
abbrev wsX80 : List Cond := u_ws RX8 TX8 18
theorem nmX8 : ∀ a, a < 18 → ∀ b, b < 18 → a ≠ b → (TX8 a).2.1 ≠ (TX8 b).2.1 := by decide +kernel
theorem tyX8_ok : ∀ k, k < 18 → parseFieldDescriptor (TX8 k).2.2.1 = some (tyX8 k) := by decide +kernel
abbrev cX8_init : ByteArray := prog_11_method_1_code
def yX8_init : MethodName := ⟨RX8, "<init>", "(C)V"⟩
abbrev cX8_copy : ByteArray := prog_11_method_2_code
def yX8_copy : MethodName := ⟨RX8, "copy", "()LLysimeterFieldModel$Column;"⟩
abbrev cX8_freezes : ByteArray := prog_11_method_3_code
def yX8_freezes : MethodName := ⟨RX8, "freezes", "(I)V"⟩
abbrev cX8_crackEnd : ByteArray := prog_11_method_4_code
def yX8_crackEnd : MethodName := ⟨RX8, "crackEnd", "()LLysimeterFieldModel$Layer;"⟩
abbrev cX8_crack : ByteArray := prog_11_method_5_code
def yX8_crack : MethodName := ⟨RX8, "crack", "()I"⟩
abbrev cX8_takesIn : ByteArray := prog_11_method_6_code
def yX8_takesIn : MethodName := ⟨RX8, "takesIn", "(I)I"⟩
abbrev cX8_sinks : ByteArray := prog_11_method_7_code
def yX8_sinks : MethodName := ⟨RX8, "sinks", "([J)I"⟩
abbrev cX8_drinks : ByteArray := prog_11_method_8_code
def yX8_drinks : MethodName := ⟨RX8, "drinks", "(LLysimeterFieldModel$Plant;)V"⟩
abbrev cX8_dries : ByteArray := prog_11_method_9_code
def yX8_dries : MethodName := ⟨RX8, "dries", "(I)V"⟩
abbrev cX8_nitrates : ByteArray := prog_11_method_10_code
def yX8_nitrates : MethodName := ⟨RX8, "nitrates", "(I)V"⟩
abbrev cX8_goes : ByteArray := prog_11_method_11_code
def yX8_goes : MethodName := ⟨RX8, "goes", "(LLysimeterFieldModel$Sky;I)I"⟩
abbrev cX8_waters : ByteArray := prog_11_method_12_code
def yX8_waters : MethodName := ⟨RX8, "waters", "()I"⟩
def RX9 : String := "LysimeterFieldModel$Layer"
def TX9 : u_T := fun k => match k with
  | 0 => ("LysimeterFieldModel$Layer", "soil", "C", true)
  | 1 => ("LysimeterFieldModel$Layer", "thickness", "I", true)
  | 2 => ("LysimeterFieldModel$Layer", "capacity", "I", true)
  | 3 => ("LysimeterFieldModel$Layer", "field", "I", true)
  | 4 => ("LysimeterFieldModel$Layer", "wilting", "I", true)
  | 5 => ("LysimeterFieldModel$Layer", "water", "I", false)
  | 6 => ("LysimeterFieldModel$Layer", "frost", "I", false)
  | 7 => ("LysimeterFieldModel$Layer", "isFrozen", "Z", false)
  | _ => ("LysimeterFieldModel$Layer", "solutes", "[J", true)
def tyX9 : Nat → FieldType := fun k => match k with
  | 0 => .char
  | 1 => .int
  | 2 => .int
  | 3 => .int
  | 4 => .int
  | 5 => .int
  | 6 => .int
  | 7 => .boolean
  | _ => .array .long
abbrev wsX90 : List Cond := u_ws RX9 TX9 9
theorem nmX9 : ∀ a, a < 9 → ∀ b, b < 9 → a ≠ b → (TX9 a).2.1 ≠ (TX9 b).2.1 := by decide +kernel
theorem tyX9_ok : ∀ k, k < 9 → parseFieldDescriptor (TX9 k).2.2.1 = some (tyX9 k) := by decide +kernel
abbrev cX9_init : ByteArray := prog_12_method_1_code
def yX9_init : MethodName := ⟨RX9, "<init>", "(CI)V"⟩
abbrev cX9_copy : ByteArray := prog_12_method_2_code
def yX9_copy : MethodName := ⟨RX9, "copy", "()LLysimeterFieldModel$Layer;"⟩
abbrev cX9_takes : ByteArray := prog_12_method_3_code
def yX9_takes : MethodName := ⟨RX9, "takes", "()I"⟩
abbrev cX9_drains : ByteArray := prog_12_method_4_code
def yX9_drains : MethodName := ⟨RX9, "drains", "()I"⟩
abbrev cX9_room : ByteArray := prog_12_method_5_code
def yX9_room : MethodName := ⟨RX9, "room", "()I"⟩
abbrev cX9_above : ByteArray := prog_12_method_6_code
def yX9_above : MethodName := ⟨RX9, "above", "()I"⟩
def RX10 : String := "LysimeterFieldModel$Plant"
def TX10 : u_T := fun k => match k with
  | 0 => ("LysimeterFieldModel$Plant", "reach", "I", true)
  | 1 => ("LysimeterFieldModel$Plant", "thirst", "I", true)
  | _ => ("LysimeterFieldModel$Plant", "stress", "I", false)
def tyX10 : Nat → FieldType := fun k => match k with
  | 0 => .int
  | 1 => .int
  | _ => .int
abbrev wsX100 : List Cond := u_ws RX10 TX10 3
theorem nmX10 : ∀ a, a < 3 → ∀ b, b < 3 → a ≠ b → (TX10 a).2.1 ≠ (TX10 b).2.1 := by decide +kernel
theorem tyX10_ok : ∀ k, k < 3 → parseFieldDescriptor (TX10 k).2.2.1 = some (tyX10 k) := by decide +kernel
abbrev cX10_init : ByteArray := prog_13_method_1_code
def yX10_init : MethodName := ⟨RX10, "<init>", "(II)V"⟩
def RX11 : String := "LysimeterFieldModel$Sky"
def TX11 : u_T := fun k => match k with
  | 0 => ("LysimeterFieldModel$Sky", "temperature", "I", false)
  | 1 => ("LysimeterFieldModel$Sky", "rain", "I", false)
  | 2 => ("LysimeterFieldModel$Sky", "thirst", "I", false)
  | 3 => ("LysimeterFieldModel$Sky", "limit", "I", false)
  | _ => ("LysimeterFieldModel$Sky", "fine", "I", false)
def tyX11 : Nat → FieldType := fun k => match k with
  | 0 => .int
  | 1 => .int
  | 2 => .int
  | 3 => .int
  | _ => .int
abbrev wsX110 : List Cond := u_ws RX11 TX11 5
theorem nmX11 : ∀ a, a < 5 → ∀ b, b < 5 → a ≠ b → (TX11 a).2.1 ≠ (TX11 b).2.1 := by decide +kernel
theorem tyX11_ok : ∀ k, k < 5 → parseFieldDescriptor (TX11 k).2.2.1 = some (tyX11 k) := by decide +kernel
abbrev cX11_init : ByteArray := prog_14_method_1_code
def yX11_init : MethodName := ⟨RX11, "<init>", "()V"⟩
def RX12 : String := "LysimeterFieldModel"
def TX12 : u_T := fun k => match k with
  | 0 => ("LysimeterFieldModel", "thrown", "I", false)
  | 1 => ("LysimeterFieldModel", "columns", "Ljava/util/ArrayList;", true)
  | 2 => ("LysimeterFieldModel", "sky", "LLysimeterFieldModel$Sky;", true)
  | _ => ("LysimeterFieldModel", "hours", "I", false)
def tyX12 : Nat → FieldType := fun k => match k with
  | 0 => .int
  | 1 => .object "java/util/ArrayList"
  | 2 => .object "LysimeterFieldModel$Sky"
  | _ => .int
abbrev wsX120 : List Cond := u_ws RX12 TX12 4
theorem nmX12 : ∀ a, a < 4 → ∀ b, b < 4 → a ≠ b → (TX12 a).2.1 ≠ (TX12 b).2.1 := by decide +kernel
theorem tyX12_ok : ∀ k, k < 4 → parseFieldDescriptor (TX12 k).2.2.1 = some (tyX12 k) := by decide +kernel
abbrev cX12_in : ByteArray := prog_10_method_1_code
def yX12_in : MethodName := ⟨RX12, "in", "(JJJ)Z"⟩
abbrev cX12_kindOf : ByteArray := prog_10_method_2_code
def yX12_kindOf : MethodName := ⟨RX12, "kindOf", "(C)I"⟩
abbrev cX12_init : ByteArray := prog_10_method_3_code
def yX12_init : MethodName := ⟨RX12, "<init>", "()V"⟩
abbrev cX12_thrown : ByteArray := prog_10_method_4_code
def yX12_thrown : MethodName := ⟨RX12, "thrown", "()I"⟩
abbrev cX12_isColumn : ByteArray := prog_10_method_5_code
def yX12_isColumn : MethodName := ⟨RX12, "isColumn", "(I)Z"⟩
abbrev cX12_noColumn : ByteArray := prog_10_method_6_code
def yX12_noColumn : MethodName := ⟨RX12, "noColumn", "(I)Z"⟩
abbrev cX12_noLayer : ByteArray := prog_10_method_7_code
def yX12_noLayer : MethodName := ⟨RX12, "noLayer", "(II)Z"⟩
abbrev cX12_layerOf : ByteArray := prog_10_method_8_code
def yX12_layerOf : MethodName := ⟨RX12, "layerOf", "(II)LLysimeterFieldModel$Layer;"⟩
abbrev cX12_column : ByteArray := prog_10_method_9_code
def yX12_column : MethodName := ⟨RX12, "column", "(C)I"⟩
abbrev cX12_layer : ByteArray := prog_10_method_10_code
def yX12_layer : MethodName := ⟨RX12, "layer", "(ICI)I"⟩
abbrev cX12_wet : ByteArray := prog_10_method_11_code
def yX12_wet : MethodName := ⟨RX12, "wet", "(III)I"⟩
abbrev cX12_water : ByteArray := prog_10_method_12_code
def yX12_water : MethodName := ⟨RX12, "water", "(II)I"⟩
abbrev cX12_capacity : ByteArray := prog_10_method_13_code
def yX12_capacity : MethodName := ⟨RX12, "capacity", "(II)I"⟩
abbrev cX12_link : ByteArray := prog_10_method_14_code
def yX12_link : MethodName := ⟨RX12, "link", "(II)I"⟩
abbrev cX12_scale : ByteArray := prog_10_method_15_code
def yX12_scale : MethodName := ⟨RX12, "scale", "(II)I"⟩
abbrev cX12_plant : ByteArray := prog_10_method_16_code
def yX12_plant : MethodName := ⟨RX12, "plant", "(III)I"⟩
abbrev cX12_harvest : ByteArray := prog_10_method_17_code
def yX12_harvest : MethodName := ⟨RX12, "harvest", "(I)I"⟩
abbrev cX12_stress : ByteArray := prog_10_method_18_code
def yX12_stress : MethodName := ⟨RX12, "stress", "(II)I"⟩
abbrev cX12_mulch : ByteArray := prog_10_method_19_code
def yX12_mulch : MethodName := ⟨RX12, "mulch", "(IZ)Z"⟩
abbrev cX12_rule : ByteArray := prog_10_method_20_code
def yX12_rule : MethodName := ⟨RX12, "rule", "(III)I"⟩
abbrev cX12_spread : ByteArray := prog_10_method_21_code
def yX12_spread : MethodName := ⟨RX12, "spread", "(ICI)J"⟩
abbrev cX12_manure : ByteArray := prog_10_method_22_code
def yX12_manure : MethodName := ⟨RX12, "manure", "(II)J"⟩
abbrev cX12_solute : ByteArray := prog_10_method_23_code
def yX12_solute : MethodName := ⟨RX12, "solute", "(IIC)J"⟩
abbrev cX12_out : ByteArray := prog_10_method_24_code
def yX12_out : MethodName := ⟨RX12, "out", "(IC)J"⟩
abbrev cX12_eaten : ByteArray := prog_10_method_25_code
def yX12_eaten : MethodName := ⟨RX12, "eaten", "(I)J"⟩
abbrev cX12_weather : ByteArray := prog_10_method_26_code
def yX12_weather : MethodName := ⟨RX12, "weather", "(III)I"⟩
abbrev cX12_law : ByteArray := prog_10_method_27_code
def yX12_law : MethodName := ⟨RX12, "law", "(II)I"⟩
abbrev cX12_hours : ByteArray := prog_10_method_28_code
def yX12_hours : MethodName := ⟨RX12, "hours", "(I)I"⟩
abbrev cX12_standing : ByteArray := prog_10_method_29_code
def yX12_standing : MethodName := ⟨RX12, "standing", "(I)I"⟩
abbrev cX12_recharge : ByteArray := prog_10_method_30_code
def yX12_recharge : MethodName := ⟨RX12, "recharge", "(I)J"⟩
abbrev cX12_runoff : ByteArray := prog_10_method_31_code
def yX12_runoff : MethodName := ⟨RX12, "runoff", "(I)J"⟩
abbrev cX12_vapour : ByteArray := prog_10_method_32_code
def yX12_vapour : MethodName := ⟨RX12, "vapour", "(I)J"⟩
abbrev cX12_isFrozen : ByteArray := prog_10_method_33_code
def yX12_isFrozen : MethodName := ⟨RX12, "isFrozen", "(II)Z"⟩
abbrev cX12_frost : ByteArray := prog_10_method_34_code
def yX12_frost : MethodName := ⟨RX12, "frost", "(II)I"⟩
abbrev cX12_heave : ByteArray := prog_10_method_35_code
def yX12_heave : MethodName := ⟨RX12, "heave", "(I)I"⟩
abbrev cX12_crack : ByteArray := prog_10_method_36_code
def yX12_crack : MethodName := ⟨RX12, "crack", "(I)I"⟩
abbrev cX12_tension : ByteArray := prog_10_method_37_code
def yX12_tension : MethodName := ⟨RX12, "tension", "(II)I"⟩
abbrev cX12_reflection : ByteArray := prog_10_method_38_code
def yX12_reflection : MethodName := ⟨RX12, "reflection", "(II)I"⟩
abbrev cX12_setRight : ByteArray := prog_10_method_39_code
def yX12_setRight : MethodName := ⟨RX12, "setRight", "(I)I"⟩
abbrev cX12_weigh : ByteArray := prog_10_method_40_code
def yX12_weigh : MethodName := ⟨RX12, "weigh", "(I)I"⟩
abbrev cX12_fines : ByteArray := prog_10_method_41_code
def yX12_fines : MethodName := ⟨RX12, "fines", "(I)J"⟩
abbrev cX12_forecastOf : ByteArray := prog_10_method_42_code
def yX12_forecastOf : MethodName := ⟨RX12, "forecastOf", "(III)J"⟩
abbrev cX12_forecast : ByteArray := prog_10_method_43_code
def yX12_forecast : MethodName := ⟨RX12, "forecast", "(III)J"⟩
abbrev cX12_fitting : ByteArray := prog_10_method_44_code
def yX12_fitting : MethodName := ⟨RX12, "fitting", "(III)Ljava/util/ArrayList;"⟩
abbrev cX12_noFit : ByteArray := prog_10_method_45_code
def yX12_noFit : MethodName := ⟨RX12, "noFit", "(III)Z"⟩
abbrev cX12_fits : ByteArray := prog_10_method_46_code
def yX12_fits : MethodName := ⟨RX12, "fits", "(III)I"⟩
abbrev cX12_fit : ByteArray := prog_10_method_47_code
def yX12_fit : MethodName := ⟨RX12, "fit", "(IIII)I"⟩
abbrev cX12_missing : ByteArray := prog_10_method_48_code
def yX12_missing : MethodName := ⟨RX12, "missing", "()J"⟩
abbrev cX12_frozenShare : ByteArray := prog_10_method_49_code
def yX12_frozenShare : MethodName := ⟨RX12, "frozenShare", "()F"⟩
abbrev cX12_meanWater : ByteArray := prog_10_method_50_code
def yX12_meanWater : MethodName := ⟨RX12, "meanWater", "()D"⟩
abbrev cX12_checksum : ByteArray := prog_10_method_51_code
def yX12_checksum : MethodName := ⟨RX12, "checksum", "()J"⟩
abbrev cX12_isTrue : ByteArray := prog_10_method_52_code
def yX12_isTrue : MethodName := ⟨RX12, "isTrue", "()Z"⟩
def RJx145de : String := "java/io/Serializable"
def TJx145de : u_T := fun k => match k with
  | _ => ("", "", "", false)
def tyJx145de : Nat → FieldType := fun k => match k with
  | _ => .int
abbrev wsJx145de0 : List Cond := u_ws RJx145de TJx145de 0
theorem nmJx145de : ∀ a, a < 0 → ∀ b, b < 0 → a ≠ b → (TJx145de a).2.1 ≠ (TJx145de b).2.1 := by decide +kernel
theorem tyJx145de_ok : ∀ k, k < 0 → parseFieldDescriptor (TJx145de k).2.2.1 = some (tyJx145de k) := by decide +kernel
def RJx00060 : String := "java/lang/ArrayIndexOutOfBoundsException"
def TJx00060 : u_T := fun k => match k with
  | 0 => ("java/lang/Throwable", "backtrace", "Ljava/lang/Object;", false)
  | 1 => ("java/lang/Throwable", "detailMessage", "Ljava/lang/String;", false)
  | 2 => ("java/lang/Throwable", "cause", "Ljava/lang/Throwable;", false)
  | 3 => ("java/lang/Throwable", "stackTrace", "[Ljava/lang/StackTraceElement;", false)
  | 4 => ("java/lang/Throwable", "depth", "I", false)
  | _ => ("java/lang/Throwable", "suppressedExceptions", "Ljava/util/List;", false)
def tyJx00060 : Nat → FieldType := fun k => match k with
  | 0 => .object "java/lang/Object"
  | 1 => .object "java/lang/String"
  | 2 => .object "java/lang/Throwable"
  | 3 => .array (.object "java/lang/StackTraceElement")
  | 4 => .int
  | _ => .object "java/util/List"
abbrev wsJx000600 : List Cond := u_ws RJx00060 TJx00060 6
theorem nmJx00060 : ∀ a, a < 6 → ∀ b, b < 6 → a ≠ b → (TJx00060 a).2.1 ≠ (TJx00060 b).2.1 := by decide +kernel
theorem tyJx00060_ok : ∀ k, k < 6 → parseFieldDescriptor (TJx00060 k).2.2.1 = some (tyJx00060 k) := by decide +kernel
abbrev cJx00060_init_a7421 : ByteArray := prog_17_method_2_code
def yJx00060_init_a7421 : MethodName := ⟨RJx00060, "<init>", "(Ljava/lang/String;)V"⟩
def RJx9f9b0 : String := "java/lang/CharSequence"
def TJx9f9b0 : u_T := fun k => match k with
  | _ => ("", "", "", false)
def tyJx9f9b0 : Nat → FieldType := fun k => match k with
  | _ => .int
abbrev wsJx9f9b00 : List Cond := u_ws RJx9f9b0 TJx9f9b0 0
theorem nmJx9f9b0 : ∀ a, a < 0 → ∀ b, b < 0 → a ≠ b → (TJx9f9b0 a).2.1 ≠ (TJx9f9b0 b).2.1 := by decide +kernel
theorem tyJx9f9b0_ok : ∀ k, k < 0 → parseFieldDescriptor (TJx9f9b0 k).2.2.1 = some (tyJx9f9b0 k) := by decide +kernel
def RJ11 : String := "java/lang/Character"
def TJ11 : u_T := fun k => match k with
  | _ => ("", "", "", false)
def tyJ11 : Nat → FieldType := fun k => match k with
  | _ => .int
abbrev wsJ110 : List Cond := u_ws RJ11 TJ11 0
theorem nmJ11 : ∀ a, a < 0 → ∀ b, b < 0 → a ≠ b → (TJ11 a).2.1 ≠ (TJ11 b).2.1 := by decide +kernel
theorem tyJ11_ok : ∀ k, k < 0 → parseFieldDescriptor (TJ11 k).2.2.1 = some (tyJ11 k) := by decide +kernel
abbrev cJ11_isValidCodePoint_9a6ad : ByteArray := prog_19_method_11_code
def yJ11_isValidCodePoint_9a6ad : MethodName := ⟨RJ11, "isValidCodePoint", "(I)Z"⟩
abbrev cJ11_highSurrogate_5068e : ByteArray := prog_19_method_28_code
def yJ11_highSurrogate_5068e : MethodName := ⟨RJ11, "highSurrogate", "(I)C"⟩
abbrev cJ11_lowSurrogate_5068e : ByteArray := prog_19_method_29_code
def yJ11_lowSurrogate_5068e : MethodName := ⟨RJ11, "lowSurrogate", "(I)C"⟩
def RJx8e188 : String := "java/lang/Cloneable"
def TJx8e188 : u_T := fun k => match k with
  | _ => ("", "", "", false)
def tyJx8e188 : Nat → FieldType := fun k => match k with
  | _ => .int
abbrev wsJx8e1880 : List Cond := u_ws RJx8e188 TJx8e188 0
theorem nmJx8e188 : ∀ a, a < 0 → ∀ b, b < 0 → a ≠ b → (TJx8e188 a).2.1 ≠ (TJx8e188 b).2.1 := by decide +kernel
theorem tyJx8e188_ok : ∀ k, k < 0 → parseFieldDescriptor (TJx8e188 k).2.2.1 = some (tyJx8e188 k) := by decide +kernel
def RJxb160c : String := "java/lang/Comparable"
def TJxb160c : u_T := fun k => match k with
  | _ => ("", "", "", false)
def tyJxb160c : Nat → FieldType := fun k => match k with
  | _ => .int
abbrev wsJxb160c0 : List Cond := u_ws RJxb160c TJxb160c 0
theorem nmJxb160c : ∀ a, a < 0 → ∀ b, b < 0 → a ≠ b → (TJxb160c a).2.1 ≠ (TJxb160c b).2.1 := by decide +kernel
theorem tyJxb160c_ok : ∀ k, k < 0 → parseFieldDescriptor (TJxb160c k).2.2.1 = some (tyJxb160c k) := by decide +kernel
def RJx29ce0 : String := "java/lang/Enum"
def TJx29ce0 : u_T := fun k => match k with
  | _ => ("", "", "", false)
def tyJx29ce0 : Nat → FieldType := fun k => match k with
  | _ => .int
abbrev wsJx29ce00 : List Cond := u_ws RJx29ce0 TJx29ce0 0
theorem nmJx29ce0 : ∀ a, a < 0 → ∀ b, b < 0 → a ≠ b → (TJx29ce0 a).2.1 ≠ (TJx29ce0 b).2.1 := by decide +kernel
theorem tyJx29ce0_ok : ∀ k, k < 0 → parseFieldDescriptor (TJx29ce0 k).2.2.1 = some (tyJx29ce0 k) := by decide +kernel
def RJxabbfe : String := "java/lang/Integer$IntegerCache"
def TJxabbfe : u_T := fun k => match k with
  | _ => ("", "", "", false)
def tyJxabbfe : Nat → FieldType := fun k => match k with
  | _ => .int
abbrev wsJxabbfe0 : List Cond := u_ws RJxabbfe TJxabbfe 0
theorem nmJxabbfe : ∀ a, a < 0 → ∀ b, b < 0 → a ≠ b → (TJxabbfe a).2.1 ≠ (TJxabbfe b).2.1 := by decide +kernel
theorem tyJxabbfe_ok : ∀ k, k < 0 → parseFieldDescriptor (TJxabbfe k).2.2.1 = some (tyJxabbfe k) := by decide +kernel
def RJ6 : String := "java/lang/Integer"
def TJ6 : u_T := fun k => match k with
  | _ => ("java/lang/Integer", "value", "I", true)
def tyJ6 : Nat → FieldType := fun k => match k with
  | _ => .int
abbrev wsJ60 : List Cond := u_ws RJ6 TJ6 1
theorem nmJ6 : ∀ a, a < 1 → ∀ b, b < 1 → a ≠ b → (TJ6 a).2.1 ≠ (TJ6 b).2.1 := by decide +kernel
theorem tyJ6_ok : ∀ k, k < 1 → parseFieldDescriptor (TJ6 k).2.2.1 = some (tyJ6 k) := by decide +kernel
abbrev cJ6_valueOf_2dffe : ByteArray := prog_27_method_22_code
def yJ6_valueOf_2dffe : MethodName := ⟨RJ6, "valueOf", "(I)Ljava/lang/Integer;"⟩
abbrev cJ6_init_d00df : ByteArray := prog_27_method_23_code
def yJ6_init_d00df : MethodName := ⟨RJ6, "<init>", "(I)V"⟩
abbrev cJ6_intValue_8abf5 : ByteArray := prog_27_method_27_code
def yJ6_intValue_8abf5 : MethodName := ⟨RJ6, "intValue", "()I"⟩
def RJxab1ab : String := "java/lang/Iterable"
def TJxab1ab : u_T := fun k => match k with
  | _ => ("", "", "", false)
def tyJxab1ab : Nat → FieldType := fun k => match k with
  | _ => .int
abbrev wsJxab1ab0 : List Cond := u_ws RJxab1ab TJxab1ab 0
theorem nmJxab1ab : ∀ a, a < 0 → ∀ b, b < 0 → a ≠ b → (TJxab1ab a).2.1 ≠ (TJxab1ab b).2.1 := by decide +kernel
theorem tyJxab1ab_ok : ∀ k, k < 0 → parseFieldDescriptor (TJxab1ab k).2.2.1 = some (tyJxab1ab k) := by decide +kernel
def RJ9 : String := "java/lang/Math"
def TJ9 : u_T := fun k => match k with
  | _ => ("", "", "", false)
def tyJ9 : Nat → FieldType := fun k => match k with
  | _ => .int
abbrev wsJ90 : List Cond := u_ws RJ9 TJ9 0
theorem nmJ9 : ∀ a, a < 0 → ∀ b, b < 0 → a ≠ b → (TJ9 a).2.1 ≠ (TJ9 b).2.1 := by decide +kernel
theorem tyJ9_ok : ∀ k, k < 0 → parseFieldDescriptor (TJ9 k).2.2.1 = some (tyJ9 k) := by decide +kernel
abbrev cJ9_abs_067f4 : ByteArray := prog_30_method_61_code
def yJ9_abs_067f4 : MethodName := ⟨RJ9, "abs", "(J)J"⟩
abbrev cJ9_max_7cf53 : ByteArray := prog_30_method_65_code
def yJ9_max_7cf53 : MethodName := ⟨RJ9, "max", "(II)I"⟩
abbrev cJ9_min_7cf53 : ByteArray := prog_30_method_69_code
def yJ9_min_7cf53 : MethodName := ⟨RJ9, "min", "(II)I"⟩
abbrev cJ9_min_f86c9 : ByteArray := prog_30_method_70_code
def yJ9_min_f86c9 : MethodName := ⟨RJ9, "min", "(JJ)J"⟩
def RJxd2413 : String := "java/lang/Number"
def TJxd2413 : u_T := fun k => match k with
  | _ => ("", "", "", false)
def tyJxd2413 : Nat → FieldType := fun k => match k with
  | _ => .int
abbrev wsJxd24130 : List Cond := u_ws RJxd2413 TJxd2413 0
theorem nmJxd2413 : ∀ a, a < 0 → ∀ b, b < 0 → a ≠ b → (TJxd2413 a).2.1 ≠ (TJxd2413 b).2.1 := by decide +kernel
theorem tyJxd2413_ok : ∀ k, k < 0 → parseFieldDescriptor (TJxd2413 k).2.2.1 = some (tyJxd2413 k) := by decide +kernel
abbrev cJxd2413_init_da8c8 : ByteArray := prog_31_method_1_code
def yJxd2413_init_da8c8 : MethodName := ⟨RJxd2413, "<init>", "()V"⟩
def RJ0 : String := "java/lang/String"
def TJ0 : u_T := fun k => match k with
  | 0 => ("java/lang/String", "value", "[B", true)
  | _ => ("java/lang/String", "coder", "B", true)
def tyJ0 : Nat → FieldType := fun k => match k with
  | 0 => .array .byte
  | _ => .byte
abbrev wsJ00 : List Cond := u_ws RJ0 TJ0 2
theorem nmJ0 : ∀ a, a < 2 → ∀ b, b < 2 → a ≠ b → (TJ0 a).2.1 ≠ (TJ0 b).2.1 := by decide +kernel
theorem tyJ0_ok : ∀ k, k < 2 → parseFieldDescriptor (TJ0 k).2.2.1 = some (tyJ0 k) := by decide +kernel
abbrev cJ0_length_8abf5 : ByteArray := prog_33_method_54_code
def yJ0_length_8abf5 : MethodName := ⟨RJ0, "length", "()I"⟩
abbrev cJ0_indexOf_0f7a4 : ByteArray := prog_33_method_79_code
def yJ0_indexOf_0f7a4 : MethodName := ⟨RJ0, "indexOf", "(I)I"⟩
abbrev cJ0_indexOf_7cf53 : ByteArray := prog_33_method_80_code
def yJ0_indexOf_7cf53 : MethodName := ⟨RJ0, "indexOf", "(II)I"⟩
abbrev cJ0_coder_7d493 : ByteArray := prog_33_method_152_code
def yJ0_coder_7d493 : MethodName := ⟨RJ0, "coder", "()B"⟩
abbrev cJ0_isLatin1_aae02 : ByteArray := prog_33_method_154_code
def yJ0_isLatin1_aae02 : MethodName := ⟨RJ0, "isLatin1", "()Z"⟩
abbrev cJ0_checkBoundsBeginEnd_23922 : ByteArray := prog_33_method_158_code
def yJ0_checkBoundsBeginEnd_23922 : MethodName := ⟨RJ0, "checkBoundsBeginEnd", "(III)V"⟩
def RJ1 : String := "java/lang/StringLatin1"
def TJ1 : u_T := fun k => match k with
  | _ => ("", "", "", false)
def tyJ1 : Nat → FieldType := fun k => match k with
  | _ => .int
abbrev wsJ10 : List Cond := u_ws RJ1 TJ1 0
theorem nmJ1 : ∀ a, a < 0 → ∀ b, b < 0 → a ≠ b → (TJ1 a).2.1 ≠ (TJ1 b).2.1 := by decide +kernel
theorem tyJ1_ok : ∀ k, k < 0 → parseFieldDescriptor (TJ1 k).2.2.1 = some (tyJ1 k) := by decide +kernel
abbrev cJ1_canEncode_9a6ad : ByteArray := prog_34_method_4_code
def yJ1_canEncode_9a6ad : MethodName := ⟨RJ1, "canEncode", "(I)Z"⟩
abbrev cJ1_indexOf_4cfef : ByteArray := prog_34_method_22_code
def yJ1_indexOf_4cfef : MethodName := ⟨RJ1, "indexOf", "([BIII)I"⟩
abbrev cJ1_indexOfChar_4cfef : ByteArray := prog_34_method_23_code
def yJ1_indexOfChar_4cfef : MethodName := ⟨RJ1, "indexOfChar", "([BIII)I"⟩
def RJ2 : String := "java/lang/StringUTF16"
def TJ2 : u_T := fun k => match k with
  | _ => ("", "", "", false)
def tyJ2 : Nat → FieldType := fun k => match k with
  | _ => .int
abbrev wsJ20 : List Cond := u_ws RJ2 TJ2 0
theorem nmJ2 : ∀ a, a < 0 → ∀ b, b < 0 → a ≠ b → (TJ2 a).2.1 ≠ (TJ2 b).2.1 := by decide +kernel
theorem tyJ2_ok : ∀ k, k < 0 → parseFieldDescriptor (TJ2 k).2.2.1 = some (tyJ2 k) := by decide +kernel
abbrev cJ2_getChar_3b067 : ByteArray := prog_35_method_5_code
def yJ2_getChar_3b067 : MethodName := ⟨RJ2, "getChar", "([BI)C"⟩
abbrev cJ2_length_9d52b : ByteArray := prog_35_method_6_code
def yJ2_length_9d52b : MethodName := ⟨RJ2, "length", "([B)I"⟩
abbrev cJ2_indexOf_4cfef : ByteArray := prog_35_method_40_code
def yJ2_indexOf_4cfef : MethodName := ⟨RJ2, "indexOf", "([BIII)I"⟩
abbrev cJ2_indexOfChar_4cfef : ByteArray := prog_35_method_47_code
def yJ2_indexOfChar_4cfef : MethodName := ⟨RJ2, "indexOfChar", "([BIII)I"⟩
abbrev cJ2_indexOfCharUnsafe_4cfef : ByteArray := prog_35_method_48_code
def yJ2_indexOfCharUnsafe_4cfef : MethodName := ⟨RJ2, "indexOfCharUnsafe", "([BIII)I"⟩
abbrev cJ2_indexOfSupplementary_4cfef : ByteArray := prog_35_method_49_code
def yJ2_indexOfSupplementary_4cfef : MethodName := ⟨RJ2, "indexOfSupplementary", "([BIII)I"⟩
abbrev cJ2_checkBoundsBeginEnd_d044e : ByteArray := prog_35_method_93_code
def yJ2_checkBoundsBeginEnd_d044e : MethodName := ⟨RJ2, "checkBoundsBeginEnd", "(II[B)V"⟩
def RJ10 : String := "java/lang/System"
def TJ10 : u_T := fun k => match k with
  | _ => ("", "", "", false)
def tyJ10 : Nat → FieldType := fun k => match k with
  | _ => .int
abbrev wsJ100 : List Cond := u_ws RJ10 TJ10 0
theorem nmJ10 : ∀ a, a < 0 → ∀ b, b < 0 → a ≠ b → (TJ10 a).2.1 ≠ (TJ10 b).2.1 := by decide +kernel
theorem tyJ10_ok : ∀ k, k < 0 → parseFieldDescriptor (TJ10 k).2.2.1 = some (tyJ10 k) := by decide +kernel
def RJxfd54e : String := "java/lang/constant/Constable"
def TJxfd54e : u_T := fun k => match k with
  | _ => ("", "", "", false)
def tyJxfd54e : Nat → FieldType := fun k => match k with
  | _ => .int
abbrev wsJxfd54e0 : List Cond := u_ws RJxfd54e TJxfd54e 0
theorem nmJxfd54e : ∀ a, a < 0 → ∀ b, b < 0 → a ≠ b → (TJxfd54e a).2.1 ≠ (TJxfd54e b).2.1 := by decide +kernel
theorem tyJxfd54e_ok : ∀ k, k < 0 → parseFieldDescriptor (TJxfd54e k).2.2.1 = some (tyJxfd54e k) := by decide +kernel
def RJx3cf43 : String := "java/lang/constant/ConstantDesc"
def TJx3cf43 : u_T := fun k => match k with
  | _ => ("", "", "", false)
def tyJx3cf43 : Nat → FieldType := fun k => match k with
  | _ => .int
abbrev wsJx3cf430 : List Cond := u_ws RJx3cf43 TJx3cf43 0
theorem nmJx3cf43 : ∀ a, a < 0 → ∀ b, b < 0 → a ≠ b → (TJx3cf43 a).2.1 ≠ (TJx3cf43 b).2.1 := by decide +kernel
theorem tyJx3cf43_ok : ∀ k, k < 0 → parseFieldDescriptor (TJx3cf43 k).2.2.1 = some (tyJx3cf43 k) := by decide +kernel
def RJxa1e45 : String := "java/util/AbstractCollection"
def TJxa1e45 : u_T := fun k => match k with
  | _ => ("", "", "", false)
def tyJxa1e45 : Nat → FieldType := fun k => match k with
  | _ => .int
abbrev wsJxa1e450 : List Cond := u_ws RJxa1e45 TJxa1e45 0
theorem nmJxa1e45 : ∀ a, a < 0 → ∀ b, b < 0 → a ≠ b → (TJxa1e45 a).2.1 ≠ (TJxa1e45 b).2.1 := by decide +kernel
theorem tyJxa1e45_ok : ∀ k, k < 0 → parseFieldDescriptor (TJxa1e45 k).2.2.1 = some (tyJxa1e45 k) := by decide +kernel
abbrev cJxa1e45_init_da8c8 : ByteArray := prog_41_method_1_code
def yJxa1e45_init_da8c8 : MethodName := ⟨RJxa1e45, "<init>", "()V"⟩
def RJxc12de : String := "java/util/AbstractList"
def TJxc12de : u_T := fun k => match k with
  | _ => ("", "", "", false)
def tyJxc12de : Nat → FieldType := fun k => match k with
  | _ => .int
abbrev wsJxc12de0 : List Cond := u_ws RJxc12de TJxc12de 0
theorem nmJxc12de : ∀ a, a < 0 → ∀ b, b < 0 → a ≠ b → (TJxc12de a).2.1 ≠ (TJxc12de b).2.1 := by decide +kernel
theorem tyJxc12de_ok : ∀ k, k < 0 → parseFieldDescriptor (TJxc12de k).2.2.1 = some (tyJxc12de k) := by decide +kernel
abbrev cJxc12de_init_da8c8 : ByteArray := prog_42_method_1_code
def yJxc12de_init_da8c8 : MethodName := ⟨RJxc12de, "<init>", "()V"⟩
def RJx35411 : String := "java/util/ArrayList$Itr"
def TJx35411 : u_T := fun k => match k with
  | 0 => ("java/util/ArrayList$Itr", "cursor", "I", false)
  | 1 => ("java/util/ArrayList$Itr", "lastRet", "I", false)
  | 2 => ("java/util/ArrayList$Itr", "expectedModCount", "I", false)
  | _ => ("java/util/ArrayList$Itr", "this$0", "Ljava/util/ArrayList;", true)
def tyJx35411 : Nat → FieldType := fun k => match k with
  | 0 => .int
  | 1 => .int
  | 2 => .int
  | _ => .object "java/util/ArrayList"
abbrev wsJx354110 : List Cond := u_ws RJx35411 TJx35411 4
theorem nmJx35411 : ∀ a, a < 4 → ∀ b, b < 4 → a ≠ b → (TJx35411 a).2.1 ≠ (TJx35411 b).2.1 := by decide +kernel
theorem tyJx35411_ok : ∀ k, k < 4 → parseFieldDescriptor (TJx35411 k).2.2.1 = some (tyJx35411 k) := by decide +kernel
abbrev cJx35411_init_45d68 : ByteArray := prog_44_method_1_code
def yJx35411_init_45d68 : MethodName := ⟨RJx35411, "<init>", "(Ljava/util/ArrayList;)V"⟩
abbrev cJx35411_hasNext_aae02 : ByteArray := prog_44_method_2_code
def yJx35411_hasNext_aae02 : MethodName := ⟨RJx35411, "hasNext", "()Z"⟩
abbrev cJx35411_next_0502b : ByteArray := prog_44_method_3_code
def yJx35411_next_0502b : MethodName := ⟨RJx35411, "next", "()Ljava/lang/Object;"⟩
abbrev cJx35411_checkForComodification_da8c8 : ByteArray := prog_44_method_6_code
def yJx35411_checkForComodification_da8c8 : MethodName := ⟨RJx35411, "checkForComodification", "()V"⟩
def RJx4a65c : String := "java/util/ArrayList"
def TJx4a65c : u_T := fun k => match k with
  | 0 => ("java/util/AbstractList", "modCount", "I", false)
  | 1 => ("java/util/ArrayList", "elementData", "[Ljava/lang/Object;", false)
  | _ => ("java/util/ArrayList", "size", "I", false)
def tyJx4a65c : Nat → FieldType := fun k => match k with
  | 0 => .int
  | 1 => .array (.object "java/lang/Object")
  | _ => .int
abbrev wsJx4a65c0 : List Cond := u_ws RJx4a65c TJx4a65c 3
theorem nmJx4a65c : ∀ a, a < 3 → ∀ b, b < 3 → a ≠ b → (TJx4a65c a).2.1 ≠ (TJx4a65c b).2.1 := by decide +kernel
theorem tyJx4a65c_ok : ∀ k, k < 3 → parseFieldDescriptor (TJx4a65c k).2.2.1 = some (tyJx4a65c k) := by decide +kernel
abbrev cJx4a65c_init_da8c8 : ByteArray := prog_43_method_2_code
def yJx4a65c_init_da8c8 : MethodName := ⟨RJx4a65c, "<init>", "()V"⟩
abbrev cJx4a65c_grow_92f84 : ByteArray := prog_43_method_6_code
def yJx4a65c_grow_92f84 : MethodName := ⟨RJx4a65c, "grow", "(I)[Ljava/lang/Object;"⟩
abbrev cJx4a65c_grow_d5877 : ByteArray := prog_43_method_7_code
def yJx4a65c_grow_d5877 : MethodName := ⟨RJx4a65c, "grow", "()[Ljava/lang/Object;"⟩
abbrev cJx4a65c_size_8abf5 : ByteArray := prog_43_method_8_code
def yJx4a65c_size_8abf5 : MethodName := ⟨RJx4a65c, "size", "()I"⟩
abbrev cJx4a65c_isEmpty_aae02 : ByteArray := prog_43_method_9_code
def yJx4a65c_isEmpty_aae02 : MethodName := ⟨RJx4a65c, "isEmpty", "()Z"⟩
abbrev cJx4a65c_elementData_915e3 : ByteArray := prog_43_method_18_code
def yJx4a65c_elementData_915e3 : MethodName := ⟨RJx4a65c, "elementData", "(I)Ljava/lang/Object;"⟩
abbrev cJx4a65c_get_915e3 : ByteArray := prog_43_method_20_code
def yJx4a65c_get_915e3 : MethodName := ⟨RJx4a65c, "get", "(I)Ljava/lang/Object;"⟩
abbrev cJx4a65c_add_72be8 : ByteArray := prog_43_method_24_code
def yJx4a65c_add_72be8 : MethodName := ⟨RJx4a65c, "add", "(Ljava/lang/Object;[Ljava/lang/Object;I)V"⟩
abbrev cJx4a65c_add_9ea2d : ByteArray := prog_43_method_25_code
def yJx4a65c_add_9ea2d : MethodName := ⟨RJx4a65c, "add", "(Ljava/lang/Object;)Z"⟩
abbrev cJx4a65c_clear_da8c8 : ByteArray := prog_43_method_40_code
def yJx4a65c_clear_da8c8 : MethodName := ⟨RJx4a65c, "clear", "()V"⟩
abbrev cJx4a65c_iterator_32c93 : ByteArray := prog_43_method_55_code
def yJx4a65c_iterator_32c93 : MethodName := ⟨RJx4a65c, "iterator", "()Ljava/util/Iterator;"⟩
def RJ7 : String := "java/util/Arrays"
def TJ7 : u_T := fun k => match k with
  | _ => ("", "", "", false)
def tyJ7 : Nat → FieldType := fun k => match k with
  | _ => .int
abbrev wsJ70 : List Cond := u_ws RJ7 TJ7 0
theorem nmJ7 : ∀ a, a < 0 → ∀ b, b < 0 → a ≠ b → (TJ7 a).2.1 ≠ (TJ7 b).2.1 := by decide +kernel
theorem tyJ7_ok : ∀ k, k < 0 → parseFieldDescriptor (TJ7 k).2.2.1 = some (tyJ7 k) := by decide +kernel
abbrev cJ7_copyOf_1904c : ByteArray := prog_45_method_119_code
def yJ7_copyOf_1904c : MethodName := ⟨RJ7, "copyOf", "([Ljava/lang/Object;I)[Ljava/lang/Object;"⟩
abbrev cJ7_copyOf_6403c : ByteArray := prog_45_method_120_code
def yJ7_copyOf_6403c : MethodName := ⟨RJ7, "copyOf", "([Ljava/lang/Object;ILjava/lang/Class;)[Ljava/lang/Object;"⟩
def RJx5ef63 : String := "java/util/Collection"
def TJx5ef63 : u_T := fun k => match k with
  | _ => ("", "", "", false)
def tyJx5ef63 : Nat → FieldType := fun k => match k with
  | _ => .int
abbrev wsJx5ef630 : List Cond := u_ws RJx5ef63 TJx5ef63 0
theorem nmJx5ef63 : ∀ a, a < 0 → ∀ b, b < 0 → a ≠ b → (TJx5ef63 a).2.1 ≠ (TJx5ef63 b).2.1 := by decide +kernel
theorem tyJx5ef63_ok : ∀ k, k < 0 → parseFieldDescriptor (TJx5ef63 k).2.2.1 = some (tyJx5ef63 k) := by decide +kernel
def RJx4d0d8 : String := "java/util/Iterator"
def TJx4d0d8 : u_T := fun k => match k with
  | _ => ("", "", "", false)
def tyJx4d0d8 : Nat → FieldType := fun k => match k with
  | _ => .int
abbrev wsJx4d0d80 : List Cond := u_ws RJx4d0d8 TJx4d0d8 0
theorem nmJx4d0d8 : ∀ a, a < 0 → ∀ b, b < 0 → a ≠ b → (TJx4d0d8 a).2.1 ≠ (TJx4d0d8 b).2.1 := by decide +kernel
theorem tyJx4d0d8_ok : ∀ k, k < 0 → parseFieldDescriptor (TJx4d0d8 k).2.2.1 = some (tyJx4d0d8 k) := by decide +kernel
def RJxbd725 : String := "java/util/List"
def TJxbd725 : u_T := fun k => match k with
  | _ => ("", "", "", false)
def tyJxbd725 : Nat → FieldType := fun k => match k with
  | _ => .int
abbrev wsJxbd7250 : List Cond := u_ws RJxbd725 TJxbd725 0
theorem nmJxbd725 : ∀ a, a < 0 → ∀ b, b < 0 → a ≠ b → (TJxbd725 a).2.1 ≠ (TJxbd725 b).2.1 := by decide +kernel
theorem tyJxbd725_ok : ∀ k, k < 0 → parseFieldDescriptor (TJxbd725 k).2.2.1 = some (tyJxbd725 k) := by decide +kernel
def RJ15 : String := "java/util/Objects"
def TJ15 : u_T := fun k => match k with
  | _ => ("", "", "", false)
def tyJ15 : Nat → FieldType := fun k => match k with
  | _ => .int
abbrev wsJ150 : List Cond := u_ws RJ15 TJ15 0
theorem nmJ15 : ∀ a, a < 0 → ∀ b, b < 0 → a ≠ b → (TJ15 a).2.1 ≠ (TJ15 b).2.1 := by decide +kernel
theorem tyJ15_ok : ∀ k, k < 0 → parseFieldDescriptor (TJ15 k).2.2.1 = some (tyJ15 k) := by decide +kernel
abbrev cJ15_checkIndex_7cf53 : ByteArray := prog_50_method_17_code
def yJ15_checkIndex_7cf53 : MethodName := ⟨RJ15, "checkIndex", "(II)I"⟩
def RJxf0a74 : String := "java/util/RandomAccess"
def TJxf0a74 : u_T := fun k => match k with
  | _ => ("", "", "", false)
def tyJxf0a74 : Nat → FieldType := fun k => match k with
  | _ => .int
abbrev wsJxf0a740 : List Cond := u_ws RJxf0a74 TJxf0a74 0
theorem nmJxf0a74 : ∀ a, a < 0 → ∀ b, b < 0 → a ≠ b → (TJxf0a74 a).2.1 ≠ (TJxf0a74 b).2.1 := by decide +kernel
theorem tyJxf0a74_ok : ∀ k, k < 0 → parseFieldDescriptor (TJxf0a74 k).2.2.1 = some (tyJxf0a74 k) := by decide +kernel
def RJxa66e6 : String := "java/util/SequencedCollection"
def TJxa66e6 : u_T := fun k => match k with
  | _ => ("", "", "", false)
def tyJxa66e6 : Nat → FieldType := fun k => match k with
  | _ => .int
abbrev wsJxa66e60 : List Cond := u_ws RJxa66e6 TJxa66e6 0
theorem nmJxa66e6 : ∀ a, a < 0 → ∀ b, b < 0 → a ≠ b → (TJxa66e6 a).2.1 ≠ (TJxa66e6 b).2.1 := by decide +kernel
theorem tyJxa66e6_ok : ∀ k, k < 0 → parseFieldDescriptor (TJxa66e6 k).2.2.1 = some (tyJxa66e6 k) := by decide +kernel
def RJ8 : String := "jdk/internal/util/ArraysSupport"
def TJ8 : u_T := fun k => match k with
  | _ => ("", "", "", false)
def tyJ8 : Nat → FieldType := fun k => match k with
  | _ => .int
abbrev wsJ80 : List Cond := u_ws RJ8 TJ8 0
theorem nmJ8 : ∀ a, a < 0 → ∀ b, b < 0 → a ≠ b → (TJ8 a).2.1 ≠ (TJ8 b).2.1 := by decide +kernel
theorem tyJ8_ok : ∀ k, k < 0 → parseFieldDescriptor (TJ8 k).2.2.1 = some (tyJ8 k) := by decide +kernel
abbrev cJ8_newLength_cabcc : ByteArray := prog_53_method_27_code
def yJ8_newLength_cabcc : MethodName := ⟨RJ8, "newLength", "(III)I"⟩
abbrev cJ8_hugeLength_7cf53 : ByteArray := prog_53_method_28_code
def yJ8_hugeLength_7cf53 : MethodName := ⟨RJ8, "hugeLength", "(II)I"⟩
def RJ3 : String := "jdk/internal/util/Preconditions"
def TJ3 : u_T := fun k => match k with
  | _ => ("", "", "", false)
def tyJ3 : Nat → FieldType := fun k => match k with
  | _ => .int
abbrev wsJ30 : List Cond := u_ws RJ3 TJ3 0
theorem nmJ3 : ∀ a, a < 0 → ∀ b, b < 0 → a ≠ b → (TJ3 a).2.1 ≠ (TJ3 b).2.1 := by decide +kernel
theorem tyJ3_ok : ∀ k, k < 0 → parseFieldDescriptor (TJ3 k).2.2.1 = some (tyJ3 k) := by decide +kernel
abbrev cJ3_checkIndex_8e157 : ByteArray := prog_54_method_11_code
def yJ3_checkIndex_8e157 : MethodName := ⟨RJ3, "checkIndex", "(IILjava/util/function/BiFunction;)I"⟩
abbrev cJ3_checkFromToIndex_8c36e : ByteArray := prog_54_method_12_code
def yJ3_checkFromToIndex_8c36e : MethodName := ⟨RJ3, "checkFromToIndex", "(IIILjava/util/function/BiFunction;)I"⟩
def RL : String := "LysimeterFieldLaw"
abbrev cL_column : ByteArray := method_3_code
def yL_column : MethodName := ⟨RL, "column", "(LLysimeterField;C[J)I"⟩
abbrev cL_layer : ByteArray := method_4_code
def yL_layer : MethodName := ⟨RL, "layer", "(LLysimeterField;ICI[J)I"⟩
abbrev cL_wet : ByteArray := method_5_code
def yL_wet : MethodName := ⟨RL, "wet", "(LLysimeterField;III[J)I"⟩
abbrev cL_water : ByteArray := method_6_code
def yL_water : MethodName := ⟨RL, "water", "(LLysimeterField;II[J)I"⟩
abbrev cL_capacity : ByteArray := method_7_code
def yL_capacity : MethodName := ⟨RL, "capacity", "(LLysimeterField;II[J)I"⟩
abbrev cL_link : ByteArray := method_8_code
def yL_link : MethodName := ⟨RL, "link", "(LLysimeterField;II[J)I"⟩
abbrev cL_scale : ByteArray := method_9_code
def yL_scale : MethodName := ⟨RL, "scale", "(LLysimeterField;II[J)I"⟩
abbrev cL_plant : ByteArray := method_10_code
def yL_plant : MethodName := ⟨RL, "plant", "(LLysimeterField;III[J)I"⟩
abbrev cL_harvest : ByteArray := method_11_code
def yL_harvest : MethodName := ⟨RL, "harvest", "(LLysimeterField;I[J)I"⟩
abbrev cL_stress : ByteArray := method_12_code
def yL_stress : MethodName := ⟨RL, "stress", "(LLysimeterField;II[J)I"⟩
abbrev cL_mulch : ByteArray := method_13_code
def yL_mulch : MethodName := ⟨RL, "mulch", "(LLysimeterField;IZ[J)I"⟩
abbrev cL_rule : ByteArray := method_14_code
def yL_rule : MethodName := ⟨RL, "rule", "(LLysimeterField;III[J)I"⟩
abbrev cL_spread : ByteArray := method_15_code
def yL_spread : MethodName := ⟨RL, "spread", "(LLysimeterField;ICI[J)I"⟩
abbrev cL_manure : ByteArray := method_16_code
def yL_manure : MethodName := ⟨RL, "manure", "(LLysimeterField;II[J)I"⟩
abbrev cL_solute : ByteArray := method_17_code
def yL_solute : MethodName := ⟨RL, "solute", "(LLysimeterField;IIC[J)I"⟩
abbrev cL_out : ByteArray := method_18_code
def yL_out : MethodName := ⟨RL, "out", "(LLysimeterField;IC[J)I"⟩
abbrev cL_eaten : ByteArray := method_19_code
def yL_eaten : MethodName := ⟨RL, "eaten", "(LLysimeterField;I[J)I"⟩
abbrev cL_weather : ByteArray := method_20_code
def yL_weather : MethodName := ⟨RL, "weather", "(LLysimeterField;III[J)I"⟩
abbrev cL_law : ByteArray := method_21_code
def yL_law : MethodName := ⟨RL, "law", "(LLysimeterField;II[J)I"⟩
abbrev cL_hours : ByteArray := method_22_code
def yL_hours : MethodName := ⟨RL, "hours", "(LLysimeterField;I[J)I"⟩
abbrev cL_standing : ByteArray := method_23_code
def yL_standing : MethodName := ⟨RL, "standing", "(LLysimeterField;I[J)I"⟩
abbrev cL_recharge : ByteArray := method_24_code
def yL_recharge : MethodName := ⟨RL, "recharge", "(LLysimeterField;I[J)I"⟩
abbrev cL_runoff : ByteArray := method_25_code
def yL_runoff : MethodName := ⟨RL, "runoff", "(LLysimeterField;I[J)I"⟩
abbrev cL_vapour : ByteArray := method_26_code
def yL_vapour : MethodName := ⟨RL, "vapour", "(LLysimeterField;I[J)I"⟩
abbrev cL_isFrozen : ByteArray := method_27_code
def yL_isFrozen : MethodName := ⟨RL, "isFrozen", "(LLysimeterField;II[J)I"⟩
abbrev cL_frost : ByteArray := method_28_code
def yL_frost : MethodName := ⟨RL, "frost", "(LLysimeterField;II[J)I"⟩
abbrev cL_heave : ByteArray := method_29_code
def yL_heave : MethodName := ⟨RL, "heave", "(LLysimeterField;I[J)I"⟩
abbrev cL_crack : ByteArray := method_30_code
def yL_crack : MethodName := ⟨RL, "crack", "(LLysimeterField;I[J)I"⟩
abbrev cL_tension : ByteArray := method_31_code
def yL_tension : MethodName := ⟨RL, "tension", "(LLysimeterField;II[J)I"⟩
abbrev cL_reflection : ByteArray := method_32_code
def yL_reflection : MethodName := ⟨RL, "reflection", "(LLysimeterField;II[J)I"⟩
abbrev cL_setRight : ByteArray := method_33_code
def yL_setRight : MethodName := ⟨RL, "setRight", "(LLysimeterField;I[J)I"⟩
abbrev cL_weigh : ByteArray := method_34_code
def yL_weigh : MethodName := ⟨RL, "weigh", "(LLysimeterField;I[J)I"⟩
abbrev cL_fines : ByteArray := method_35_code
def yL_fines : MethodName := ⟨RL, "fines", "(LLysimeterField;I[J)I"⟩
abbrev cL_forecast : ByteArray := method_36_code
def yL_forecast : MethodName := ⟨RL, "forecast", "(LLysimeterField;III[J)I"⟩
abbrev cL_fits : ByteArray := method_37_code
def yL_fits : MethodName := ⟨RL, "fits", "(LLysimeterField;III[J)I"⟩
abbrev cL_fit : ByteArray := method_38_code
def yL_fit : MethodName := ⟨RL, "fit", "(LLysimeterField;IIII[J)I"⟩
abbrev cL_frozenShare : ByteArray := method_39_code
def yL_frozenShare : MethodName := ⟨RL, "frozenShare", "(LLysimeterField;[D)I"⟩
abbrev cL_meanWater : ByteArray := method_40_code
def yL_meanWater : MethodName := ⟨RL, "meanWater", "(LLysimeterField;[D)I"⟩
abbrev cL_law_ : ByteArray := code
def yL_law_ : MethodName := ⟨RL, "law", "([I)Z"⟩
abbrev vwCl : List vw_C := [(RJ0, TJ0, 2), (RJ6, TJ6, 1), (RJx00060, TJx00060, 6), (RJx35411, TJx35411, 4), (RJx4a65c, TJx4a65c, 3), (RX0, TX0, 11), (RX1, TX1, 13), (RX2, TX2, 9), (RX3, TX3, 3), (RX5, TX5, 1), (RX6, TX6, 3), (RX7, TX7, 7), (RX8, TX8, 18), (RX9, TX9, 9), (RX10, TX10, 3), (RX11, TX11, 5), (RX12, TX12, 4)]
