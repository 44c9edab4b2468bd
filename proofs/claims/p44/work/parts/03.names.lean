def RX0 : String := "LysimeterField$Account"
def TX0 : u_T := fun k => match k with
  | 0 => ("LysimeterField$Account", "given", "LLysimeterField$Solutes;", true)
  | 1 => ("LysimeterField$Account", "out", "LLysimeterField$Solutes;", true)
  | 2 => ("LysimeterField$Account", "told", "J", false)
  | 3 => ("LysimeterField$Account", "rained", "J", false)
  | 4 => ("LysimeterField$Account", "watered", "J", false)
  | 5 => ("LysimeterField$Account", "recharge", "J", false)
  | 6 => ("LysimeterField$Account", "runoff", "J", false)
  | 7 => ("LysimeterField$Account", "lost", "J", false)
  | 8 => ("LysimeterField$Account", "vapour", "J", false)
  | 9 => ("LysimeterField$Account", "eaten", "J", false)
  | _ => ("LysimeterField$Account", "fines", "J", false)
def tyX0 : Nat → FieldType := fun k => match k with
  | 0 => .object "LysimeterField$Solutes"
  | 1 => .object "LysimeterField$Solutes"
  | 2 => .long
  | 3 => .long
  | 4 => .long
  | 5 => .long
  | 6 => .long
  | 7 => .long
  | 8 => .long
  | 9 => .long
  | _ => .long
abbrev wsX00 : List Cond := u_ws RX0 TX0 11
theorem nmX0 : ∀ a, a < 11 → ∀ b, b < 11 → a ≠ b → (TX0 a).2.1 ≠ (TX0 b).2.1 := by decide +kernel
theorem tyX0_ok : ∀ k, k < 11 → parseFieldDescriptor (TX0 k).2.2.1 = some (tyX0 k) := by decide +kernel
abbrev cX0_init : ByteArray := prog_2_method_1_code
def yX0_init : MethodName := ⟨RX0, "<init>", "()V"⟩
def RX1 : String := "LysimeterField$Column"
def TX1 : u_T := fun k => match k with
  | 0 => ("LysimeterField$Column", "bottom", "C", true)
  | 1 => ("LysimeterField$Column", "layers", "Ljava/util/ArrayList;", true)
  | 2 => ("LysimeterField$Column", "plants", "Ljava/util/ArrayList;", true)
  | 3 => ("LysimeterField$Column", "account", "LLysimeterField$Account;", true)
  | 4 => ("LysimeterField$Column", "link", "I", false)
  | 5 => ("LysimeterField$Column", "scale", "I", false)
  | 6 => ("LysimeterField$Column", "mulched", "Z", false)
  | 7 => ("LysimeterField$Column", "threshold", "I", false)
  | 8 => ("LysimeterField$Column", "watering", "I", false)
  | 9 => ("LysimeterField$Column", "standing", "I", false)
  | 10 => ("LysimeterField$Column", "rightSince", "I", false)
  | 11 => ("LysimeterField$Column", "running", "J", false)
  | _ => ("LysimeterField$Column", "manure", "J", false)
def tyX1 : Nat → FieldType := fun k => match k with
  | 0 => .char
  | 1 => .object "java/util/ArrayList"
  | 2 => .object "java/util/ArrayList"
  | 3 => .object "LysimeterField$Account"
  | 4 => .int
  | 5 => .int
  | 6 => .boolean
  | 7 => .int
  | 8 => .int
  | 9 => .int
  | 10 => .int
  | 11 => .long
  | _ => .long
abbrev wsX10 : List Cond := u_ws RX1 TX1 13
theorem nmX1 : ∀ a, a < 13 → ∀ b, b < 13 → a ≠ b → (TX1 a).2.1 ≠ (TX1 b).2.1 := by decide +kernel
theorem tyX1_ok : ∀ k, k < 13 → parseFieldDescriptor (TX1 k).2.2.1 = some (tyX1 k) := by decide +kernel
abbrev cX1_init : ByteArray := prog_3_method_1_code
def yX1_init : MethodName := ⟨RX1, "<init>", "(CI)V"⟩
abbrev cX1_becomeLike : ByteArray := prog_3_method_2_code
def yX1_becomeLike : MethodName := ⟨RX1, "becomeLike", "(LLysimeterField$Column;)V"⟩
abbrev cX1_goThroughAnHour : ByteArray := prog_3_method_3_code
def yX1_goThroughAnHour : MethodName := ⟨RX1, "goThroughAnHour", "(III)J"⟩
abbrev cX1_topOrNull : ByteArray := prog_3_method_4_code
def yX1_topOrNull : MethodName := ⟨RX1, "topOrNull", "()LLysimeterField$Layer;"⟩
abbrev cX1_letFrostMove : ByteArray := prog_3_method_5_code
def yX1_letFrostMove : MethodName := ⟨RX1, "letFrostMove", "(I)V"⟩
abbrev cX1_uppermost : ByteArray := prog_3_method_6_code
def yX1_uppermost : MethodName := ⟨RX1, "uppermost", "(Z)LLysimeterField$Layer;"⟩
abbrev cX1_letWaterCome : ByteArray := prog_3_method_7_code
def yX1_letWaterCome : MethodName := ⟨RX1, "letWaterCome", "(I)J"⟩
abbrev cX1_takeArrivals : ByteArray := prog_3_method_8_code
def yX1_takeArrivals : MethodName := ⟨RX1, "takeArrivals", "(I)J"⟩
abbrev cX1_takeWatering : ByteArray := prog_3_method_9_code
def yX1_takeWatering : MethodName := ⟨RX1, "takeWatering", "(LLysimeterField$Layer;)I"⟩
abbrev cX1_fillCrack : ByteArray := prog_3_method_10_code
def yX1_fillCrack : MethodName := ⟨RX1, "fillCrack", "(LLysimeterField$Layer;J)I"⟩
abbrev cX1_soakIn : ByteArray := prog_3_method_11_code
def yX1_soakIn : MethodName := ⟨RX1, "soakIn", "(LLysimeterField$Layer;J)I"⟩
abbrev cX1_crackEnd : ByteArray := prog_3_method_12_code
def yX1_crackEnd : MethodName := ⟨RX1, "crackEnd", "(LLysimeterField$Layer;)LLysimeterField$Layer;"⟩
abbrev cX1_crackBetween : ByteArray := prog_3_method_13_code
def yX1_crackBetween : MethodName := ⟨RX1, "crackBetween", "(LLysimeterField$Layer;LLysimeterField$Layer;)I"⟩
abbrev cX1_crackCanTake : ByteArray := prog_3_method_14_code
def yX1_crackCanTake : MethodName := ⟨RX1, "crackCanTake", "()I"⟩
abbrev cX1_letWaterSink : ByteArray := prog_3_method_15_code
def yX1_letWaterSink : MethodName := ⟨RX1, "letWaterSink", "()V"⟩
abbrev cX1_letDrink : ByteArray := prog_3_method_16_code
def yX1_letDrink : MethodName := ⟨RX1, "letDrink", "(LLysimeterField$Plant;)V"⟩
abbrev cX1_wettest : ByteArray := prog_3_method_17_code
def yX1_wettest : MethodName := ⟨RX1, "wettest", "(I)LLysimeterField$Layer;"⟩
abbrev cX1_letWaterDry : ByteArray := prog_3_method_18_code
def yX1_letWaterDry : MethodName := ⟨RX1, "letWaterDry", "(I)V"⟩
abbrev cX1_makeNitrate : ByteArray := prog_3_method_19_code
def yX1_makeNitrate : MethodName := ⟨RX1, "makeNitrate", "(I)V"⟩
abbrev cX1_eatNitrate : ByteArray := prog_3_method_20_code
def yX1_eatNitrate : MethodName := ⟨RX1, "eatNitrate", "(I)V"⟩
abbrev cX1_waterOfLayers : ByteArray := prog_3_method_21_code
def yX1_waterOfLayers : MethodName := ⟨RX1, "waterOfLayers", "()I"⟩
abbrev cX1_frozenWater : ByteArray := prog_3_method_22_code
def yX1_frozenWater : MethodName := ⟨RX1, "frozenWater", "()I"⟩
abbrev cX1_frozenLayers : ByteArray := prog_3_method_23_code
def yX1_frozenLayers : MethodName := ⟨RX1, "frozenLayers", "()I"⟩
abbrev cX1_missingWater : ByteArray := prog_3_method_24_code
def yX1_missingWater : MethodName := ⟨RX1, "missingWater", "()J"⟩
abbrev cX1_layersHold : ByteArray := prog_3_method_25_code
def yX1_layersHold : MethodName := ⟨RX1, "layersHold", "()Z"⟩
abbrev cX1_solutesHold : ByteArray := prog_3_method_26_code
def yX1_solutesHold : MethodName := ⟨RX1, "solutesHold", "()Z"⟩
def RX2 : String := "LysimeterField$Layer"
def TX2 : u_T := fun k => match k with
  | 0 => ("LysimeterField$Layer", "soil", "LLysimeterField$Soil;", true)
  | 1 => ("LysimeterField$Layer", "thickness", "I", true)
  | 2 => ("LysimeterField$Layer", "capacity", "I", true)
  | 3 => ("LysimeterField$Layer", "field", "I", true)
  | 4 => ("LysimeterField$Layer", "wilting", "I", true)
  | 5 => ("LysimeterField$Layer", "solutes", "LLysimeterField$Solutes;", true)
  | 6 => ("LysimeterField$Layer", "water", "I", false)
  | 7 => ("LysimeterField$Layer", "frost", "I", false)
  | _ => ("LysimeterField$Layer", "frozen", "Z", false)
def tyX2 : Nat → FieldType := fun k => match k with
  | 0 => .object "LysimeterField$Soil"
  | 1 => .int
  | 2 => .int
  | 3 => .int
  | 4 => .int
  | 5 => .object "LysimeterField$Solutes"
  | 6 => .int
  | 7 => .int
  | _ => .boolean
abbrev wsX20 : List Cond := u_ws RX2 TX2 9
theorem nmX2 : ∀ a, a < 9 → ∀ b, b < 9 → a ≠ b → (TX2 a).2.1 ≠ (TX2 b).2.1 := by decide +kernel
theorem tyX2_ok : ∀ k, k < 9 → parseFieldDescriptor (TX2 k).2.2.1 = some (tyX2 k) := by decide +kernel
abbrev cX2_init : ByteArray := prog_4_method_1_code
def yX2_init : MethodName := ⟨RX2, "<init>", "(LLysimeterField$Soil;I)V"⟩
abbrev cX2_room : ByteArray := prog_4_method_2_code
def yX2_room : MethodName := ⟨RX2, "room", "()I"⟩
abbrev cX2_canReceive : ByteArray := prog_4_method_3_code
def yX2_canReceive : MethodName := ⟨RX2, "canReceive", "()I"⟩
abbrev cX2_canFeedRoots : ByteArray := prog_4_method_4_code
def yX2_canFeedRoots : MethodName := ⟨RX2, "canFeedRoots", "()I"⟩
abbrev cX2_canGiveToAir : ByteArray := prog_4_method_5_code
def yX2_canGiveToAir : MethodName := ⟨RX2, "canGiveToAir", "()I"⟩
abbrev cX2_canSink : ByteArray := prog_4_method_6_code
def yX2_canSink : MethodName := ⟨RX2, "canSink", "(I)I"⟩
abbrev cX2_hundredthsOfWater : ByteArray := prog_4_method_7_code
def yX2_hundredthsOfWater : MethodName := ⟨RX2, "hundredthsOfWater", "()I"⟩
abbrev cX2_freeze : ByteArray := prog_4_method_8_code
def yX2_freeze : MethodName := ⟨RX2, "freeze", "(I)V"⟩
abbrev cX2_thaw : ByteArray := prog_4_method_9_code
def yX2_thaw : MethodName := ⟨RX2, "thaw", "(I)V"⟩
abbrev cX2_sendWater : ByteArray := prog_4_method_10_code
def yX2_sendWater : MethodName := ⟨RX2, "sendWater", "(ILLysimeterField$Solutes;)V"⟩
abbrev cX2_becomeLike : ByteArray := prog_4_method_11_code
def yX2_becomeLike : MethodName := ⟨RX2, "becomeLike", "(LLysimeterField$Layer;)V"⟩
def RX3 : String := "LysimeterField$Plant"
def TX3 : u_T := fun k => match k with
  | 0 => ("LysimeterField$Plant", "reach", "I", true)
  | 1 => ("LysimeterField$Plant", "thirst", "I", true)
  | _ => ("LysimeterField$Plant", "stress", "J", false)
def tyX3 : Nat → FieldType := fun k => match k with
  | 0 => .int
  | 1 => .int
  | _ => .long
abbrev wsX30 : List Cond := u_ws RX3 TX3 3
theorem nmX3 : ∀ a, a < 3 → ∀ b, b < 3 → a ≠ b → (TX3 a).2.1 ≠ (TX3 b).2.1 := by decide +kernel
theorem tyX3_ok : ∀ k, k < 3 → parseFieldDescriptor (TX3 k).2.2.1 = some (tyX3 k) := by decide +kernel
abbrev cX3_init : ByteArray := prog_5_method_1_code
def yX3_init : MethodName := ⟨RX3, "<init>", "(II)V"⟩
def RX4 : String := "LysimeterField$Soil"
def TX4 : u_T := fun k => match k with
  | _ => ("", "", "", false)
def tyX4 : Nat → FieldType := fun k => match k with
  | _ => .int
abbrev wsX40 : List Cond := u_ws RX4 TX4 0
theorem nmX4 : ∀ a, a < 0 → ∀ b, b < 0 → a ≠ b → (TX4 a).2.1 ≠ (TX4 b).2.1 := by decide +kernel
theorem tyX4_ok : ∀ k, k < 0 → parseFieldDescriptor (TX4 k).2.2.1 = some (tyX4 k) := by decide +kernel
def RX5 : String := "LysimeterField$Solutes"
def TX5 : u_T := fun k => match k with
  | _ => ("LysimeterField$Solutes", "amounts", "[J", true)
def tyX5 : Nat → FieldType := fun k => match k with
  | _ => .array .long
abbrev wsX50 : List Cond := u_ws RX5 TX5 1
theorem nmX5 : ∀ a, a < 1 → ∀ b, b < 1 → a ≠ b → (TX5 a).2.1 ≠ (TX5 b).2.1 := by decide +kernel
theorem tyX5_ok : ∀ k, k < 1 → parseFieldDescriptor (TX5 k).2.2.1 = some (tyX5 k) := by decide +kernel
abbrev cX5_init : ByteArray := prog_7_method_1_code
def yX5_init : MethodName := ⟨RX5, "<init>", "()V"⟩
abbrev cX5_amountOf : ByteArray := prog_7_method_2_code
def yX5_amountOf : MethodName := ⟨RX5, "amountOf", "(I)J"⟩
abbrev cX5_change : ByteArray := prog_7_method_3_code
def yX5_change : MethodName := ⟨RX5, "change", "(IJ)V"⟩
abbrev cX5_giveShare : ByteArray := prog_7_method_4_code
def yX5_giveShare : MethodName := ⟨RX5, "giveShare", "(IILLysimeterField$Solutes;)V"⟩
def RX6 : String := "LysimeterField$Weather"
def TX6 : u_T := fun k => match k with
  | 0 => ("LysimeterField$Weather", "temperature", "I", false)
  | 1 => ("LysimeterField$Weather", "rain", "I", false)
  | _ => ("LysimeterField$Weather", "thirst", "I", false)
def tyX6 : Nat → FieldType := fun k => match k with
  | 0 => .int
  | 1 => .int
  | _ => .int
abbrev wsX60 : List Cond := u_ws RX6 TX6 3
theorem nmX6 : ∀ a, a < 3 → ∀ b, b < 3 → a ≠ b → (TX6 a).2.1 ≠ (TX6 b).2.1 := by decide +kernel
theorem tyX6_ok : ∀ k, k < 3 → parseFieldDescriptor (TX6 k).2.2.1 = some (tyX6 k) := by decide +kernel
abbrev cX6_init : ByteArray := prog_8_method_1_code
def yX6_init : MethodName := ⟨RX6, "<init>", "()V"⟩
def RX7 : String := "LysimeterField"
def TX7 : u_T := fun k => match k with
  | 0 => ("LysimeterField", "columns", "Ljava/util/ArrayList;", true)
  | 1 => ("LysimeterField", "thoughts", "Ljava/util/ArrayList;", true)
  | 2 => ("LysimeterField", "now", "LLysimeterField$Weather;", true)
  | 3 => ("LysimeterField", "misses", "[J", true)
  | 4 => ("LysimeterField", "limit", "I", false)
  | 5 => ("LysimeterField", "fine", "I", false)
  | _ => ("LysimeterField", "hoursInAll", "I", false)
def tyX7 : Nat → FieldType := fun k => match k with
  | 0 => .object "java/util/ArrayList"
  | 1 => .object "java/util/ArrayList"
  | 2 => .object "LysimeterField$Weather"
  | 3 => .array .long
  | 4 => .int
  | 5 => .int
  | _ => .int
abbrev wsX70 : List Cond := u_ws RX7 TX7 7
theorem nmX7 : ∀ a, a < 7 → ∀ b, b < 7 → a ≠ b → (TX7 a).2.1 ≠ (TX7 b).2.1 := by decide +kernel
theorem tyX7_ok : ∀ k, k < 7 → parseFieldDescriptor (TX7 k).2.2.1 = some (tyX7 k) := by decide +kernel
abbrev cX7_init : ByteArray := prog_1_method_1_code
def yX7_init : MethodName := ⟨RX7, "<init>", "()V"⟩
abbrev cX7_column : ByteArray := prog_1_method_2_code
def yX7_column : MethodName := ⟨RX7, "column", "(C)I"⟩
abbrev cX7_layer : ByteArray := prog_1_method_3_code
def yX7_layer : MethodName := ⟨RX7, "layer", "(ICI)I"⟩
abbrev cX7_wet : ByteArray := prog_1_method_4_code
def yX7_wet : MethodName := ⟨RX7, "wet", "(III)I"⟩
abbrev cX7_water : ByteArray := prog_1_method_5_code
def yX7_water : MethodName := ⟨RX7, "water", "(II)I"⟩
abbrev cX7_capacity : ByteArray := prog_1_method_6_code
def yX7_capacity : MethodName := ⟨RX7, "capacity", "(II)I"⟩
abbrev cX7_link : ByteArray := prog_1_method_7_code
def yX7_link : MethodName := ⟨RX7, "link", "(II)I"⟩
abbrev cX7_scale : ByteArray := prog_1_method_8_code
def yX7_scale : MethodName := ⟨RX7, "scale", "(II)I"⟩
abbrev cX7_plant : ByteArray := prog_1_method_9_code
def yX7_plant : MethodName := ⟨RX7, "plant", "(III)I"⟩
abbrev cX7_harvest : ByteArray := prog_1_method_10_code
def yX7_harvest : MethodName := ⟨RX7, "harvest", "(I)I"⟩
abbrev cX7_stress : ByteArray := prog_1_method_11_code
def yX7_stress : MethodName := ⟨RX7, "stress", "(II)I"⟩
abbrev cX7_mulch : ByteArray := prog_1_method_12_code
def yX7_mulch : MethodName := ⟨RX7, "mulch", "(IZ)Z"⟩
abbrev cX7_rule : ByteArray := prog_1_method_13_code
def yX7_rule : MethodName := ⟨RX7, "rule", "(III)I"⟩
abbrev cX7_spread : ByteArray := prog_1_method_14_code
def yX7_spread : MethodName := ⟨RX7, "spread", "(ICI)J"⟩
abbrev cX7_manure : ByteArray := prog_1_method_15_code
def yX7_manure : MethodName := ⟨RX7, "manure", "(II)J"⟩
abbrev cX7_solute : ByteArray := prog_1_method_16_code
def yX7_solute : MethodName := ⟨RX7, "solute", "(IIC)J"⟩
abbrev cX7_out : ByteArray := prog_1_method_17_code
def yX7_out : MethodName := ⟨RX7, "out", "(IC)J"⟩
abbrev cX7_eaten : ByteArray := prog_1_method_18_code
def yX7_eaten : MethodName := ⟨RX7, "eaten", "(I)J"⟩
abbrev cX7_weather : ByteArray := prog_1_method_19_code
def yX7_weather : MethodName := ⟨RX7, "weather", "(III)I"⟩
abbrev cX7_law : ByteArray := prog_1_method_20_code
def yX7_law : MethodName := ⟨RX7, "law", "(II)I"⟩
abbrev cX7_hours : ByteArray := prog_1_method_21_code
def yX7_hours : MethodName := ⟨RX7, "hours", "(I)I"⟩
abbrev cX7_standing : ByteArray := prog_1_method_22_code
def yX7_standing : MethodName := ⟨RX7, "standing", "(I)I"⟩
abbrev cX7_recharge : ByteArray := prog_1_method_23_code
def yX7_recharge : MethodName := ⟨RX7, "recharge", "(I)J"⟩
abbrev cX7_runoff : ByteArray := prog_1_method_24_code
def yX7_runoff : MethodName := ⟨RX7, "runoff", "(I)J"⟩
abbrev cX7_vapour : ByteArray := prog_1_method_25_code
def yX7_vapour : MethodName := ⟨RX7, "vapour", "(I)J"⟩
abbrev cX7_isFrozen : ByteArray := prog_1_method_26_code
def yX7_isFrozen : MethodName := ⟨RX7, "isFrozen", "(II)Z"⟩
abbrev cX7_frost : ByteArray := prog_1_method_27_code
def yX7_frost : MethodName := ⟨RX7, "frost", "(II)I"⟩
abbrev cX7_heave : ByteArray := prog_1_method_28_code
def yX7_heave : MethodName := ⟨RX7, "heave", "(I)I"⟩
abbrev cX7_crack : ByteArray := prog_1_method_29_code
def yX7_crack : MethodName := ⟨RX7, "crack", "(I)I"⟩
abbrev cX7_tension : ByteArray := prog_1_method_30_code
def yX7_tension : MethodName := ⟨RX7, "tension", "(II)I"⟩
abbrev cX7_reflection : ByteArray := prog_1_method_31_code
def yX7_reflection : MethodName := ⟨RX7, "reflection", "(II)I"⟩
abbrev cX7_setRight : ByteArray := prog_1_method_32_code
def yX7_setRight : MethodName := ⟨RX7, "setRight", "(I)I"⟩
abbrev cX7_weigh : ByteArray := prog_1_method_33_code
def yX7_weigh : MethodName := ⟨RX7, "weigh", "(I)I"⟩
abbrev cX7_fines : ByteArray := prog_1_method_34_code
def yX7_fines : MethodName := ⟨RX7, "fines", "(I)J"⟩
abbrev cX7_forecast : ByteArray := prog_1_method_35_code
def yX7_forecast : MethodName := ⟨RX7, "forecast", "(III)J"⟩
abbrev cX7_fits : ByteArray := prog_1_method_36_code
def yX7_fits : MethodName := ⟨RX7, "fits", "(III)I"⟩
abbrev cX7_fit : ByteArray := prog_1_method_37_code
def yX7_fit : MethodName := ⟨RX7, "fit", "(IIII)I"⟩
abbrev cX7_missing : ByteArray := prog_1_method_38_code
def yX7_missing : MethodName := ⟨RX7, "missing", "()J"⟩
abbrev cX7_frozenShare : ByteArray := prog_1_method_39_code
def yX7_frozenShare : MethodName := ⟨RX7, "frozenShare", "()F"⟩
abbrev cX7_meanWater : ByteArray := prog_1_method_40_code
def yX7_meanWater : MethodName := ⟨RX7, "meanWater", "()D"⟩
abbrev cX7_checksum : ByteArray := prog_1_method_41_code
def yX7_checksum : MethodName := ⟨RX7, "checksum", "()J"⟩
abbrev cX7_isTrue : ByteArray := prog_1_method_42_code
def yX7_isTrue : MethodName := ⟨RX7, "isTrue", "()Z"⟩
abbrev cX7_columnAt : ByteArray := prog_1_method_43_code
def yX7_columnAt : MethodName := ⟨RX7, "columnAt", "(I)LLysimeterField$Column;"⟩
abbrev cX7_thoughtAt : ByteArray := prog_1_method_44_code
def yX7_thoughtAt : MethodName := ⟨RX7, "thoughtAt", "(I)LLysimeterField$Column;"⟩
abbrev cX7_layerAt : ByteArray := prog_1_method_45_code
def yX7_layerAt : MethodName := ⟨RX7, "layerAt", "(II)LLysimeterField$Layer;"⟩
abbrev cX7_checkRange : ByteArray := prog_1_method_46_code
def yX7_checkRange : MethodName := ⟨RX7, "checkRange", "(III)V"⟩
abbrev cX7_soilOf : ByteArray := prog_1_method_47_code
def yX7_soilOf : MethodName := ⟨RX7, "soilOf", "(C)LLysimeterField$Soil;"⟩
abbrev cX7_kindOf : ByteArray := prog_1_method_48_code
def yX7_kindOf : MethodName := ⟨RX7, "kindOf", "(C)I"⟩
abbrev cX7_letAnHourGoBy : ByteArray := prog_1_method_49_code
def yX7_letAnHourGoBy : MethodName := ⟨RX7, "letAnHourGoBy", "(LLysimeterField$Column;)V"⟩
abbrev cX7_runOn : ByteArray := prog_1_method_50_code
def yX7_runOn : MethodName := ⟨RX7, "runOn", "(LLysimeterField$Column;J)V"⟩
abbrev cX7_judge : ByteArray := prog_1_method_51_code
def yX7_judge : MethodName := ⟨RX7, "judge", "(LLysimeterField$Column;JJ)V"⟩
abbrev cX7_driftOf : ByteArray := prog_1_method_52_code
def yX7_driftOf : MethodName := ⟨RX7, "driftOf", "(LLysimeterField$Column;)I"⟩
abbrev cX7_thinkOf : ByteArray := prog_1_method_53_code
def yX7_thinkOf : MethodName := ⟨RX7, "thinkOf", "(II)LLysimeterField$Column;"⟩
abbrev cX7_foresee : ByteArray := prog_1_method_54_code
def yX7_foresee : MethodName := ⟨RX7, "foresee", "(III)J"⟩
abbrev cX7_compareForecasts : ByteArray := prog_1_method_55_code
def yX7_compareForecasts : MethodName := ⟨RX7, "compareForecasts", "(III)J"⟩
abbrev cX7_fittedScale : ByteArray := prog_1_method_56_code
def yX7_fittedScale : MethodName := ⟨RX7, "fittedScale", "(I)I"⟩
abbrev cX7_layersInAll : ByteArray := prog_1_method_57_code
def yX7_layersInAll : MethodName := ⟨RX7, "layersInAll", "()I"⟩
abbrev cX7_forecastHolds : ByteArray := prog_1_method_58_code
def yX7_forecastHolds : MethodName := ⟨RX7, "forecastHolds", "(I)Z"⟩
def RX8 : String := "LysimeterFieldModel$Column"
def TX8 : u_T := fun k => match k with
  | _ => ("", "", "", false)
def tyX8 : Nat → FieldType := fun k => match k with
  | _ => .int
abbrev wsX80 : List Cond := u_ws RX8 TX8 0
theorem nmX8 : ∀ a, a < 0 → ∀ b, b < 0 → a ≠ b → (TX8 a).2.1 ≠ (TX8 b).2.1 := by decide +kernel
theorem tyX8_ok : ∀ k, k < 0 → parseFieldDescriptor (TX8 k).2.2.1 = some (tyX8 k) := by decide +kernel
def RX9 : String := "LysimeterFieldModel$Layer"
def TX9 : u_T := fun k => match k with
  | _ => ("", "", "", false)
def tyX9 : Nat → FieldType := fun k => match k with
  | _ => .int
abbrev wsX90 : List Cond := u_ws RX9 TX9 0
theorem nmX9 : ∀ a, a < 0 → ∀ b, b < 0 → a ≠ b → (TX9 a).2.1 ≠ (TX9 b).2.1 := by decide +kernel
theorem tyX9_ok : ∀ k, k < 0 → parseFieldDescriptor (TX9 k).2.2.1 = some (tyX9 k) := by decide +kernel
def RX10 : String := "LysimeterFieldModel$Plant"
def TX10 : u_T := fun k => match k with
  | _ => ("", "", "", false)
def tyX10 : Nat → FieldType := fun k => match k with
  | _ => .int
abbrev wsX100 : List Cond := u_ws RX10 TX10 0
theorem nmX10 : ∀ a, a < 0 → ∀ b, b < 0 → a ≠ b → (TX10 a).2.1 ≠ (TX10 b).2.1 := by decide +kernel
theorem tyX10_ok : ∀ k, k < 0 → parseFieldDescriptor (TX10 k).2.2.1 = some (tyX10 k) := by decide +kernel
def RX11 : String := "LysimeterFieldModel$Sky"
def TX11 : u_T := fun k => match k with
  | _ => ("", "", "", false)
def tyX11 : Nat → FieldType := fun k => match k with
  | _ => .int
abbrev wsX110 : List Cond := u_ws RX11 TX11 0
theorem nmX11 : ∀ a, a < 0 → ∀ b, b < 0 → a ≠ b → (TX11 a).2.1 ≠ (TX11 b).2.1 := by decide +kernel
theorem tyX11_ok : ∀ k, k < 0 → parseFieldDescriptor (TX11 k).2.2.1 = some (tyX11 k) := by decide +kernel
def RX12 : String := "LysimeterFieldModel"
def TX12 : u_T := fun k => match k with
  | _ => ("", "", "", false)
def tyX12 : Nat → FieldType := fun k => match k with
  | _ => .int
abbrev wsX120 : List Cond := u_ws RX12 TX12 0
theorem nmX12 : ∀ a, a < 0 → ∀ b, b < 0 → a ≠ b → (TX12 a).2.1 ≠ (TX12 b).2.1 := by decide +kernel
theorem tyX12_ok : ∀ k, k < 0 → parseFieldDescriptor (TX12 k).2.2.1 = some (tyX12 k) := by decide +kernel
def RJx145de : String := "java/io/Serializable"
def TJx145de : u_T := fun k => match k with
  | _ => ("", "", "", false)
def tyJx145de : Nat → FieldType := fun k => match k with
  | _ => .int
abbrev wsJx145de0 : List Cond := u_ws RJx145de TJx145de 0
theorem nmJx145de : ∀ a, a < 0 → ∀ b, b < 0 → a ≠ b → (TJx145de a).2.1 ≠ (TJx145de b).2.1 := by decide +kernel
theorem tyJx145de_ok : ∀ k, k < 0 → parseFieldDescriptor (TJx145de k).2.2.1 = some (tyJx145de k) := by decide +kernel
def RJx00060 : String := "java/lang/ArrayIndexOutOfBoundsException"
def TJx00060 : u_T := fun k => match k with
  | 0 => ("java/lang/Throwable", "backtrace", "Ljava/lang/Object;", false)
  | 1 => ("java/lang/Throwable", "detailMessage", "Ljava/lang/String;", false)
  | 2 => ("java/lang/Throwable", "cause", "Ljava/lang/Throwable;", false)
  | 3 => ("java/lang/Throwable", "stackTrace", "[Ljava/lang/StackTraceElement;", false)
  | 4 => ("java/lang/Throwable", "depth", "I", false)
  | _ => ("java/lang/Throwable", "suppressedExceptions", "Ljava/util/List;", false)
def tyJx00060 : Nat → FieldType := fun k => match k with
  | 0 => .object "java/lang/Object"
  | 1 => .object "java/lang/String"
  | 2 => .object "java/lang/Throwable"
  | 3 => .array (.object "java/lang/StackTraceElement")
  | 4 => .int
  | _ => .object "java/util/List"
abbrev wsJx000600 : List Cond := u_ws RJx00060 TJx00060 6
theorem nmJx00060 : ∀ a, a < 6 → ∀ b, b < 6 → a ≠ b → (TJx00060 a).2.1 ≠ (TJx00060 b).2.1 := by decide +kernel
theorem tyJx00060_ok : ∀ k, k < 6 → parseFieldDescriptor (TJx00060 k).2.2.1 = some (tyJx00060 k) := by decide +kernel
abbrev cJx00060_init_a7421 : ByteArray := prog_17_method_2_code
def yJx00060_init_a7421 : MethodName := ⟨RJx00060, "<init>", "(Ljava/lang/String;)V"⟩
def RJx8e188 : String := "java/lang/Cloneable"
def TJx8e188 : u_T := fun k => match k with
  | _ => ("", "", "", false)
def tyJx8e188 : Nat → FieldType := fun k => match k with
  | _ => .int
abbrev wsJx8e1880 : List Cond := u_ws RJx8e188 TJx8e188 0
theorem nmJx8e188 : ∀ a, a < 0 → ∀ b, b < 0 → a ≠ b → (TJx8e188 a).2.1 ≠ (TJx8e188 b).2.1 := by decide +kernel
theorem tyJx8e188_ok : ∀ k, k < 0 → parseFieldDescriptor (TJx8e188 k).2.2.1 = some (tyJx8e188 k) := by decide +kernel
def RJx29ce0 : String := "java/lang/Enum"
def TJx29ce0 : u_T := fun k => match k with
  | _ => ("", "", "", false)
def tyJx29ce0 : Nat → FieldType := fun k => match k with
  | _ => .int
abbrev wsJx29ce00 : List Cond := u_ws RJx29ce0 TJx29ce0 0
theorem nmJx29ce0 : ∀ a, a < 0 → ∀ b, b < 0 → a ≠ b → (TJx29ce0 a).2.1 ≠ (TJx29ce0 b).2.1 := by decide +kernel
theorem tyJx29ce0_ok : ∀ k, k < 0 → parseFieldDescriptor (TJx29ce0 k).2.2.1 = some (tyJx29ce0 k) := by decide +kernel
def RJxab1ab : String := "java/lang/Iterable"
def TJxab1ab : u_T := fun k => match k with
  | _ => ("", "", "", false)
def tyJxab1ab : Nat → FieldType := fun k => match k with
  | _ => .int
abbrev wsJxab1ab0 : List Cond := u_ws RJxab1ab TJxab1ab 0
theorem nmJxab1ab : ∀ a, a < 0 → ∀ b, b < 0 → a ≠ b → (TJxab1ab a).2.1 ≠ (TJxab1ab b).2.1 := by decide +kernel
theorem tyJxab1ab_ok : ∀ k, k < 0 → parseFieldDescriptor (TJxab1ab k).2.2.1 = some (tyJxab1ab k) := by decide +kernel
def RJ9 : String := "java/lang/Math"
def TJ9 : u_T := fun k => match k with
  | _ => ("", "", "", false)
def tyJ9 : Nat → FieldType := fun k => match k with
  | _ => .int
abbrev wsJ90 : List Cond := u_ws RJ9 TJ9 0
theorem nmJ9 : ∀ a, a < 0 → ∀ b, b < 0 → a ≠ b → (TJ9 a).2.1 ≠ (TJ9 b).2.1 := by decide +kernel
theorem tyJ9_ok : ∀ k, k < 0 → parseFieldDescriptor (TJ9 k).2.2.1 = some (tyJ9 k) := by decide +kernel
abbrev cJ9_abs_067f4 : ByteArray := prog_25_method_61_code
def yJ9_abs_067f4 : MethodName := ⟨RJ9, "abs", "(J)J"⟩
abbrev cJ9_max_7cf53 : ByteArray := prog_25_method_65_code
def yJ9_max_7cf53 : MethodName := ⟨RJ9, "max", "(II)I"⟩
abbrev cJ9_min_7cf53 : ByteArray := prog_25_method_69_code
def yJ9_min_7cf53 : MethodName := ⟨RJ9, "min", "(II)I"⟩
abbrev cJ9_min_f86c9 : ByteArray := prog_25_method_70_code
def yJ9_min_f86c9 : MethodName := ⟨RJ9, "min", "(JJ)J"⟩
def RJ0 : String := "java/lang/String"
def TJ0 : u_T := fun k => match k with
  | 0 => ("java/lang/String", "value", "[B", true)
  | _ => ("java/lang/String", "coder", "B", true)
def tyJ0 : Nat → FieldType := fun k => match k with
  | 0 => .array .byte
  | _ => .byte
abbrev wsJ00 : List Cond := u_ws RJ0 TJ0 2
theorem nmJ0 : ∀ a, a < 2 → ∀ b, b < 2 → a ≠ b → (TJ0 a).2.1 ≠ (TJ0 b).2.1 := by decide +kernel
theorem tyJ0_ok : ∀ k, k < 2 → parseFieldDescriptor (TJ0 k).2.2.1 = some (tyJ0 k) := by decide +kernel
def RJ10 : String := "java/lang/System"
def TJ10 : u_T := fun k => match k with
  | _ => ("", "", "", false)
def tyJ10 : Nat → FieldType := fun k => match k with
  | _ => .int
abbrev wsJ100 : List Cond := u_ws RJ10 TJ10 0
theorem nmJ10 : ∀ a, a < 0 → ∀ b, b < 0 → a ≠ b → (TJ10 a).2.1 ≠ (TJ10 b).2.1 := by decide +kernel
theorem tyJ10_ok : ∀ k, k < 0 → parseFieldDescriptor (TJ10 k).2.2.1 = some (tyJ10 k) := by decide +kernel
def RJxa1e45 : String := "java/util/AbstractCollection"
def TJxa1e45 : u_T := fun k => match k with
  | _ => ("", "", "", false)
def tyJxa1e45 : Nat → FieldType := fun k => match k with
  | _ => .int
abbrev wsJxa1e450 : List Cond := u_ws RJxa1e45 TJxa1e45 0
theorem nmJxa1e45 : ∀ a, a < 0 → ∀ b, b < 0 → a ≠ b → (TJxa1e45 a).2.1 ≠ (TJxa1e45 b).2.1 := by decide +kernel
theorem tyJxa1e45_ok : ∀ k, k < 0 → parseFieldDescriptor (TJxa1e45 k).2.2.1 = some (tyJxa1e45 k) := by decide +kernel
abbrev cJxa1e45_init_da8c8 : ByteArray := prog_31_method_1_code
def yJxa1e45_init_da8c8 : MethodName := ⟨RJxa1e45, "<init>", "()V"⟩
def RJxc12de : String := "java/util/AbstractList"
def TJxc12de : u_T := fun k => match k with
  | _ => ("", "", "", false)
def tyJxc12de : Nat → FieldType := fun k => match k with
  | _ => .int
abbrev wsJxc12de0 : List Cond := u_ws RJxc12de TJxc12de 0
theorem nmJxc12de : ∀ a, a < 0 → ∀ b, b < 0 → a ≠ b → (TJxc12de a).2.1 ≠ (TJxc12de b).2.1 := by decide +kernel
theorem tyJxc12de_ok : ∀ k, k < 0 → parseFieldDescriptor (TJxc12de k).2.2.1 = some (tyJxc12de k) := by decide +kernel
abbrev cJxc12de_init_da8c8 : ByteArray := prog_32_method_1_code
def yJxc12de_init_da8c8 : MethodName := ⟨RJxc12de, "<init>", "()V"⟩
def RJx4a65c : String := "java/util/ArrayList"
def TJx4a65c : u_T := fun k => match k with
  | 0 => ("java/util/AbstractList", "modCount", "I", false)
  | 1 => ("java/util/ArrayList", "elementData", "[Ljava/lang/Object;", false)
  | _ => ("java/util/ArrayList", "size", "I", false)
def tyJx4a65c : Nat → FieldType := fun k => match k with
  | 0 => .int
  | 1 => .array (.object "java/lang/Object")
  | _ => .int
abbrev wsJx4a65c0 : List Cond := u_ws RJx4a65c TJx4a65c 3
theorem nmJx4a65c : ∀ a, a < 3 → ∀ b, b < 3 → a ≠ b → (TJx4a65c a).2.1 ≠ (TJx4a65c b).2.1 := by decide +kernel
theorem tyJx4a65c_ok : ∀ k, k < 3 → parseFieldDescriptor (TJx4a65c k).2.2.1 = some (tyJx4a65c k) := by decide +kernel
abbrev cJx4a65c_init_da8c8 : ByteArray := prog_33_method_2_code
def yJx4a65c_init_da8c8 : MethodName := ⟨RJx4a65c, "<init>", "()V"⟩
abbrev cJx4a65c_grow_92f84 : ByteArray := prog_33_method_6_code
def yJx4a65c_grow_92f84 : MethodName := ⟨RJx4a65c, "grow", "(I)[Ljava/lang/Object;"⟩
abbrev cJx4a65c_grow_d5877 : ByteArray := prog_33_method_7_code
def yJx4a65c_grow_d5877 : MethodName := ⟨RJx4a65c, "grow", "()[Ljava/lang/Object;"⟩
abbrev cJx4a65c_size_8abf5 : ByteArray := prog_33_method_8_code
def yJx4a65c_size_8abf5 : MethodName := ⟨RJx4a65c, "size", "()I"⟩
abbrev cJx4a65c_isEmpty_aae02 : ByteArray := prog_33_method_9_code
def yJx4a65c_isEmpty_aae02 : MethodName := ⟨RJx4a65c, "isEmpty", "()Z"⟩
abbrev cJx4a65c_elementData_915e3 : ByteArray := prog_33_method_18_code
def yJx4a65c_elementData_915e3 : MethodName := ⟨RJx4a65c, "elementData", "(I)Ljava/lang/Object;"⟩
abbrev cJx4a65c_get_915e3 : ByteArray := prog_33_method_20_code
def yJx4a65c_get_915e3 : MethodName := ⟨RJx4a65c, "get", "(I)Ljava/lang/Object;"⟩
abbrev cJx4a65c_add_72be8 : ByteArray := prog_33_method_24_code
def yJx4a65c_add_72be8 : MethodName := ⟨RJx4a65c, "add", "(Ljava/lang/Object;[Ljava/lang/Object;I)V"⟩
abbrev cJx4a65c_add_9ea2d : ByteArray := prog_33_method_25_code
def yJx4a65c_add_9ea2d : MethodName := ⟨RJx4a65c, "add", "(Ljava/lang/Object;)Z"⟩
abbrev cJx4a65c_clear_da8c8 : ByteArray := prog_33_method_40_code
def yJx4a65c_clear_da8c8 : MethodName := ⟨RJx4a65c, "clear", "()V"⟩
def RJ7 : String := "java/util/Arrays"
def TJ7 : u_T := fun k => match k with
  | _ => ("", "", "", false)
def tyJ7 : Nat → FieldType := fun k => match k with
  | _ => .int
abbrev wsJ70 : List Cond := u_ws RJ7 TJ7 0
theorem nmJ7 : ∀ a, a < 0 → ∀ b, b < 0 → a ≠ b → (TJ7 a).2.1 ≠ (TJ7 b).2.1 := by decide +kernel
theorem tyJ7_ok : ∀ k, k < 0 → parseFieldDescriptor (TJ7 k).2.2.1 = some (tyJ7 k) := by decide +kernel
abbrev cJ7_copyOf_1904c : ByteArray := prog_34_method_119_code
def yJ7_copyOf_1904c : MethodName := ⟨RJ7, "copyOf", "([Ljava/lang/Object;I)[Ljava/lang/Object;"⟩
abbrev cJ7_copyOf_6403c : ByteArray := prog_34_method_120_code
def yJ7_copyOf_6403c : MethodName := ⟨RJ7, "copyOf", "([Ljava/lang/Object;ILjava/lang/Class;)[Ljava/lang/Object;"⟩
def RJx5ef63 : String := "java/util/Collection"
def TJx5ef63 : u_T := fun k => match k with
  | _ => ("", "", "", false)
def tyJx5ef63 : Nat → FieldType := fun k => match k with
  | _ => .int
abbrev wsJx5ef630 : List Cond := u_ws RJx5ef63 TJx5ef63 0
theorem nmJx5ef63 : ∀ a, a < 0 → ∀ b, b < 0 → a ≠ b → (TJx5ef63 a).2.1 ≠ (TJx5ef63 b).2.1 := by decide +kernel
theorem tyJx5ef63_ok : ∀ k, k < 0 → parseFieldDescriptor (TJx5ef63 k).2.2.1 = some (tyJx5ef63 k) := by decide +kernel
def RJxbd725 : String := "java/util/List"
def TJxbd725 : u_T := fun k => match k with
  | _ => ("", "", "", false)
def tyJxbd725 : Nat → FieldType := fun k => match k with
  | _ => .int
abbrev wsJxbd7250 : List Cond := u_ws RJxbd725 TJxbd725 0
theorem nmJxbd725 : ∀ a, a < 0 → ∀ b, b < 0 → a ≠ b → (TJxbd725 a).2.1 ≠ (TJxbd725 b).2.1 := by decide +kernel
theorem tyJxbd725_ok : ∀ k, k < 0 → parseFieldDescriptor (TJxbd725 k).2.2.1 = some (tyJxbd725 k) := by decide +kernel
def RJ15 : String := "java/util/Objects"
def TJ15 : u_T := fun k => match k with
  | _ => ("", "", "", false)
def tyJ15 : Nat → FieldType := fun k => match k with
  | _ => .int
abbrev wsJ150 : List Cond := u_ws RJ15 TJ15 0
theorem nmJ15 : ∀ a, a < 0 → ∀ b, b < 0 → a ≠ b → (TJ15 a).2.1 ≠ (TJ15 b).2.1 := by decide +kernel
theorem tyJ15_ok : ∀ k, k < 0 → parseFieldDescriptor (TJ15 k).2.2.1 = some (tyJ15 k) := by decide +kernel
abbrev cJ15_checkIndex_7cf53 : ByteArray := prog_38_method_17_code
def yJ15_checkIndex_7cf53 : MethodName := ⟨RJ15, "checkIndex", "(II)I"⟩
def RJxf0a74 : String := "java/util/RandomAccess"
def TJxf0a74 : u_T := fun k => match k with
  | _ => ("", "", "", false)
def tyJxf0a74 : Nat → FieldType := fun k => match k with
  | _ => .int
abbrev wsJxf0a740 : List Cond := u_ws RJxf0a74 TJxf0a74 0
theorem nmJxf0a74 : ∀ a, a < 0 → ∀ b, b < 0 → a ≠ b → (TJxf0a74 a).2.1 ≠ (TJxf0a74 b).2.1 := by decide +kernel
theorem tyJxf0a74_ok : ∀ k, k < 0 → parseFieldDescriptor (TJxf0a74 k).2.2.1 = some (tyJxf0a74 k) := by decide +kernel
def RJxa66e6 : String := "java/util/SequencedCollection"
def TJxa66e6 : u_T := fun k => match k with
  | _ => ("", "", "", false)
def tyJxa66e6 : Nat → FieldType := fun k => match k with
  | _ => .int
abbrev wsJxa66e60 : List Cond := u_ws RJxa66e6 TJxa66e6 0
theorem nmJxa66e6 : ∀ a, a < 0 → ∀ b, b < 0 → a ≠ b → (TJxa66e6 a).2.1 ≠ (TJxa66e6 b).2.1 := by decide +kernel
theorem tyJxa66e6_ok : ∀ k, k < 0 → parseFieldDescriptor (TJxa66e6 k).2.2.1 = some (tyJxa66e6 k) := by decide +kernel
def RJ8 : String := "jdk/internal/util/ArraysSupport"
def TJ8 : u_T := fun k => match k with
  | _ => ("", "", "", false)
def tyJ8 : Nat → FieldType := fun k => match k with
  | _ => .int
abbrev wsJ80 : List Cond := u_ws RJ8 TJ8 0
theorem nmJ8 : ∀ a, a < 0 → ∀ b, b < 0 → a ≠ b → (TJ8 a).2.1 ≠ (TJ8 b).2.1 := by decide +kernel
theorem tyJ8_ok : ∀ k, k < 0 → parseFieldDescriptor (TJ8 k).2.2.1 = some (tyJ8 k) := by decide +kernel
abbrev cJ8_newLength_cabcc : ByteArray := prog_41_method_27_code
def yJ8_newLength_cabcc : MethodName := ⟨RJ8, "newLength", "(III)I"⟩
abbrev cJ8_hugeLength_7cf53 : ByteArray := prog_41_method_28_code
def yJ8_hugeLength_7cf53 : MethodName := ⟨RJ8, "hugeLength", "(II)I"⟩
def RJ3 : String := "jdk/internal/util/Preconditions"
def TJ3 : u_T := fun k => match k with
  | _ => ("", "", "", false)
def tyJ3 : Nat → FieldType := fun k => match k with
  | _ => .int
abbrev wsJ30 : List Cond := u_ws RJ3 TJ3 0
theorem nmJ3 : ∀ a, a < 0 → ∀ b, b < 0 → a ≠ b → (TJ3 a).2.1 ≠ (TJ3 b).2.1 := by decide +kernel
theorem tyJ3_ok : ∀ k, k < 0 → parseFieldDescriptor (TJ3 k).2.2.1 = some (tyJ3 k) := by decide +kernel
abbrev cJ3_checkIndex_8e157 : ByteArray := prog_42_method_11_code
def yJ3_checkIndex_8e157 : MethodName := ⟨RJ3, "checkIndex", "(IILjava/util/function/BiFunction;)I"⟩
def RL : String := "LysimeterFieldLaw"
abbrev cL_at : ByteArray := method_2_code
def yL_at : MethodName := ⟨RL, "at", "([II)I"⟩
abbrev cL_some : ByteArray := method_3_code
def yL_some : MethodName := ⟨RL, "some", "(II)I"⟩
abbrev cL_ask : ByteArray := method_4_code
def yL_ask : MethodName := ⟨RL, "ask", "(LLysimeterField;C[I)J"⟩
abbrev cL_asked : ByteArray := method_5_code
def yL_asked : MethodName := ⟨RL, "asked", "(LLysimeterField;C[I)J"⟩
abbrev cL_hasNone : ByteArray := method_9_code
def yL_hasNone : MethodName := ⟨RL, "hasNone", "(LLysimeterField;Z)Z"⟩
abbrev cL_law : ByteArray := code
def yL_law : MethodName := ⟨RL, "law", "([I)Z"⟩
abbrev cL_sinks : ByteArray := method_11_code
def yL_sinks : MethodName := ⟨RL, "sinks", "()Z"⟩
abbrev cL_cracks : ByteArray := method_12_code
def yL_cracks : MethodName := ⟨RL, "cracks", "()Z"⟩
abbrev cL_frosts : ByteArray := method_13_code
def yL_frosts : MethodName := ⟨RL, "frosts", "([I)Z"⟩
abbrev cL_links : ByteArray := method_14_code
def yL_links : MethodName := ⟨RL, "links", "()Z"⟩
abbrev vwCl : List vw_C := [(RJ0, TJ0, 2), (RJx00060, TJx00060, 6), (RJx4a65c, TJx4a65c, 3), (RX0, TX0, 11), (RX1, TX1, 13), (RX2, TX2, 9), (RX3, TX3, 3), (RX5, TX5, 1), (RX6, TX6, 3), (RX7, TX7, 7)]
