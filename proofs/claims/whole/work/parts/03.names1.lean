/-! ===== BEGIN printed: names, fields, word lists, decode rows ===== -/
def RX0 : String := "HeatGuild$Boiler"
def TX0 : u_T := fun k => match k with
  | 0 => ("HeatGuild$Boiler", "number", "I", true)
  | 1 => ("HeatGuild$Boiler", "steps", "I", true)
  | 2 => ("HeatGuild$Boiler", "power", "I", true)
  | 3 => ("HeatGuild$Boiler", "price", "I", true)
  | 4 => ("HeatGuild$Boiler", "firedSteps", "I", false)
  | _ => ("HeatGuild$Boiler", "next", "LHeatGuild$Boiler;", false)
def tyX0 : Nat → FieldType := fun k => match k with
  | 0 => .int
  | 1 => .int
  | 2 => .int
  | 3 => .int
  | 4 => .int
  | _ => .object "HeatGuild$Boiler"
abbrev wsX00 : List Cond := u_ws RX0 TX0 6
theorem nmX0 : ∀ a, a < 6 → ∀ b, b < 6 → a ≠ b → (TX0 a).2.1 ≠ (TX0 b).2.1 := by decide +kernel
theorem tyX0_ok : ∀ k, k < 6 → parseFieldDescriptor (TX0 k).2.2.1 = some (tyX0 k) := by decide +kernel
abbrev cX0_init : ByteArray := prog_2_method_1_code
def yX0_init : MethodName := ⟨RX0, "<init>", "(IIII)V"⟩
abbrev cX0_fireFor : ByteArray := prog_2_method_2_code
def yX0_fireFor : MethodName := ⟨RX0, "fireFor", "(I)I"⟩
def RX1 : String := "HeatGuild$Meters"
def TX1 : u_T := fun k => match k with
  | 0 => ("HeatGuild$Meters", "error", "[I", true)
  | 1 => ("HeatGuild$Meters", "told", "[I", true)
  | 2 => ("HeatGuild$Meters", "suspected", "[Z", true)
  | 3 => ("HeatGuild$Meters", "flow", "[I", true)
  | _ => ("HeatGuild$Meters", "accounted", "[I", true)
def tyX1 : Nat → FieldType := fun k => match k with
  | 0 => .array .int
  | 1 => .array .int
  | 2 => .array .boolean
  | 3 => .array .int
  | _ => .array .int
abbrev wsX10 : List Cond := u_ws RX1 TX1 5
theorem nmX1 : ∀ a, a < 5 → ∀ b, b < 5 → a ≠ b → (TX1 a).2.1 ≠ (TX1 b).2.1 := by decide +kernel
theorem tyX1_ok : ∀ k, k < 5 → parseFieldDescriptor (TX1 k).2.2.1 = some (tyX1 k) := by decide +kernel
abbrev cX1_init : ByteArray := prog_3_method_1_code
def yX1_init : MethodName := ⟨RX1, "<init>", "()V"⟩
abbrev cX1_read : ByteArray := prog_3_method_2_code
def yX1_read : MethodName := ⟨RX1, "read", "(LHeatGuild$Net;)V"⟩
def RX2 : String := "HeatGuild$Net"
def TX2 : u_T := fun k => match k with
  | 0 => ("HeatGuild$Net", "source", "[I", true)
  | 1 => ("HeatGuild$Net", "loss", "[I", true)
  | 2 => ("HeatGuild$Net", "area", "[I", true)
  | 3 => ("HeatGuild$Net", "shutHours", "[I", true)
  | 4 => ("HeatGuild$Net", "served", "[I", true)
  | 5 => ("HeatGuild$Net", "heated", "[Z", true)
  | 6 => ("HeatGuild$Net", "carries", "[Z", true)
  | 7 => ("HeatGuild$Net", "demand", "[I", true)
  | _ => ("HeatGuild$Net", "surveyedLosses", "I", false)
def tyX2 : Nat → FieldType := fun k => match k with
  | 0 => .array .int
  | 1 => .array .int
  | 2 => .array .int
  | 3 => .array .int
  | 4 => .array .int
  | 5 => .array .boolean
  | 6 => .array .boolean
  | 7 => .array .int
  | _ => .int
abbrev wsX20 : List Cond := u_ws RX2 TX2 9
theorem nmX2 : ∀ a, a < 9 → ∀ b, b < 9 → a ≠ b → (TX2 a).2.1 ≠ (TX2 b).2.1 := by decide +kernel
theorem tyX2_ok : ∀ k, k < 9 → parseFieldDescriptor (TX2 k).2.2.1 = some (tyX2 k) := by decide +kernel
abbrev cX2_init : ByteArray := prog_4_method_1_code
def yX2_init : MethodName := ⟨RX2, "<init>", "()V"⟩
abbrev cX2_survey : ByteArray := prog_4_method_2_code
def yX2_survey : MethodName := ⟨RX2, "survey", "(I)I"⟩
abbrev cX2_markHeated : ByteArray := prog_4_method_3_code
def yX2_markHeated : MethodName := ⟨RX2, "markHeated", "()V"⟩
abbrev cX2_markCarries : ByteArray := prog_4_method_4_code
def yX2_markCarries : MethodName := ⟨RX2, "markCarries", "()V"⟩
abbrev cX2_carriedLoss : ByteArray := prog_4_method_5_code
def yX2_carriedLoss : MethodName := ⟨RX2, "carriedLoss", "(I)I"⟩
abbrev cX2_serve : ByteArray := prog_4_method_6_code
def yX2_serve : MethodName := ⟨RX2, "serve", "(I)V"⟩
abbrev cX2_countHousesWithoutHeat : ByteArray := prog_4_method_7_code
def yX2_countHousesWithoutHeat : MethodName := ⟨RX2, "countHousesWithoutHeat", "()I"⟩
abbrev cX2_endHourOfRepairs : ByteArray := prog_4_method_8_code
def yX2_endHourOfRepairs : MethodName := ⟨RX2, "endHourOfRepairs", "()V"⟩
def RX3 : String := "HeatGuild$Plant"
def TX3 : u_T := fun k => match k with
  | 0 => ("HeatGuild$Plant", "first", "LHeatGuild$Boiler;", false)
  | 1 => ("HeatGuild$Plant", "count", "I", false)
  | 2 => ("HeatGuild$Plant", "allPower", "I", false)
  | _ => ("HeatGuild$Plant", "spent", "I", false)
def tyX3 : Nat → FieldType := fun k => match k with
  | 0 => .object "HeatGuild$Boiler"
  | 1 => .int
  | 2 => .int
  | _ => .int
abbrev wsX30 : List Cond := u_ws RX3 TX3 4
theorem nmX3 : ∀ a, a < 4 → ∀ b, b < 4 → a ≠ b → (TX3 a).2.1 ≠ (TX3 b).2.1 := by decide +kernel
theorem tyX3_ok : ∀ k, k < 4 → parseFieldDescriptor (TX3 k).2.2.1 = some (tyX3 k) := by decide +kernel
abbrev cX3_init : ByteArray := prog_5_method_1_code
def yX3_init : MethodName := ⟨RX3, "<init>", "()V"⟩
abbrev cX3_add : ByteArray := prog_5_method_2_code
def yX3_add : MethodName := ⟨RX3, "add", "(III)I"⟩
abbrev cX3_lastFiredBefore : ByteArray := prog_5_method_3_code
def yX3_lastFiredBefore : MethodName := ⟨RX3, "lastFiredBefore", "(I)LHeatGuild$Boiler;"⟩
abbrev cX3_find : ByteArray := prog_5_method_4_code
def yX3_find : MethodName := ⟨RX3, "find", "(I)LHeatGuild$Boiler;"⟩
abbrev cX3_fire : ByteArray := prog_5_method_5_code
def yX3_fire : MethodName := ⟨RX3, "fire", "(I)V"⟩
def RX4 : String := "HeatGuild"
def TX4 : u_T := fun k => match k with
  | 0 => ("HeatGuild", "net", "LHeatGuild$Net;", true)
  | 1 => ("HeatGuild", "plant", "LHeatGuild$Plant;", true)
  | 2 => ("HeatGuild", "meters", "LHeatGuild$Meters;", true)
  | 3 => ("HeatGuild", "billed", "[I", true)
  | 4 => ("HeatGuild", "passedHours", "I", false)
  | 5 => ("HeatGuild", "lastTemperature", "I", false)
  | _ => ("HeatGuild", "lastLosses", "I", false)
def tyX4 : Nat → FieldType := fun k => match k with
  | 0 => .object "HeatGuild$Net"
  | 1 => .object "HeatGuild$Plant"
  | 2 => .object "HeatGuild$Meters"
  | 3 => .array .int
  | 4 => .int
  | 5 => .int
  | _ => .int
abbrev wsX40 : List Cond := u_ws RX4 TX4 7
theorem nmX4 : ∀ a, a < 7 → ∀ b, b < 7 → a ≠ b → (TX4 a).2.1 ≠ (TX4 b).2.1 := by decide +kernel
theorem tyX4_ok : ∀ k, k < 7 → parseFieldDescriptor (TX4 k).2.2.1 = some (tyX4 k) := by decide +kernel
abbrev cX4_init : ByteArray := prog_1_method_1_code
def yX4_init : MethodName := ⟨RX4, "<init>", "()V"⟩
abbrev cX4_feed : ByteArray := prog_1_method_2_code
def yX4_feed : MethodName := ⟨RX4, "feed", "(III)I"⟩
abbrev cX4_setArea : ByteArray := prog_1_method_3_code
def yX4_setArea : MethodName := ⟨RX4, "setArea", "(II)I"⟩
abbrev cX4_addBoiler : ByteArray := prog_1_method_4_code
def yX4_addBoiler : MethodName := ⟨RX4, "addBoiler", "(III)I"⟩
abbrev cX4_setError : ByteArray := prog_1_method_5_code
def yX4_setError : MethodName := ⟨RX4, "setError", "(II)I"⟩
abbrev cX4_repair : ByteArray := prog_1_method_6_code
def yX4_repair : MethodName := ⟨RX4, "repair", "(II)I"⟩
abbrev cX4_hour : ByteArray := prog_1_method_7_code
def yX4_hour : MethodName := ⟨RX4, "hour", "(I)I"⟩
abbrev cX4_hours : ByteArray := prog_1_method_8_code
def yX4_hours : MethodName := ⟨RX4, "hours", "()I"⟩
abbrev cX4_load : ByteArray := prog_1_method_9_code
def yX4_load : MethodName := ⟨RX4, "load", "(I)I"⟩
abbrev cX4_fired : ByteArray := prog_1_method_10_code
def yX4_fired : MethodName := ⟨RX4, "fired", "(I)I"⟩
abbrev cX4_got : ByteArray := prog_1_method_11_code
def yX4_got : MethodName := ⟨RX4, "got", "(I)I"⟩
abbrev cX4_meter : ByteArray := prog_1_method_12_code
def yX4_meter : MethodName := ⟨RX4, "meter", "(I)I"⟩
abbrev cX4_isSuspected : ByteArray := prog_1_method_13_code
def yX4_isSuspected : MethodName := ⟨RX4, "isSuspected", "(I)Z"⟩
abbrev cX4_losses : ByteArray := prog_1_method_14_code
def yX4_losses : MethodName := ⟨RX4, "losses", "()I"⟩
abbrev cX4_bill : ByteArray := prog_1_method_15_code
def yX4_bill : MethodName := ⟨RX4, "bill", "(I)I"⟩
abbrev cX4_cost : ByteArray := prog_1_method_16_code
def yX4_cost : MethodName := ⟨RX4, "cost", "()I"⟩
abbrev cX4_isOpen : ByteArray := prog_1_method_17_code
def yX4_isOpen : MethodName := ⟨RX4, "isOpen", "(I)Z"⟩
abbrev cX4_isPeak : ByteArray := prog_1_method_18_code
def yX4_isPeak : MethodName := ⟨RX4, "isPeak", "(I)Z"⟩
abbrev cX4_charge : ByteArray := prog_1_method_19_code
def yX4_charge : MethodName := ⟨RX4, "charge", "(IZ)V"⟩
abbrev cX4_requireTemperature : ByteArray := prog_1_method_20_code
def yX4_requireTemperature : MethodName := ⟨RX4, "requireTemperature", "(I)V"⟩
abbrev cX4_isHouse : ByteArray := prog_1_method_21_code
def yX4_isHouse : MethodName := ⟨RX4, "isHouse", "(I)Z"⟩
abbrev cX4_isWithin : ByteArray := prog_1_method_22_code
def yX4_isWithin : MethodName := ⟨RX4, "isWithin", "(III)Z"⟩
abbrev cX4_wantedHeat : ByteArray := prog_1_method_23_code
def yX4_wantedHeat : MethodName := ⟨RX4, "wantedHeat", "(II)I"⟩
def RX5 : String := "HeatGuildModel"
def TX5 : u_T := fun k => match k with
  | 0 => ("HeatGuildModel", "thrown", "I", false)
  | 1 => ("HeatGuildModel", "hours", "I", false)
  | 2 => ("HeatGuildModel", "temperature", "I", false)
  | 3 => ("HeatGuildModel", "from", "[I", true)
  | 4 => ("HeatGuildModel", "loss", "[I", true)
  | 5 => ("HeatGuildModel", "areas", "[I", true)
  | 6 => ("HeatGuildModel", "errors", "[I", true)
  | 7 => ("HeatGuildModel", "shut", "[I", true)
  | 8 => ("HeatGuildModel", "bills", "[I", true)
  | 9 => ("HeatGuildModel", "boilers", "I", false)
  | 10 => ("HeatGuildModel", "steps", "[I", true)
  | 11 => ("HeatGuildModel", "powers", "[I", true)
  | 12 => ("HeatGuildModel", "costs", "[I", true)
  | 13 => ("HeatGuildModel", "cost", "I", false)
  | 14 => ("HeatGuildModel", "hasHeat", "[Z", true)
  | 15 => ("HeatGuildModel", "demands", "[I", true)
  | 16 => ("HeatGuildModel", "carries", "[Z", true)
  | 17 => ("HeatGuildModel", "fired", "[I", true)
  | 18 => ("HeatGuildModel", "got", "[I", true)
  | 19 => ("HeatGuildModel", "meters", "[I", true)
  | 20 => ("HeatGuildModel", "isSuspected", "[Z", true)
  | _ => ("HeatGuildModel", "losses", "I", false)
def tyX5 : Nat → FieldType := fun k => match k with
  | 0 => .int
  | 1 => .int
  | 2 => .int
  | 3 => .array .int
  | 4 => .array .int
  | 5 => .array .int
  | 6 => .array .int
  | 7 => .array .int
  | 8 => .array .int
  | 9 => .int
  | 10 => .array .int
  | 11 => .array .int
  | 12 => .array .int
  | 13 => .int
  | 14 => .array .boolean
  | 15 => .array .int
  | 16 => .array .boolean
  | 17 => .array .int
  | 18 => .array .int
  | 19 => .array .int
  | 20 => .array .boolean
  | _ => .int
abbrev wsX50 : List Cond := u_ws RX5 TX5 22
theorem nmX5 : ∀ a, a < 22 → ∀ b, b < 22 → a ≠ b → (TX5 a).2.1 ≠ (TX5 b).2.1 := by decide +kernel
theorem tyX5_ok : ∀ k, k < 22 → parseFieldDescriptor (TX5 k).2.2.1 = some (tyX5 k) := by decide +kernel
abbrev cX5_init : ByteArray := prog_7_method_1_code
def yX5_init : MethodName := ⟨RX5, "<init>", "()V"⟩
abbrev cX5_thrown : ByteArray := prog_7_method_2_code
def yX5_thrown : MethodName := ⟨RX5, "thrown", "()I"⟩
abbrev cX5_holds : ByteArray := prog_7_method_3_code
def yX5_holds : MethodName := ⟨RX5, "holds", "(I)Z"⟩
abbrev cX5_isIn : ByteArray := prog_7_method_4_code
def yX5_isIn : MethodName := ⟨RX5, "isIn", "(III)Z"⟩
abbrev cX5_isHouse : ByteArray := prog_7_method_5_code
def yX5_isHouse : MethodName := ⟨RX5, "isHouse", "(I)Z"⟩
abbrev cX5_feed : ByteArray := prog_7_method_6_code
def yX5_feed : MethodName := ⟨RX5, "feed", "(III)I"⟩
abbrev cX5_setArea : ByteArray := prog_7_method_7_code
def yX5_setArea : MethodName := ⟨RX5, "setArea", "(II)I"⟩
abbrev cX5_addBoiler : ByteArray := prog_7_method_8_code
def yX5_addBoiler : MethodName := ⟨RX5, "addBoiler", "(III)I"⟩
abbrev cX5_setError : ByteArray := prog_7_method_9_code
def yX5_setError : MethodName := ⟨RX5, "setError", "(II)I"⟩
abbrev cX5_heats : ByteArray := prog_7_method_10_code
def yX5_heats : MethodName := ⟨RX5, "heats", "()V"⟩
abbrev cX5_repair : ByteArray := prog_7_method_11_code
def yX5_repair : MethodName := ⟨RX5, "repair", "(II)I"⟩
abbrev cX5_need : ByteArray := prog_7_method_12_code
def yX5_need : MethodName := ⟨RX5, "need", "(II)I"⟩
abbrev cX5_lays : ByteArray := prog_7_method_13_code
def yX5_lays : MethodName := ⟨RX5, "lays", "(I)I"⟩
abbrev cX5_next : ByteArray := prog_7_method_14_code
def yX5_next : MethodName := ⟨RX5, "next", "(I)I"⟩
abbrev cX5_fires : ByteArray := prog_7_method_15_code
def yX5_fires : MethodName := ⟨RX5, "fires", "(I)V"⟩
abbrev cX5_power : ByteArray := prog_7_method_16_code
def yX5_power : MethodName := ⟨RX5, "power", "()I"⟩
abbrev cX5_serves : ByteArray := prog_7_method_17_code
def yX5_serves : MethodName := ⟨RX5, "serves", "(I)V"⟩
abbrev cX5_measures : ByteArray := prog_7_method_18_code
def yX5_measures : MethodName := ⟨RX5, "measures", "()V"⟩
abbrev cX5_bills : ByteArray := prog_7_method_19_code
def yX5_bills : MethodName := ⟨RX5, "bills", "(II)V"⟩
abbrev cX5_isTemperature : ByteArray := prog_7_method_20_code
def yX5_isTemperature : MethodName := ⟨RX5, "isTemperature", "(I)Z"⟩
abbrev cX5_hour : ByteArray := prog_7_method_21_code
def yX5_hour : MethodName := ⟨RX5, "hour", "(I)I"⟩
abbrev cX5_hours : ByteArray := prog_7_method_22_code
def yX5_hours : MethodName := ⟨RX5, "hours", "()I"⟩
abbrev cX5_load : ByteArray := prog_7_method_23_code
def yX5_load : MethodName := ⟨RX5, "load", "(I)I"⟩
abbrev cX5_fired : ByteArray := prog_7_method_24_code
def yX5_fired : MethodName := ⟨RX5, "fired", "(I)I"⟩
abbrev cX5_got : ByteArray := prog_7_method_25_code
def yX5_got : MethodName := ⟨RX5, "got", "(I)I"⟩
abbrev cX5_meter : ByteArray := prog_7_method_26_code
def yX5_meter : MethodName := ⟨RX5, "meter", "(I)I"⟩
abbrev cX5_isSuspected : ByteArray := prog_7_method_27_code
def yX5_isSuspected : MethodName := ⟨RX5, "isSuspected", "(I)Z"⟩
abbrev cX5_losses : ByteArray := prog_7_method_28_code
def yX5_losses : MethodName := ⟨RX5, "losses", "()I"⟩
abbrev cX5_bill : ByteArray := prog_7_method_29_code
def yX5_bill : MethodName := ⟨RX5, "bill", "(I)I"⟩
abbrev cX5_cost : ByteArray := prog_7_method_30_code
def yX5_cost : MethodName := ⟨RX5, "cost", "()I"⟩
abbrev cX5_isOpen : ByteArray := prog_7_method_31_code
def yX5_isOpen : MethodName := ⟨RX5, "isOpen", "(I)Z"⟩
def RJ9 : String := "java/lang/Math"
def TJ9 : u_T := fun k => match k with
  | _ => ("", "", "", false)
def tyJ9 : Nat → FieldType := fun k => match k with
  | _ => .int
abbrev wsJ90 : List Cond := u_ws RJ9 TJ9 0
theorem nmJ9 : ∀ a, a < 0 → ∀ b, b < 0 → a ≠ b → (TJ9 a).2.1 ≠ (TJ9 b).2.1 := by decide +kernel
theorem tyJ9_ok : ∀ k, k < 0 → parseFieldDescriptor (TJ9 k).2.2.1 = some (tyJ9 k) := by decide +kernel
abbrev cJ9_max_7cf53 : ByteArray := prog_12_method_65_code
def yJ9_max_7cf53 : MethodName := ⟨RJ9, "max", "(II)I"⟩
abbrev cJ9_min_7cf53 : ByteArray := prog_12_method_69_code
def yJ9_min_7cf53 : MethodName := ⟨RJ9, "min", "(II)I"⟩
def RJ0 : String := "java/lang/String"
def TJ0 : u_T := fun k => match k with
  | _ => ("", "", "", false)
def tyJ0 : Nat → FieldType := fun k => match k with
  | _ => .int
abbrev wsJ00 : List Cond := u_ws RJ0 TJ0 0
theorem nmJ0 : ∀ a, a < 0 → ∀ b, b < 0 → a ≠ b → (TJ0 a).2.1 ≠ (TJ0 b).2.1 := by decide +kernel
theorem tyJ0_ok : ∀ k, k < 0 → parseFieldDescriptor (TJ0 k).2.2.1 = some (tyJ0 k) := by decide +kernel
def RL : String := "HeatGuildLaw"
abbrev cL_feed : ByteArray := method_3_code
def yL_feed : MethodName := ⟨RL, "feed", "(LHeatGuild;III[J)I"⟩
abbrev cL_setArea : ByteArray := method_4_code
def yL_setArea : MethodName := ⟨RL, "setArea", "(LHeatGuild;II[J)I"⟩
abbrev cL_addBoiler : ByteArray := method_5_code
def yL_addBoiler : MethodName := ⟨RL, "addBoiler", "(LHeatGuild;III[J)I"⟩
abbrev cL_setError : ByteArray := method_6_code
def yL_setError : MethodName := ⟨RL, "setError", "(LHeatGuild;II[J)I"⟩
abbrev cL_repair : ByteArray := method_7_code
def yL_repair : MethodName := ⟨RL, "repair", "(LHeatGuild;II[J)I"⟩
abbrev cL_hour : ByteArray := method_8_code
def yL_hour : MethodName := ⟨RL, "hour", "(LHeatGuild;I[J)I"⟩
abbrev cL_load : ByteArray := method_9_code
def yL_load : MethodName := ⟨RL, "load", "(LHeatGuild;I[J)I"⟩
abbrev cL_fired : ByteArray := method_10_code
def yL_fired : MethodName := ⟨RL, "fired", "(LHeatGuild;I[J)I"⟩
abbrev cL_got : ByteArray := method_11_code
def yL_got : MethodName := ⟨RL, "got", "(LHeatGuild;I[J)I"⟩
abbrev cL_meter : ByteArray := method_12_code
def yL_meter : MethodName := ⟨RL, "meter", "(LHeatGuild;I[J)I"⟩
abbrev cL_isSuspected : ByteArray := method_13_code
def yL_isSuspected : MethodName := ⟨RL, "isSuspected", "(LHeatGuild;I[J)I"⟩
abbrev cL_bill : ByteArray := method_14_code
def yL_bill : MethodName := ⟨RL, "bill", "(LHeatGuild;I[J)I"⟩
abbrev cL_isOpen : ByteArray := method_15_code
def yL_isOpen : MethodName := ⟨RL, "isOpen", "(LHeatGuild;I[J)I"⟩
abbrev cL_law : ByteArray := code
def yL_law : MethodName := ⟨RL, "law", "([I)Z"⟩
def wsX0_init : List Cond := .code yX0_init cX0_init 5 none :: ([.methodLink RX0 1 objectInit, .instanceMethod objectInit, .code objectInit ⟨#[0xb1]⟩ 1 none, .fieldLink RX0 7 "HeatGuild$Boiler" "number" "I", .fieldLink RX0 13 "HeatGuild$Boiler" "steps" "I", .fieldLink RX0 16 "HeatGuild$Boiler" "power" "I", .fieldLink RX0 19 "HeatGuild$Boiler" "price" "I"] ++ wsX00)
def wsX0_fireFor : List Cond := .code yX0_fireFor cX0_fireFor 2 (some .int) :: ([.fieldLink RX0 22 "HeatGuild$Boiler" "firedSteps" "I", .fieldLink RX0 13 "HeatGuild$Boiler" "steps" "I", .fieldLink RX0 16 "HeatGuild$Boiler" "power" "I", .methodLink RX0 25 Lib.Math.min.name, .static Lib.Math.min.name, .initialized "java/lang/Math", .code Lib.Math.min.name Lib.Math.min.code 2 (some .int)] ++ wsX00)
def wsX1_init : List Cond := .code yX1_init cX1_init 1 none :: ([.methodLink RX1 3 objectInit, .instanceMethod objectInit, .code objectInit ⟨#[0xb1]⟩ 1 none, .arrayClass .int, .fieldLink RX1 9 "HeatGuild$Meters" "error" "[I", .fieldLink RX1 15 "HeatGuild$Meters" "told" "[I", .arrayClass .boolean, .fieldLink RX1 18 "HeatGuild$Meters" "suspected" "[Z", .fieldLink RX1 22 "HeatGuild$Meters" "flow" "[I", .fieldLink RX1 25 "HeatGuild$Meters" "accounted" "[I"] ++ wsX10)
def wsX4_isHouse : List Cond := .code yX4_isHouse cX4_isHouse 1 (some .boolean) :: ([])
def wsX2_carriedLoss : List Cond := .code yX2_carriedLoss cX2_carriedLoss 2 (some .int) :: ([.fieldLink RX2 31 "HeatGuild$Net" "carries" "[Z", .fieldLink RX2 15 "HeatGuild$Net" "loss" "[I", .static yX4_isHouse, .initialized RX4, .code yX4_isHouse cX4_isHouse 1 (some .boolean)] ++ wsX20)
def wsX1_read : List Cond := .code yX1_read cX1_read 5 none :: ([.fieldLink RX1 22 "HeatGuild$Meters" "flow" "[I", .fieldLink RX1 25 "HeatGuild$Meters" "accounted" "[I", .fieldLink RX1 15 "HeatGuild$Meters" "told" "[I", .fieldLink RX1 9 "HeatGuild$Meters" "error" "[I", .fieldLink RX1 18 "HeatGuild$Meters" "suspected" "[Z", .static yX4_isHouse, .initialized RX4, .code yX4_isHouse cX4_isHouse 1 (some .boolean), .instanceMethod yX2_carriedLoss, .initialized RX2, .selects RX2 yX2_carriedLoss yX2_carriedLoss, .code yX2_carriedLoss cX2_carriedLoss 2 (some .int), .fieldLink RX2 31 "HeatGuild$Net" "carries" "[Z", .fieldLink RX2 15 "HeatGuild$Net" "loss" "[I"] ++ wsX10 ++ wsX20)
def wsX2_init : List Cond := .code yX2_init cX2_init 2 none :: ([.methodLink RX2 3 objectInit, .instanceMethod objectInit, .code objectInit ⟨#[0xb1]⟩ 1 none, .arrayClass .int, .fieldLink RX2 9 "HeatGuild$Net" "source" "[I", .fieldLink RX2 15 "HeatGuild$Net" "loss" "[I", .fieldLink RX2 18 "HeatGuild$Net" "area" "[I", .fieldLink RX2 21 "HeatGuild$Net" "shutHours" "[I", .fieldLink RX2 24 "HeatGuild$Net" "served" "[I", .arrayClass .boolean, .fieldLink RX2 27 "HeatGuild$Net" "heated" "[Z", .fieldLink RX2 31 "HeatGuild$Net" "carries" "[Z", .fieldLink RX2 34 "HeatGuild$Net" "demand" "[I"] ++ wsX20)
def wsX2_markHeated : List Cond := .code yX2_markHeated cX2_markHeated 4 none :: ([.fieldLink RX2 9 "HeatGuild$Net" "source" "[I", .fieldLink RX2 27 "HeatGuild$Net" "heated" "[Z", .fieldLink RX2 21 "HeatGuild$Net" "shutHours" "[I", .static yX4_isHouse, .initialized RX4, .code yX4_isHouse cX4_isHouse 1 (some .boolean)] ++ wsX20)
def wsX4_wantedHeat : List Cond := .code yX4_wantedHeat cX4_wantedHeat 2 (some .int) :: ([])
def wsX2_markCarries : List Cond := .code yX2_markCarries cX2_markCarries 3 none :: ([.fieldLink RX2 31 "HeatGuild$Net" "carries" "[Z", .fieldLink RX2 34 "HeatGuild$Net" "demand" "[I", .fieldLink RX2 9 "HeatGuild$Net" "source" "[I", .static yX4_isHouse, .initialized RX4, .code yX4_isHouse cX4_isHouse 1 (some .boolean)] ++ wsX20)
def wsX2_survey_r1 : List Cond := [Cond.fieldLink RX2 34 "HeatGuild$Net" "demand" "[I", Cond.fieldLink RX2 27 "HeatGuild$Net" "heated" "[Z", Cond.fieldLink RX2 18 "HeatGuild$Net" "area" "[I", Cond.fieldLink RX2 47 "HeatGuild$Net" "surveyedLosses" "I", Cond.methodLink RX2 37 yX2_markHeated, Cond.instanceMethod yX2_markHeated, Cond.selects RX2 yX2_markHeated yX2_markHeated, Cond.initialized RX2, Cond.code yX2_markHeated cX2_markHeated 4 none, Cond.fieldLink RX2 9 "HeatGuild$Net" "source" "[I", Cond.fieldLink RX2 21 "HeatGuild$Net" "shutHours" "[I", Cond.static yX4_isHouse, Cond.initialized RX4, Cond.code yX4_isHouse cX4_isHouse 1 (some .boolean), Cond.static yX4_wantedHeat, Cond.code yX4_wantedHeat cX4_wantedHeat 2 (some .int), Cond.methodLink RX2 44 yX2_markCarries, Cond.instanceMethod yX2_markCarries, Cond.selects RX2 yX2_markCarries yX2_markCarries, Cond.code yX2_markCarries cX2_markCarries 3 none, Cond.fieldLink RX2 31 "HeatGuild$Net" "carries" "[Z", Cond.methodLink RX2 51 yX2_carriedLoss, Cond.instanceMethod yX2_carriedLoss, Cond.selects RX2 yX2_carriedLoss yX2_carriedLoss]
def wsX2_survey_r2 : List Cond := [Cond.code yX2_carriedLoss cX2_carriedLoss 2 (some .int), Cond.fieldLink RX2 15 "HeatGuild$Net" "loss" "[I"]
def wsX2_survey : List Cond := .code yX2_survey cX2_survey 4 (some .int) :: ((wsX2_survey_r1 ++ wsX2_survey_r2) ++ wsX20)
def wsX2_serve : List Cond := .code yX2_serve cX2_serve 4 none :: ([.fieldLink RX2 47 "HeatGuild$Net" "surveyedLosses" "I", .methodLink RX2 59 Lib.Math.max.name, .static Lib.Math.max.name, .initialized "java/lang/Math", .code Lib.Math.max.name Lib.Math.max.code 2 (some .int), .fieldLink RX2 24 "HeatGuild$Net" "served" "[I", .fieldLink RX2 34 "HeatGuild$Net" "demand" "[I", .methodLink RX2 64 Lib.Math.min.name, .static Lib.Math.min.name, .code Lib.Math.min.name Lib.Math.min.code 2 (some .int)] ++ wsX20)
def wsX2_countHousesWithoutHeat : List Cond := .code yX2_countHousesWithoutHeat cX2_countHousesWithoutHeat 3 (some .int) :: ([.fieldLink RX2 18 "HeatGuild$Net" "area" "[I", .fieldLink RX2 27 "HeatGuild$Net" "heated" "[Z", .methodLink RX2 37 yX2_markHeated, .instanceMethod yX2_markHeated, .selects RX2 yX2_markHeated yX2_markHeated, .initialized RX2, .code yX2_markHeated cX2_markHeated 4 none, .fieldLink RX2 9 "HeatGuild$Net" "source" "[I", .fieldLink RX2 21 "HeatGuild$Net" "shutHours" "[I", .static yX4_isHouse, .initialized RX4, .code yX4_isHouse cX4_isHouse 1 (some .boolean)] ++ wsX20)
def wsX2_endHourOfRepairs : List Cond := .code yX2_endHourOfRepairs cX2_endHourOfRepairs 2 none :: ([.fieldLink RX2 21 "HeatGuild$Net" "shutHours" "[I"] ++ wsX20)
def wsX3_init : List Cond := .code yX3_init cX3_init 1 none :: ([.methodLink RX3 1 objectInit, .instanceMethod objectInit, .code objectInit ⟨#[0xb1]⟩ 1 none])
def wsX3_lastFiredBefore : List Cond := .code yX3_lastFiredBefore cX3_lastFiredBefore 4 (some (.object "HeatGuild$Boiler")) :: ([.fieldLink RX3 22 "HeatGuild$Plant" "first" "LHeatGuild$Boiler;"] ++ wsX30 ++ wsX00)
def wsX3_add : List Cond := .code yX3_add cX3_add 6 (some .int) :: ([.classLink RX3 7 RX0, .instantiable RX0 6, .initialized RX0, .fieldLink RX3 9 "HeatGuild$Plant" "count" "I", .fieldLink RX3 22 "HeatGuild$Plant" "first" "LHeatGuild$Boiler;", .fieldLink RX3 29 "HeatGuild$Plant" "allPower" "I", .instanceMethod yX0_init, .code yX0_init cX0_init 5 none, .methodLink RX0 1 objectInit, .instanceMethod objectInit, .code objectInit ⟨#[0xb1]⟩ 1 none, .fieldLink RX0 7 "HeatGuild$Boiler" "number" "I", .fieldLink RX0 13 "HeatGuild$Boiler" "steps" "I", .fieldLink RX0 16 "HeatGuild$Boiler" "power" "I", .fieldLink RX0 19 "HeatGuild$Boiler" "price" "I", .methodLink RX3 18 yX3_lastFiredBefore, .instanceMethod yX3_lastFiredBefore, .selects RX3 yX3_lastFiredBefore yX3_lastFiredBefore, .initialized RX3, .code yX3_lastFiredBefore cX3_lastFiredBefore 4 (some (.object "HeatGuild$Boiler"))] ++ wsX00 ++ wsX30)
def wsX3_find : List Cond := .code yX3_find cX3_find 3 (some (.object "HeatGuild$Boiler")) :: ([.fieldLink RX3 22 "HeatGuild$Plant" "first" "LHeatGuild$Boiler;"] ++ wsX30 ++ wsX00)
def wsX3_fire : List Cond := .code yX3_fire cX3_fire 5 none :: ([.fieldLink RX3 22 "HeatGuild$Plant" "first" "LHeatGuild$Boiler;", .fieldLink RX3 42 "HeatGuild$Plant" "spent" "I", .instanceMethod yX0_fireFor, .initialized RX0, .selects RX0 yX0_fireFor yX0_fireFor, .code yX0_fireFor cX0_fireFor 2 (some .int), .fieldLink RX0 22 "HeatGuild$Boiler" "firedSteps" "I", .fieldLink RX0 13 "HeatGuild$Boiler" "steps" "I", .fieldLink RX0 16 "HeatGuild$Boiler" "power" "I", .methodLink RX0 25 Lib.Math.min.name, .static Lib.Math.min.name, .initialized "java/lang/Math", .code Lib.Math.min.name Lib.Math.min.code 2 (some .int)] ++ wsX30 ++ wsX00)
def wsX4_init_r1 : List Cond := [Cond.methodLink RX4 1 objectInit, Cond.instanceMethod objectInit, Cond.code objectInit ⟨#[0xb1]⟩ 1 none, Cond.classLink RX4 7 RX2, Cond.instantiable RX2 9, Cond.initialized RX2, Cond.fieldLink RX4 10 "HeatGuild" "net" "LHeatGuild$Net;", Cond.classLink RX4 16 RX3, Cond.instantiable RX3 4, Cond.initialized RX3, Cond.fieldLink RX4 19 "HeatGuild" "plant" "LHeatGuild$Plant;", Cond.classLink RX4 23 RX1, Cond.instantiable RX1 5, Cond.initialized RX1, Cond.fieldLink RX4 26 "HeatGuild" "meters" "LHeatGuild$Meters;", Cond.arrayClass .int, Cond.fieldLink RX4 30 "HeatGuild" "billed" "[I", Cond.instanceMethod yX2_init, Cond.code yX2_init cX2_init 2 none, Cond.methodLink RX2 3 objectInit, Cond.fieldLink RX2 9 "HeatGuild$Net" "source" "[I", Cond.fieldLink RX2 15 "HeatGuild$Net" "loss" "[I", Cond.fieldLink RX2 18 "HeatGuild$Net" "area" "[I", Cond.fieldLink RX2 21 "HeatGuild$Net" "shutHours" "[I"]
def wsX4_init_r2 : List Cond := [Cond.fieldLink RX2 24 "HeatGuild$Net" "served" "[I", Cond.arrayClass .boolean, Cond.fieldLink RX2 27 "HeatGuild$Net" "heated" "[Z", Cond.fieldLink RX2 31 "HeatGuild$Net" "carries" "[Z", Cond.fieldLink RX2 34 "HeatGuild$Net" "demand" "[I", Cond.instanceMethod yX3_init, Cond.code yX3_init cX3_init 1 none, Cond.methodLink RX3 1 objectInit, Cond.instanceMethod yX1_init, Cond.code yX1_init cX1_init 1 none, Cond.methodLink RX1 3 objectInit, Cond.fieldLink RX1 9 "HeatGuild$Meters" "error" "[I", Cond.fieldLink RX1 15 "HeatGuild$Meters" "told" "[I", Cond.fieldLink RX1 18 "HeatGuild$Meters" "suspected" "[Z", Cond.fieldLink RX1 22 "HeatGuild$Meters" "flow" "[I", Cond.fieldLink RX1 25 "HeatGuild$Meters" "accounted" "[I"]
def wsX4_init : List Cond := .code yX4_init cX4_init 1 none :: ((wsX4_init_r1 ++ wsX4_init_r2) ++ wsX20 ++ wsX40 ++ wsX30 ++ wsX10)
def wsX4_isWithin : List Cond := .code yX4_isWithin cX4_isWithin 3 (some .boolean) :: ([])
def wsX4_feed : List Cond := .code yX4_feed cX4_feed 5 (some .int) :: ([.classLink RX4 42 "java/lang/IllegalArgumentException", .initialized "java/lang/IllegalArgumentException", .classLink RX4 53 "java/lang/IllegalStateException", .initialized "java/lang/IllegalStateException", .fieldLink RX4 49 "HeatGuild" "passedHours" "I", .fieldLink RX4 10 "HeatGuild" "net" "LHeatGuild$Net;", .methodLink RX4 34 yX4_isHouse, .static yX4_isHouse, .initialized RX4, .code yX4_isHouse cX4_isHouse 1 (some .boolean), .methodLink RX4 38 yX4_isWithin, .static yX4_isWithin, .code yX4_isWithin cX4_isWithin 3 (some .boolean)] ++ wsX40 ++ wsX20 ++ (vx_atS RX4 46 "java/lang/IllegalArgumentException" ["java/lang/RuntimeException", "java/lang/Exception"]).filter goodWord ++ (vx_atS RX4 57 "java/lang/IllegalStateException" ["java/lang/RuntimeException", "java/lang/Exception"]).filter goodWord)
def wsX4_setArea : List Cond := .code yX4_setArea cX4_setArea 4 (some .int) :: ([.classLink RX4 42 "java/lang/IllegalArgumentException", .initialized "java/lang/IllegalArgumentException", .fieldLink RX4 10 "HeatGuild" "net" "LHeatGuild$Net;", .methodLink RX4 34 yX4_isHouse, .static yX4_isHouse, .initialized RX4, .code yX4_isHouse cX4_isHouse 1 (some .boolean), .methodLink RX4 38 yX4_isWithin, .static yX4_isWithin, .code yX4_isWithin cX4_isWithin 3 (some .boolean)] ++ wsX40 ++ wsX20 ++ (vx_atS RX4 46 "java/lang/IllegalArgumentException" ["java/lang/RuntimeException", "java/lang/Exception"]).filter goodWord)
def wsX4_addBoiler_r1 : List Cond := [Cond.classLink RX4 42 "java/lang/IllegalArgumentException", Cond.initialized "java/lang/IllegalArgumentException", Cond.classLink RX4 53 "java/lang/IllegalStateException", Cond.initialized "java/lang/IllegalStateException", Cond.fieldLink RX4 19 "HeatGuild" "plant" "LHeatGuild$Plant;", Cond.methodLink RX4 38 yX4_isWithin, Cond.static yX4_isWithin, Cond.initialized RX4, Cond.code yX4_isWithin cX4_isWithin 3 (some .boolean), Cond.instanceMethod yX3_add, Cond.initialized RX3, Cond.selects RX3 yX3_add yX3_add, Cond.code yX3_add cX3_add 6 (some .int), Cond.classLink RX3 7 RX0, Cond.instantiable RX0 6, Cond.initialized RX0, Cond.fieldLink RX3 9 "HeatGuild$Plant" "count" "I", Cond.fieldLink RX3 22 "HeatGuild$Plant" "first" "LHeatGuild$Boiler;", Cond.fieldLink RX3 29 "HeatGuild$Plant" "allPower" "I", Cond.instanceMethod yX0_init, Cond.code yX0_init cX0_init 5 none, Cond.methodLink RX0 1 objectInit, Cond.instanceMethod objectInit, Cond.code objectInit ⟨#[0xb1]⟩ 1 none]
def wsX4_addBoiler_r2 : List Cond := [Cond.fieldLink RX0 7 "HeatGuild$Boiler" "number" "I", Cond.fieldLink RX0 13 "HeatGuild$Boiler" "steps" "I", Cond.fieldLink RX0 16 "HeatGuild$Boiler" "power" "I", Cond.fieldLink RX0 19 "HeatGuild$Boiler" "price" "I", Cond.methodLink RX3 18 yX3_lastFiredBefore, Cond.instanceMethod yX3_lastFiredBefore, Cond.selects RX3 yX3_lastFiredBefore yX3_lastFiredBefore, Cond.code yX3_lastFiredBefore cX3_lastFiredBefore 4 (some (.object "HeatGuild$Boiler"))]
def wsX4_addBoiler : List Cond := .code yX4_addBoiler cX4_addBoiler 4 (some .int) :: ((wsX4_addBoiler_r1 ++ wsX4_addBoiler_r2) ++ wsX40 ++ wsX30 ++ wsX00 ++ (vx_atS RX4 46 "java/lang/IllegalArgumentException" ["java/lang/RuntimeException", "java/lang/Exception"]).filter goodWord ++ (vx_atS RX4 57 "java/lang/IllegalStateException" ["java/lang/RuntimeException", "java/lang/Exception"]).filter goodWord)
def wsX4_setError : List Cond := .code yX4_setError cX4_setError 4 (some .int) :: ([.classLink RX4 42 "java/lang/IllegalArgumentException", .initialized "java/lang/IllegalArgumentException", .fieldLink RX4 26 "HeatGuild" "meters" "LHeatGuild$Meters;", .methodLink RX4 34 yX4_isHouse, .static yX4_isHouse, .initialized RX4, .code yX4_isHouse cX4_isHouse 1 (some .boolean), .methodLink RX4 38 yX4_isWithin, .static yX4_isWithin, .code yX4_isWithin cX4_isWithin 3 (some .boolean)] ++ wsX40 ++ wsX10 ++ (vx_atS RX4 46 "java/lang/IllegalArgumentException" ["java/lang/RuntimeException", "java/lang/Exception"]).filter goodWord)
def wsX4_repair_r1 : List Cond := [Cond.classLink RX4 42 "java/lang/IllegalArgumentException", Cond.initialized "java/lang/IllegalArgumentException", Cond.classLink RX4 53 "java/lang/IllegalStateException", Cond.initialized "java/lang/IllegalStateException", Cond.fieldLink RX4 10 "HeatGuild" "net" "LHeatGuild$Net;", Cond.fieldLink RX4 49 "HeatGuild" "passedHours" "I", Cond.fieldLink RX4 92 "HeatGuild" "lastTemperature" "I", Cond.methodLink RX4 34 yX4_isHouse, Cond.static yX4_isHouse, Cond.initialized RX4, Cond.code yX4_isHouse cX4_isHouse 1 (some .boolean), Cond.methodLink RX4 38 yX4_isWithin, Cond.static yX4_isWithin, Cond.code yX4_isWithin cX4_isWithin 3 (some .boolean), Cond.instanceMethod yX2_countHousesWithoutHeat, Cond.initialized RX2, Cond.selects RX2 yX2_countHousesWithoutHeat yX2_countHousesWithoutHeat, Cond.code yX2_countHousesWithoutHeat cX2_countHousesWithoutHeat 3 (some .int), Cond.fieldLink RX2 18 "HeatGuild$Net" "area" "[I", Cond.fieldLink RX2 27 "HeatGuild$Net" "heated" "[Z", Cond.methodLink RX2 37 yX2_markHeated, Cond.instanceMethod yX2_markHeated, Cond.selects RX2 yX2_markHeated yX2_markHeated, Cond.code yX2_markHeated cX2_markHeated 4 none]
def wsX4_repair_r2 : List Cond := [Cond.fieldLink RX2 9 "HeatGuild$Net" "source" "[I", Cond.fieldLink RX2 21 "HeatGuild$Net" "shutHours" "[I"]
def wsX4_repair : List Cond := .code yX4_repair cX4_repair 3 (some .int) :: ((wsX4_repair_r1 ++ wsX4_repair_r2) ++ wsX40 ++ wsX20 ++ (vx_atS RX4 46 "java/lang/IllegalArgumentException" ["java/lang/RuntimeException", "java/lang/Exception"]).filter goodWord ++ (vx_atS RX4 57 "java/lang/IllegalStateException" ["java/lang/RuntimeException", "java/lang/Exception"]).filter goodWord)
def wsX4_requireTemperature : List Cond := .code yX4_requireTemperature cX4_requireTemperature 1 none :: ([.classLink RX4 42 "java/lang/IllegalArgumentException", .initialized "java/lang/IllegalArgumentException", .methodLink RX4 38 yX4_isWithin, .static yX4_isWithin, .initialized RX4, .code yX4_isWithin cX4_isWithin 3 (some .boolean)] ++ (vx_atS RX4 46 "java/lang/IllegalArgumentException" ["java/lang/RuntimeException", "java/lang/Exception"]).filter goodWord)
def wsX4_isPeak : List Cond := .code yX4_isPeak cX4_isPeak 2 (some .boolean) :: ([.fieldLink RX4 19 "HeatGuild" "plant" "LHeatGuild$Plant;"] ++ wsX40 ++ wsX30)
def wsX4_charge : List Cond := .code yX4_charge cX4_charge 5 none :: ([.fieldLink RX4 10 "HeatGuild" "net" "LHeatGuild$Net;", .fieldLink RX4 30 "HeatGuild" "billed" "[I", .methodLink RX4 170 yX4_wantedHeat, .static yX4_wantedHeat, .initialized RX4, .code yX4_wantedHeat cX4_wantedHeat 2 (some .int)] ++ wsX40 ++ wsX20)
def wsX4_hour_r1 : List Cond := [Cond.fieldLink RX4 10 "HeatGuild" "net" "LHeatGuild$Net;", Cond.fieldLink RX4 19 "HeatGuild" "plant" "LHeatGuild$Plant;", Cond.fieldLink RX4 26 "HeatGuild" "meters" "LHeatGuild$Meters;", Cond.fieldLink RX4 135 "HeatGuild" "lastLosses" "I", Cond.fieldLink RX4 92 "HeatGuild" "lastTemperature" "I", Cond.fieldLink RX4 49 "HeatGuild" "passedHours" "I", Cond.methodLink RX4 101 yX4_requireTemperature, Cond.static yX4_requireTemperature, Cond.initialized RX4, Cond.code yX4_requireTemperature cX4_requireTemperature 1 none, Cond.classLink RX4 42 "java/lang/IllegalArgumentException", Cond.initialized "java/lang/IllegalArgumentException", Cond.methodLink RX4 38 yX4_isWithin, Cond.static yX4_isWithin, Cond.code yX4_isWithin cX4_isWithin 3 (some .boolean), Cond.instanceMethod yX2_survey, Cond.initialized RX2, Cond.selects RX2 yX2_survey yX2_survey, Cond.code yX2_survey cX2_survey 4 (some .int), Cond.fieldLink RX2 34 "HeatGuild$Net" "demand" "[I", Cond.fieldLink RX2 27 "HeatGuild$Net" "heated" "[Z", Cond.fieldLink RX2 18 "HeatGuild$Net" "area" "[I", Cond.fieldLink RX2 47 "HeatGuild$Net" "surveyedLosses" "I", Cond.methodLink RX2 37 yX2_markHeated]
def wsX4_hour_r2 : List Cond := [Cond.instanceMethod yX2_markHeated, Cond.selects RX2 yX2_markHeated yX2_markHeated, Cond.code yX2_markHeated cX2_markHeated 4 none, Cond.fieldLink RX2 9 "HeatGuild$Net" "source" "[I", Cond.fieldLink RX2 21 "HeatGuild$Net" "shutHours" "[I", Cond.static yX4_isHouse, Cond.code yX4_isHouse cX4_isHouse 1 (some .boolean), Cond.static yX4_wantedHeat, Cond.code yX4_wantedHeat cX4_wantedHeat 2 (some .int), Cond.methodLink RX2 44 yX2_markCarries, Cond.instanceMethod yX2_markCarries, Cond.selects RX2 yX2_markCarries yX2_markCarries, Cond.code yX2_markCarries cX2_markCarries 3 none, Cond.fieldLink RX2 31 "HeatGuild$Net" "carries" "[Z", Cond.methodLink RX2 51 yX2_carriedLoss, Cond.instanceMethod yX2_carriedLoss, Cond.selects RX2 yX2_carriedLoss yX2_carriedLoss, Cond.code yX2_carriedLoss cX2_carriedLoss 2 (some .int), Cond.fieldLink RX2 15 "HeatGuild$Net" "loss" "[I", Cond.instanceMethod yX2_serve, Cond.selects RX2 yX2_serve yX2_serve, Cond.code yX2_serve cX2_serve 4 none, Cond.methodLink RX2 59 Lib.Math.max.name, Cond.static Lib.Math.max.name]
def wsX4_hour_r3 : List Cond := [Cond.initialized "java/lang/Math", Cond.code Lib.Math.max.name Lib.Math.max.code 2 (some .int), Cond.fieldLink RX2 24 "HeatGuild$Net" "served" "[I", Cond.methodLink RX2 64 Lib.Math.min.name, Cond.static Lib.Math.min.name, Cond.code Lib.Math.min.name Lib.Math.min.code 2 (some .int), Cond.instanceMethod yX3_fire, Cond.initialized RX3, Cond.selects RX3 yX3_fire yX3_fire, Cond.code yX3_fire cX3_fire 5 none, Cond.fieldLink RX3 22 "HeatGuild$Plant" "first" "LHeatGuild$Boiler;", Cond.fieldLink RX3 42 "HeatGuild$Plant" "spent" "I", Cond.instanceMethod yX0_fireFor, Cond.initialized RX0, Cond.selects RX0 yX0_fireFor yX0_fireFor, Cond.code yX0_fireFor cX0_fireFor 2 (some .int), Cond.fieldLink RX0 22 "HeatGuild$Boiler" "firedSteps" "I", Cond.fieldLink RX0 13 "HeatGuild$Boiler" "steps" "I", Cond.fieldLink RX0 16 "HeatGuild$Boiler" "power" "I", Cond.methodLink RX0 25 Lib.Math.min.name, Cond.instanceMethod yX1_read, Cond.initialized RX1, Cond.selects RX1 yX1_read yX1_read, Cond.code yX1_read cX1_read 5 none]
def wsX4_hour_r4 : List Cond := [Cond.fieldLink RX1 22 "HeatGuild$Meters" "flow" "[I", Cond.fieldLink RX1 25 "HeatGuild$Meters" "accounted" "[I", Cond.fieldLink RX1 15 "HeatGuild$Meters" "told" "[I", Cond.fieldLink RX1 9 "HeatGuild$Meters" "error" "[I", Cond.fieldLink RX1 18 "HeatGuild$Meters" "suspected" "[Z", Cond.methodLink RX4 122 yX4_isPeak, Cond.instanceMethod yX4_isPeak, Cond.selects RX4 yX4_isPeak yX4_isPeak, Cond.code yX4_isPeak cX4_isPeak 2 (some .boolean), Cond.methodLink RX4 125 yX4_charge, Cond.instanceMethod yX4_charge, Cond.selects RX4 yX4_charge yX4_charge, Cond.code yX4_charge cX4_charge 5 none, Cond.fieldLink RX4 30 "HeatGuild" "billed" "[I", Cond.methodLink RX4 170 yX4_wantedHeat, Cond.instanceMethod yX2_endHourOfRepairs, Cond.selects RX2 yX2_endHourOfRepairs yX2_endHourOfRepairs, Cond.code yX2_endHourOfRepairs cX2_endHourOfRepairs 2 none]
def wsX4_hour : List Cond := .code yX4_hour cX4_hour 3 (some .int) :: ((wsX4_hour_r1 ++ (wsX4_hour_r2 ++ (wsX4_hour_r3 ++ wsX4_hour_r4))) ++ wsX40 ++ wsX30 ++ wsX20 ++ wsX00 ++ wsX10 ++ (vx_atS RX4 46 "java/lang/IllegalArgumentException" ["java/lang/RuntimeException", "java/lang/Exception"]).filter goodWord)
def wsX4_hours : List Cond := .code yX4_hours cX4_hours 1 (some .int) :: ([.fieldLink RX4 49 "HeatGuild" "passedHours" "I"] ++ wsX40)
def wsX4_load_r1 : List Cond := [Cond.fieldLink RX4 10 "HeatGuild" "net" "LHeatGuild$Net;", Cond.methodLink RX4 101 yX4_requireTemperature, Cond.static yX4_requireTemperature, Cond.initialized RX4, Cond.code yX4_requireTemperature cX4_requireTemperature 1 none, Cond.classLink RX4 42 "java/lang/IllegalArgumentException", Cond.initialized "java/lang/IllegalArgumentException", Cond.methodLink RX4 38 yX4_isWithin, Cond.static yX4_isWithin, Cond.code yX4_isWithin cX4_isWithin 3 (some .boolean), Cond.instanceMethod yX2_survey, Cond.initialized RX2, Cond.selects RX2 yX2_survey yX2_survey, Cond.code yX2_survey cX2_survey 4 (some .int), Cond.fieldLink RX2 34 "HeatGuild$Net" "demand" "[I", Cond.fieldLink RX2 27 "HeatGuild$Net" "heated" "[Z", Cond.fieldLink RX2 18 "HeatGuild$Net" "area" "[I", Cond.fieldLink RX2 47 "HeatGuild$Net" "surveyedLosses" "I", Cond.methodLink RX2 37 yX2_markHeated, Cond.instanceMethod yX2_markHeated, Cond.selects RX2 yX2_markHeated yX2_markHeated, Cond.code yX2_markHeated cX2_markHeated 4 none, Cond.fieldLink RX2 9 "HeatGuild$Net" "source" "[I", Cond.fieldLink RX2 21 "HeatGuild$Net" "shutHours" "[I"]
def wsX4_load_r2 : List Cond := [Cond.static yX4_isHouse, Cond.code yX4_isHouse cX4_isHouse 1 (some .boolean), Cond.static yX4_wantedHeat, Cond.code yX4_wantedHeat cX4_wantedHeat 2 (some .int), Cond.methodLink RX2 44 yX2_markCarries, Cond.instanceMethod yX2_markCarries, Cond.selects RX2 yX2_markCarries yX2_markCarries, Cond.code yX2_markCarries cX2_markCarries 3 none, Cond.fieldLink RX2 31 "HeatGuild$Net" "carries" "[Z", Cond.methodLink RX2 51 yX2_carriedLoss, Cond.instanceMethod yX2_carriedLoss, Cond.selects RX2 yX2_carriedLoss yX2_carriedLoss, Cond.code yX2_carriedLoss cX2_carriedLoss 2 (some .int), Cond.fieldLink RX2 15 "HeatGuild$Net" "loss" "[I"]
def wsX4_load : List Cond := .code yX4_load cX4_load 2 (some .int) :: ((wsX4_load_r1 ++ wsX4_load_r2) ++ wsX40 ++ wsX20 ++ (vx_atS RX4 46 "java/lang/IllegalArgumentException" ["java/lang/RuntimeException", "java/lang/Exception"]).filter goodWord)
def wsX4_fired : List Cond := .code yX4_fired cX4_fired 3 (some .int) :: ([.classLink RX4 142 "java/lang/IndexOutOfBoundsException", .initialized "java/lang/IndexOutOfBoundsException", .fieldLink RX4 19 "HeatGuild" "plant" "LHeatGuild$Plant;", .instanceMethod yX3_find, .initialized RX3, .selects RX3 yX3_find yX3_find, .code yX3_find cX3_find 3 (some (.object "HeatGuild$Boiler")), .fieldLink RX3 22 "HeatGuild$Plant" "first" "LHeatGuild$Boiler;"] ++ wsX40 ++ wsX00 ++ wsX30 ++ (vx_atS RX4 146 "java/lang/IndexOutOfBoundsException" ["java/lang/RuntimeException", "java/lang/Exception"]).filter goodWord)
def wsX4_got : List Cond := .code yX4_got cX4_got 2 (some .int) :: ([.classLink RX4 42 "java/lang/IllegalArgumentException", .initialized "java/lang/IllegalArgumentException", .fieldLink RX4 10 "HeatGuild" "net" "LHeatGuild$Net;", .methodLink RX4 34 yX4_isHouse, .static yX4_isHouse, .initialized RX4, .code yX4_isHouse cX4_isHouse 1 (some .boolean)] ++ wsX40 ++ wsX20 ++ (vx_atS RX4 46 "java/lang/IllegalArgumentException" ["java/lang/RuntimeException", "java/lang/Exception"]).filter goodWord)
def wsX4_meter : List Cond := .code yX4_meter cX4_meter 2 (some .int) :: ([.classLink RX4 42 "java/lang/IllegalArgumentException", .initialized "java/lang/IllegalArgumentException", .fieldLink RX4 26 "HeatGuild" "meters" "LHeatGuild$Meters;", .methodLink RX4 34 yX4_isHouse, .static yX4_isHouse, .initialized RX4, .code yX4_isHouse cX4_isHouse 1 (some .boolean)] ++ wsX40 ++ wsX10 ++ (vx_atS RX4 46 "java/lang/IllegalArgumentException" ["java/lang/RuntimeException", "java/lang/Exception"]).filter goodWord)
def wsX4_isSuspected : List Cond := .code yX4_isSuspected cX4_isSuspected 2 (some .boolean) :: ([.classLink RX4 42 "java/lang/IllegalArgumentException", .initialized "java/lang/IllegalArgumentException", .fieldLink RX4 26 "HeatGuild" "meters" "LHeatGuild$Meters;", .methodLink RX4 34 yX4_isHouse, .static yX4_isHouse, .initialized RX4, .code yX4_isHouse cX4_isHouse 1 (some .boolean)] ++ wsX40 ++ wsX10 ++ (vx_atS RX4 46 "java/lang/IllegalArgumentException" ["java/lang/RuntimeException", "java/lang/Exception"]).filter goodWord)
def wsX4_losses : List Cond := .code yX4_losses cX4_losses 1 (some .int) :: ([.fieldLink RX4 135 "HeatGuild" "lastLosses" "I"] ++ wsX40)
def wsX4_bill : List Cond := .code yX4_bill cX4_bill 2 (some .int) :: ([.classLink RX4 42 "java/lang/IllegalArgumentException", .initialized "java/lang/IllegalArgumentException", .fieldLink RX4 30 "HeatGuild" "billed" "[I", .methodLink RX4 34 yX4_isHouse, .static yX4_isHouse, .initialized RX4, .code yX4_isHouse cX4_isHouse 1 (some .boolean)] ++ wsX40 ++ (vx_atS RX4 46 "java/lang/IllegalArgumentException" ["java/lang/RuntimeException", "java/lang/Exception"]).filter goodWord)
def wsX4_cost : List Cond := .code yX4_cost cX4_cost 1 (some .int) :: ([.fieldLink RX4 19 "HeatGuild" "plant" "LHeatGuild$Plant;"] ++ wsX40 ++ wsX30)
def wsX4_isOpen : List Cond := .code yX4_isOpen cX4_isOpen 2 (some .boolean) :: ([.classLink RX4 42 "java/lang/IllegalArgumentException", .initialized "java/lang/IllegalArgumentException", .fieldLink RX4 10 "HeatGuild" "net" "LHeatGuild$Net;", .methodLink RX4 34 yX4_isHouse, .static yX4_isHouse, .initialized RX4, .code yX4_isHouse cX4_isHouse 1 (some .boolean)] ++ wsX40 ++ wsX20 ++ (vx_atS RX4 46 "java/lang/IllegalArgumentException" ["java/lang/RuntimeException", "java/lang/Exception"]).filter goodWord)
def wsX5_init : List Cond := .code yX5_init cX5_init 2 none :: ([.methodLink RX5 1 objectInit, .instanceMethod objectInit, .code objectInit ⟨#[0xb1]⟩ 1 none, .arrayClass .int, .fieldLink RX5 7 "HeatGuildModel" "from" "[I", .fieldLink RX5 13 "HeatGuildModel" "loss" "[I", .fieldLink RX5 16 "HeatGuildModel" "areas" "[I", .fieldLink RX5 19 "HeatGuildModel" "errors" "[I", .fieldLink RX5 22 "HeatGuildModel" "shut" "[I", .fieldLink RX5 25 "HeatGuildModel" "bills" "[I", .fieldLink RX5 28 "HeatGuildModel" "steps" "[I", .fieldLink RX5 31 "HeatGuildModel" "powers" "[I", .fieldLink RX5 34 "HeatGuildModel" "costs" "[I", .arrayClass .boolean, .fieldLink RX5 37 "HeatGuildModel" "hasHeat" "[Z", .fieldLink RX5 41 "HeatGuildModel" "demands" "[I", .fieldLink RX5 44 "HeatGuildModel" "carries" "[Z", .fieldLink RX5 47 "HeatGuildModel" "fired" "[I", .fieldLink RX5 50 "HeatGuildModel" "got" "[I", .fieldLink RX5 53 "HeatGuildModel" "meters" "[I", .fieldLink RX5 56 "HeatGuildModel" "isSuspected" "[Z"] ++ wsX50)
def wsX5_thrown : List Cond := .code yX5_thrown cX5_thrown 1 (some .int) :: ([.fieldLink RX5 59 "HeatGuildModel" "thrown" "I"] ++ wsX50)
def wsX5_holds : List Cond := .code yX5_holds cX5_holds 2 (some .boolean) :: ([.fieldLink RX5 59 "HeatGuildModel" "thrown" "I"] ++ wsX50)
def wsX5_isIn : List Cond := .code yX5_isIn cX5_isIn 3 (some .boolean) :: ([])
def wsX5_isHouse : List Cond := .code yX5_isHouse cX5_isHouse 1 (some .boolean) :: ([.methodLink RX5 63 yX5_isIn, .static yX5_isIn, .initialized RX5, .code yX5_isIn cX5_isIn 3 (some .boolean)])
def wsX5_feed : List Cond := .code yX5_feed cX5_feed 6 (some .int) :: ([.fieldLink RX5 71 "HeatGuildModel" "hours" "I", .fieldLink RX5 7 "HeatGuildModel" "from" "[I", .fieldLink RX5 13 "HeatGuildModel" "loss" "[I", .methodLink RX5 67 yX5_isHouse, .static yX5_isHouse, .initialized RX5, .code yX5_isHouse cX5_isHouse 1 (some .boolean), .methodLink RX5 63 yX5_isIn, .static yX5_isIn, .code yX5_isIn cX5_isIn 3 (some .boolean), .methodLink RX5 74 yX5_holds, .instanceMethod yX5_holds, .selects RX5 yX5_holds yX5_holds, .code yX5_holds cX5_holds 2 (some .boolean), .fieldLink RX5 59 "HeatGuildModel" "thrown" "I"] ++ wsX50)
def wsX5_setArea : List Cond := .code yX5_setArea cX5_setArea 4 (some .int) :: ([.fieldLink RX5 16 "HeatGuildModel" "areas" "[I", .methodLink RX5 67 yX5_isHouse, .static yX5_isHouse, .initialized RX5, .code yX5_isHouse cX5_isHouse 1 (some .boolean), .methodLink RX5 63 yX5_isIn, .static yX5_isIn, .code yX5_isIn cX5_isIn 3 (some .boolean), .methodLink RX5 74 yX5_holds, .instanceMethod yX5_holds, .selects RX5 yX5_holds yX5_holds, .code yX5_holds cX5_holds 2 (some .boolean), .fieldLink RX5 59 "HeatGuildModel" "thrown" "I"] ++ wsX50)
def wsX5_addBoiler : List Cond := .code yX5_addBoiler cX5_addBoiler 5 (some .int) :: ([.fieldLink RX5 77 "HeatGuildModel" "boilers" "I", .fieldLink RX5 28 "HeatGuildModel" "steps" "[I", .fieldLink RX5 31 "HeatGuildModel" "powers" "[I", .fieldLink RX5 34 "HeatGuildModel" "costs" "[I", .methodLink RX5 63 yX5_isIn, .static yX5_isIn, .initialized RX5, .code yX5_isIn cX5_isIn 3 (some .boolean), .methodLink RX5 74 yX5_holds, .instanceMethod yX5_holds, .selects RX5 yX5_holds yX5_holds, .code yX5_holds cX5_holds 2 (some .boolean), .fieldLink RX5 59 "HeatGuildModel" "thrown" "I"] ++ wsX50)
def wsX5_setError : List Cond := .code yX5_setError cX5_setError 4 (some .int) :: ([.fieldLink RX5 19 "HeatGuildModel" "errors" "[I", .methodLink RX5 67 yX5_isHouse, .static yX5_isHouse, .initialized RX5, .code yX5_isHouse cX5_isHouse 1 (some .boolean), .methodLink RX5 63 yX5_isIn, .static yX5_isIn, .code yX5_isIn cX5_isIn 3 (some .boolean), .methodLink RX5 74 yX5_holds, .instanceMethod yX5_holds, .selects RX5 yX5_holds yX5_holds, .code yX5_holds cX5_holds 2 (some .boolean), .fieldLink RX5 59 "HeatGuildModel" "thrown" "I"] ++ wsX50)
def wsX5_heats : List Cond := .code yX5_heats cX5_heats 2 none :: ([.fieldLink RX5 37 "HeatGuildModel" "hasHeat" "[Z", .fieldLink RX5 22 "HeatGuildModel" "shut" "[I", .fieldLink RX5 7 "HeatGuildModel" "from" "[I"] ++ wsX50)
def wsX5_repair : List Cond := .code yX5_repair cX5_repair 7 (some .int) :: ([.fieldLink RX5 22 "HeatGuildModel" "shut" "[I", .fieldLink RX5 71 "HeatGuildModel" "hours" "I", .fieldLink RX5 80 "HeatGuildModel" "temperature" "I", .fieldLink RX5 16 "HeatGuildModel" "areas" "[I", .fieldLink RX5 37 "HeatGuildModel" "hasHeat" "[Z", .methodLink RX5 67 yX5_isHouse, .static yX5_isHouse, .initialized RX5, .code yX5_isHouse cX5_isHouse 1 (some .boolean), .methodLink RX5 63 yX5_isIn, .static yX5_isIn, .code yX5_isIn cX5_isIn 3 (some .boolean), .methodLink RX5 74 yX5_holds, .instanceMethod yX5_holds, .selects RX5 yX5_holds yX5_holds, .code yX5_holds cX5_holds 2 (some .boolean), .fieldLink RX5 59 "HeatGuildModel" "thrown" "I", .methodLink RX5 83 yX5_heats, .instanceMethod yX5_heats, .selects RX5 yX5_heats yX5_heats, .code yX5_heats cX5_heats 2 none, .fieldLink RX5 7 "HeatGuildModel" "from" "[I"] ++ wsX50)
def wsX5_need : List Cond := .code yX5_need cX5_need 2 (some .int) :: ([])
def wsX5_lays : List Cond := .code yX5_lays cX5_lays 4 (some .int) :: ([.fieldLink RX5 41 "HeatGuildModel" "demands" "[I", .fieldLink RX5 37 "HeatGuildModel" "hasHeat" "[Z", .fieldLink RX5 16 "HeatGuildModel" "areas" "[I", .fieldLink RX5 44 "HeatGuildModel" "carries" "[Z", .fieldLink RX5 7 "HeatGuildModel" "from" "[I", .fieldLink RX5 13 "HeatGuildModel" "loss" "[I", .methodLink RX5 83 yX5_heats, .instanceMethod yX5_heats, .selects RX5 yX5_heats yX5_heats, .initialized RX5, .code yX5_heats cX5_heats 2 none, .fieldLink RX5 22 "HeatGuildModel" "shut" "[I", .methodLink RX5 86 yX5_need, .static yX5_need, .code yX5_need cX5_need 2 (some .int)] ++ wsX50)
def wsX5_next : List Cond := .code yX5_next cX5_next 5 (some .int) :: ([.fieldLink RX5 77 "HeatGuildModel" "boilers" "I", .fieldLink RX5 34 "HeatGuildModel" "costs" "[I"] ++ wsX50)
def wsX5_fires : List Cond := .code yX5_fires cX5_fires 6 none :: ([.fieldLink RX5 31 "HeatGuildModel" "powers" "[I", .fieldLink RX5 28 "HeatGuildModel" "steps" "[I", .fieldLink RX5 47 "HeatGuildModel" "fired" "[I", .fieldLink RX5 94 "HeatGuildModel" "cost" "I", .fieldLink RX5 34 "HeatGuildModel" "costs" "[I", .methodLink RX5 90 yX5_next, .instanceMethod yX5_next, .selects RX5 yX5_next yX5_next, .initialized RX5, .code yX5_next cX5_next 5 (some .int), .fieldLink RX5 77 "HeatGuildModel" "boilers" "I"] ++ wsX50)
def wsX5_power : List Cond := .code yX5_power cX5_power 3 (some .int) :: ([.fieldLink RX5 77 "HeatGuildModel" "boilers" "I", .fieldLink RX5 28 "HeatGuildModel" "steps" "[I", .fieldLink RX5 31 "HeatGuildModel" "powers" "[I"] ++ wsX50)
def wsX5_serves : List Cond := .code yX5_serves cX5_serves 5 none :: ([.fieldLink RX5 97 "HeatGuildModel" "losses" "I", .fieldLink RX5 44 "HeatGuildModel" "carries" "[Z", .fieldLink RX5 13 "HeatGuildModel" "loss" "[I", .fieldLink RX5 50 "HeatGuildModel" "got" "[I", .fieldLink RX5 41 "HeatGuildModel" "demands" "[I", .methodLink RX5 100 yX5_power, .instanceMethod yX5_power, .selects RX5 yX5_power yX5_power, .initialized RX5, .code yX5_power cX5_power 3 (some .int), .fieldLink RX5 77 "HeatGuildModel" "boilers" "I", .fieldLink RX5 28 "HeatGuildModel" "steps" "[I", .fieldLink RX5 31 "HeatGuildModel" "powers" "[I"] ++ wsX50)
def wsX5_measures : List Cond := .code yX5_measures cX5_measures 5 none :: ([.fieldLink RX5 53 "HeatGuildModel" "meters" "[I", .fieldLink RX5 50 "HeatGuildModel" "got" "[I", .fieldLink RX5 7 "HeatGuildModel" "from" "[I", .fieldLink RX5 44 "HeatGuildModel" "carries" "[Z", .fieldLink RX5 13 "HeatGuildModel" "loss" "[I", .fieldLink RX5 19 "HeatGuildModel" "errors" "[I", .fieldLink RX5 56 "HeatGuildModel" "isSuspected" "[Z"] ++ wsX50)
def wsX5_bills : List Cond := .code yX5_bills cX5_bills 6 none :: ([.fieldLink RX5 37 "HeatGuildModel" "hasHeat" "[Z", .fieldLink RX5 16 "HeatGuildModel" "areas" "[I", .fieldLink RX5 25 "HeatGuildModel" "bills" "[I", .fieldLink RX5 50 "HeatGuildModel" "got" "[I", .methodLink RX5 100 yX5_power, .instanceMethod yX5_power, .selects RX5 yX5_power yX5_power, .initialized RX5, .code yX5_power cX5_power 3 (some .int), .fieldLink RX5 77 "HeatGuildModel" "boilers" "I", .fieldLink RX5 28 "HeatGuildModel" "steps" "[I", .fieldLink RX5 31 "HeatGuildModel" "powers" "[I", .methodLink RX5 86 yX5_need, .static yX5_need, .code yX5_need cX5_need 2 (some .int)] ++ wsX50)
def wsX5_isTemperature : List Cond := .code yX5_isTemperature cX5_isTemperature 1 (some .boolean) :: ([.methodLink RX5 63 yX5_isIn, .static yX5_isIn, .initialized RX5, .code yX5_isIn cX5_isIn 3 (some .boolean)])
def wsX5_hour_r1 : List Cond := [Cond.fieldLink RX5 71 "HeatGuildModel" "hours" "I", Cond.fieldLink RX5 80 "HeatGuildModel" "temperature" "I", Cond.fieldLink RX5 22 "HeatGuildModel" "shut" "[I", Cond.methodLink RX5 104 yX5_isTemperature, Cond.static yX5_isTemperature, Cond.initialized RX5, Cond.code yX5_isTemperature cX5_isTemperature 1 (some .boolean), Cond.methodLink RX5 63 yX5_isIn, Cond.static yX5_isIn, Cond.code yX5_isIn cX5_isIn 3 (some .boolean), Cond.methodLink RX5 74 yX5_holds, Cond.instanceMethod yX5_holds, Cond.selects RX5 yX5_holds yX5_holds, Cond.code yX5_holds cX5_holds 2 (some .boolean), Cond.fieldLink RX5 59 "HeatGuildModel" "thrown" "I", Cond.methodLink RX5 107 yX5_lays, Cond.instanceMethod yX5_lays, Cond.selects RX5 yX5_lays yX5_lays, Cond.code yX5_lays cX5_lays 4 (some .int), Cond.fieldLink RX5 41 "HeatGuildModel" "demands" "[I", Cond.fieldLink RX5 37 "HeatGuildModel" "hasHeat" "[Z", Cond.fieldLink RX5 16 "HeatGuildModel" "areas" "[I", Cond.fieldLink RX5 44 "HeatGuildModel" "carries" "[Z", Cond.fieldLink RX5 7 "HeatGuildModel" "from" "[I"]
def wsX5_hour_r2 : List Cond := [Cond.fieldLink RX5 13 "HeatGuildModel" "loss" "[I", Cond.methodLink RX5 83 yX5_heats, Cond.instanceMethod yX5_heats, Cond.selects RX5 yX5_heats yX5_heats, Cond.code yX5_heats cX5_heats 2 none, Cond.methodLink RX5 86 yX5_need, Cond.static yX5_need, Cond.code yX5_need cX5_need 2 (some .int), Cond.methodLink RX5 110 yX5_fires, Cond.instanceMethod yX5_fires, Cond.selects RX5 yX5_fires yX5_fires, Cond.code yX5_fires cX5_fires 6 none, Cond.fieldLink RX5 31 "HeatGuildModel" "powers" "[I", Cond.fieldLink RX5 28 "HeatGuildModel" "steps" "[I", Cond.fieldLink RX5 47 "HeatGuildModel" "fired" "[I", Cond.fieldLink RX5 94 "HeatGuildModel" "cost" "I", Cond.fieldLink RX5 34 "HeatGuildModel" "costs" "[I", Cond.methodLink RX5 90 yX5_next, Cond.instanceMethod yX5_next, Cond.selects RX5 yX5_next yX5_next, Cond.code yX5_next cX5_next 5 (some .int), Cond.fieldLink RX5 77 "HeatGuildModel" "boilers" "I", Cond.methodLink RX5 114 yX5_serves, Cond.instanceMethod yX5_serves]
def wsX5_hour_r3 : List Cond := [Cond.selects RX5 yX5_serves yX5_serves, Cond.code yX5_serves cX5_serves 5 none, Cond.fieldLink RX5 97 "HeatGuildModel" "losses" "I", Cond.fieldLink RX5 50 "HeatGuildModel" "got" "[I", Cond.methodLink RX5 100 yX5_power, Cond.instanceMethod yX5_power, Cond.selects RX5 yX5_power yX5_power, Cond.code yX5_power cX5_power 3 (some .int), Cond.methodLink RX5 117 yX5_measures, Cond.instanceMethod yX5_measures, Cond.selects RX5 yX5_measures yX5_measures, Cond.code yX5_measures cX5_measures 5 none, Cond.fieldLink RX5 53 "HeatGuildModel" "meters" "[I", Cond.fieldLink RX5 19 "HeatGuildModel" "errors" "[I", Cond.fieldLink RX5 56 "HeatGuildModel" "isSuspected" "[Z", Cond.methodLink RX5 120 yX5_bills, Cond.instanceMethod yX5_bills, Cond.selects RX5 yX5_bills yX5_bills, Cond.code yX5_bills cX5_bills 6 none, Cond.fieldLink RX5 25 "HeatGuildModel" "bills" "[I"]
def wsX5_hour : List Cond := .code yX5_hour cX5_hour 4 (some .int) :: ((wsX5_hour_r1 ++ (wsX5_hour_r2 ++ wsX5_hour_r3)) ++ wsX50)
def wsX5_hours : List Cond := .code yX5_hours cX5_hours 1 (some .int) :: ([.fieldLink RX5 59 "HeatGuildModel" "thrown" "I", .fieldLink RX5 71 "HeatGuildModel" "hours" "I"] ++ wsX50)
def wsX5_load_r1 : List Cond := [Cond.methodLink RX5 104 yX5_isTemperature, Cond.static yX5_isTemperature, Cond.initialized RX5, Cond.code yX5_isTemperature cX5_isTemperature 1 (some .boolean), Cond.methodLink RX5 63 yX5_isIn, Cond.static yX5_isIn, Cond.code yX5_isIn cX5_isIn 3 (some .boolean), Cond.methodLink RX5 74 yX5_holds, Cond.instanceMethod yX5_holds, Cond.selects RX5 yX5_holds yX5_holds, Cond.code yX5_holds cX5_holds 2 (some .boolean), Cond.fieldLink RX5 59 "HeatGuildModel" "thrown" "I", Cond.methodLink RX5 107 yX5_lays, Cond.instanceMethod yX5_lays, Cond.selects RX5 yX5_lays yX5_lays, Cond.code yX5_lays cX5_lays 4 (some .int), Cond.fieldLink RX5 41 "HeatGuildModel" "demands" "[I", Cond.fieldLink RX5 37 "HeatGuildModel" "hasHeat" "[Z", Cond.fieldLink RX5 16 "HeatGuildModel" "areas" "[I", Cond.fieldLink RX5 44 "HeatGuildModel" "carries" "[Z", Cond.fieldLink RX5 7 "HeatGuildModel" "from" "[I", Cond.fieldLink RX5 13 "HeatGuildModel" "loss" "[I", Cond.methodLink RX5 83 yX5_heats, Cond.instanceMethod yX5_heats]
def wsX5_load_r2 : List Cond := [Cond.selects RX5 yX5_heats yX5_heats, Cond.code yX5_heats cX5_heats 2 none, Cond.fieldLink RX5 22 "HeatGuildModel" "shut" "[I", Cond.methodLink RX5 86 yX5_need, Cond.static yX5_need, Cond.code yX5_need cX5_need 2 (some .int)]
def wsX5_load : List Cond := .code yX5_load cX5_load 2 (some .int) :: ((wsX5_load_r1 ++ wsX5_load_r2) ++ wsX50)
def wsX5_fired : List Cond := .code yX5_fired cX5_fired 2 (some .int) :: ([.fieldLink RX5 77 "HeatGuildModel" "boilers" "I", .fieldLink RX5 47 "HeatGuildModel" "fired" "[I", .methodLink RX5 63 yX5_isIn, .static yX5_isIn, .initialized RX5, .code yX5_isIn cX5_isIn 3 (some .boolean), .methodLink RX5 74 yX5_holds, .instanceMethod yX5_holds, .selects RX5 yX5_holds yX5_holds, .code yX5_holds cX5_holds 2 (some .boolean), .fieldLink RX5 59 "HeatGuildModel" "thrown" "I"] ++ wsX50)
def wsX5_got : List Cond := .code yX5_got cX5_got 2 (some .int) :: ([.fieldLink RX5 50 "HeatGuildModel" "got" "[I", .methodLink RX5 67 yX5_isHouse, .static yX5_isHouse, .initialized RX5, .code yX5_isHouse cX5_isHouse 1 (some .boolean), .methodLink RX5 63 yX5_isIn, .static yX5_isIn, .code yX5_isIn cX5_isIn 3 (some .boolean), .methodLink RX5 74 yX5_holds, .instanceMethod yX5_holds, .selects RX5 yX5_holds yX5_holds, .code yX5_holds cX5_holds 2 (some .boolean), .fieldLink RX5 59 "HeatGuildModel" "thrown" "I"] ++ wsX50)
def wsX5_meter : List Cond := .code yX5_meter cX5_meter 2 (some .int) :: ([.fieldLink RX5 53 "HeatGuildModel" "meters" "[I", .methodLink RX5 67 yX5_isHouse, .static yX5_isHouse, .initialized RX5, .code yX5_isHouse cX5_isHouse 1 (some .boolean), .methodLink RX5 63 yX5_isIn, .static yX5_isIn, .code yX5_isIn cX5_isIn 3 (some .boolean), .methodLink RX5 74 yX5_holds, .instanceMethod yX5_holds, .selects RX5 yX5_holds yX5_holds, .code yX5_holds cX5_holds 2 (some .boolean), .fieldLink RX5 59 "HeatGuildModel" "thrown" "I"] ++ wsX50)
def wsX5_isSuspected : List Cond := .code yX5_isSuspected cX5_isSuspected 2 (some .boolean) :: ([.fieldLink RX5 56 "HeatGuildModel" "isSuspected" "[Z", .methodLink RX5 67 yX5_isHouse, .static yX5_isHouse, .initialized RX5, .code yX5_isHouse cX5_isHouse 1 (some .boolean), .methodLink RX5 63 yX5_isIn, .static yX5_isIn, .code yX5_isIn cX5_isIn 3 (some .boolean), .methodLink RX5 74 yX5_holds, .instanceMethod yX5_holds, .selects RX5 yX5_holds yX5_holds, .code yX5_holds cX5_holds 2 (some .boolean), .fieldLink RX5 59 "HeatGuildModel" "thrown" "I"] ++ wsX50)
def wsX5_losses : List Cond := .code yX5_losses cX5_losses 1 (some .int) :: ([.fieldLink RX5 59 "HeatGuildModel" "thrown" "I", .fieldLink RX5 97 "HeatGuildModel" "losses" "I"] ++ wsX50)
def wsX5_bill : List Cond := .code yX5_bill cX5_bill 2 (some .int) :: ([.fieldLink RX5 25 "HeatGuildModel" "bills" "[I", .methodLink RX5 67 yX5_isHouse, .static yX5_isHouse, .initialized RX5, .code yX5_isHouse cX5_isHouse 1 (some .boolean), .methodLink RX5 63 yX5_isIn, .static yX5_isIn, .code yX5_isIn cX5_isIn 3 (some .boolean), .methodLink RX5 74 yX5_holds, .instanceMethod yX5_holds, .selects RX5 yX5_holds yX5_holds, .code yX5_holds cX5_holds 2 (some .boolean), .fieldLink RX5 59 "HeatGuildModel" "thrown" "I"] ++ wsX50)
def wsX5_cost : List Cond := .code yX5_cost cX5_cost 1 (some .int) :: ([.fieldLink RX5 59 "HeatGuildModel" "thrown" "I", .fieldLink RX5 94 "HeatGuildModel" "cost" "I"] ++ wsX50)
def wsX5_isOpen : List Cond := .code yX5_isOpen cX5_isOpen 2 (some .boolean) :: ([.fieldLink RX5 22 "HeatGuildModel" "shut" "[I", .methodLink RX5 67 yX5_isHouse, .static yX5_isHouse, .initialized RX5, .code yX5_isHouse cX5_isHouse 1 (some .boolean), .methodLink RX5 63 yX5_isIn, .static yX5_isIn, .code yX5_isIn cX5_isIn 3 (some .boolean), .methodLink RX5 74 yX5_holds, .instanceMethod yX5_holds, .selects RX5 yX5_holds yX5_holds, .code yX5_holds cX5_holds 2 (some .boolean), .fieldLink RX5 59 "HeatGuildModel" "thrown" "I"] ++ wsX50)
def wsJ9_max_7cf53 : List Cond := .code yJ9_max_7cf53 cJ9_max_7cf53 2 (some .int) :: ([])
def wsJ9_min_7cf53 : List Cond := .code yJ9_min_7cf53 cJ9_min_7cf53 2 (some .int) :: ([])
def wsL_feed : List Cond := .codeWith yL_feed cL_feed 6 (some .int) [(0, 12, 15, 13), (0, 12, 19, 15)] :: ([.classLink RL 13 "java/lang/IllegalArgumentException", .classLink RL 15 "java/lang/IllegalStateException", .methodLink RL 7 yX4_feed, .instanceMethod yX4_feed, .selects RX4 yX4_feed yX4_feed, .initialized RX4, .code yX4_feed cX4_feed 5 (some .int), .classLink RX4 42 "java/lang/IllegalArgumentException", .initialized "java/lang/IllegalArgumentException", .classLink RX4 53 "java/lang/IllegalStateException", .initialized "java/lang/IllegalStateException", .fieldLink RX4 49 "HeatGuild" "passedHours" "I", .fieldLink RX4 10 "HeatGuild" "net" "LHeatGuild$Net;", .methodLink RX4 34 yX4_isHouse, .static yX4_isHouse, .code yX4_isHouse cX4_isHouse 1 (some .boolean), .methodLink RX4 38 yX4_isWithin, .static yX4_isWithin, .code yX4_isWithin cX4_isWithin 3 (some .boolean)] ++ wsX40 ++ wsX20 ++ (vx_atS RX4 46 "java/lang/IllegalArgumentException" ["java/lang/RuntimeException", "java/lang/Exception"]).filter goodWord ++ (vx_atS RX4 57 "java/lang/IllegalStateException" ["java/lang/RuntimeException", "java/lang/Exception"]).filter goodWord)
def wsL_setArea : List Cond := .codeWith yL_setArea cL_setArea 5 (some .int) [(0, 10, 13, 13)] :: ([.classLink RL 13 "java/lang/IllegalArgumentException", .methodLink RL 17 yX4_setArea, .instanceMethod yX4_setArea, .selects RX4 yX4_setArea yX4_setArea, .initialized RX4, .code yX4_setArea cX4_setArea 4 (some .int), .classLink RX4 42 "java/lang/IllegalArgumentException", .initialized "java/lang/IllegalArgumentException", .fieldLink RX4 10 "HeatGuild" "net" "LHeatGuild$Net;", .methodLink RX4 34 yX4_isHouse, .static yX4_isHouse, .code yX4_isHouse cX4_isHouse 1 (some .boolean), .methodLink RX4 38 yX4_isWithin, .static yX4_isWithin, .code yX4_isWithin cX4_isWithin 3 (some .boolean)] ++ wsX40 ++ wsX20 ++ (vx_atS RX4 46 "java/lang/IllegalArgumentException" ["java/lang/RuntimeException", "java/lang/Exception"]).filter goodWord)
def wsL_addBoiler_r1 : List Cond := [Cond.classLink RL 13 "java/lang/IllegalArgumentException", Cond.classLink RL 15 "java/lang/IllegalStateException", Cond.methodLink RL 21 yX4_addBoiler, Cond.instanceMethod yX4_addBoiler, Cond.selects RX4 yX4_addBoiler yX4_addBoiler, Cond.initialized RX4, Cond.code yX4_addBoiler cX4_addBoiler 4 (some .int), Cond.classLink RX4 42 "java/lang/IllegalArgumentException", Cond.initialized "java/lang/IllegalArgumentException", Cond.classLink RX4 53 "java/lang/IllegalStateException", Cond.initialized "java/lang/IllegalStateException", Cond.fieldLink RX4 19 "HeatGuild" "plant" "LHeatGuild$Plant;", Cond.methodLink RX4 38 yX4_isWithin, Cond.static yX4_isWithin, Cond.code yX4_isWithin cX4_isWithin 3 (some .boolean), Cond.instanceMethod yX3_add, Cond.initialized RX3, Cond.selects RX3 yX3_add yX3_add, Cond.code yX3_add cX3_add 6 (some .int), Cond.classLink RX3 7 RX0, Cond.instantiable RX0 6, Cond.initialized RX0, Cond.fieldLink RX3 9 "HeatGuild$Plant" "count" "I", Cond.fieldLink RX3 22 "HeatGuild$Plant" "first" "LHeatGuild$Boiler;"]
def wsL_addBoiler_r2 : List Cond := [Cond.fieldLink RX3 29 "HeatGuild$Plant" "allPower" "I", Cond.instanceMethod yX0_init, Cond.code yX0_init cX0_init 5 none, Cond.methodLink RX0 1 objectInit, Cond.instanceMethod objectInit, Cond.code objectInit ⟨#[0xb1]⟩ 1 none, Cond.fieldLink RX0 7 "HeatGuild$Boiler" "number" "I", Cond.fieldLink RX0 13 "HeatGuild$Boiler" "steps" "I", Cond.fieldLink RX0 16 "HeatGuild$Boiler" "power" "I", Cond.fieldLink RX0 19 "HeatGuild$Boiler" "price" "I", Cond.methodLink RX3 18 yX3_lastFiredBefore, Cond.instanceMethod yX3_lastFiredBefore, Cond.selects RX3 yX3_lastFiredBefore yX3_lastFiredBefore, Cond.code yX3_lastFiredBefore cX3_lastFiredBefore 4 (some (.object "HeatGuild$Boiler"))]
def wsL_addBoiler : List Cond := .codeWith yL_addBoiler cL_addBoiler 6 (some .int) [(0, 12, 15, 13), (0, 12, 19, 15)] :: ((wsL_addBoiler_r1 ++ wsL_addBoiler_r2) ++ wsX40 ++ wsX30 ++ wsX00 ++ (vx_atS RX4 46 "java/lang/IllegalArgumentException" ["java/lang/RuntimeException", "java/lang/Exception"]).filter goodWord ++ (vx_atS RX4 57 "java/lang/IllegalStateException" ["java/lang/RuntimeException", "java/lang/Exception"]).filter goodWord)
def wsL_setError : List Cond := .codeWith yL_setError cL_setError 5 (some .int) [(0, 10, 13, 13)] :: ([.classLink RL 13 "java/lang/IllegalArgumentException", .methodLink RL 24 yX4_setError, .instanceMethod yX4_setError, .selects RX4 yX4_setError yX4_setError, .initialized RX4, .code yX4_setError cX4_setError 4 (some .int), .classLink RX4 42 "java/lang/IllegalArgumentException", .initialized "java/lang/IllegalArgumentException", .fieldLink RX4 26 "HeatGuild" "meters" "LHeatGuild$Meters;", .methodLink RX4 34 yX4_isHouse, .static yX4_isHouse, .code yX4_isHouse cX4_isHouse 1 (some .boolean), .methodLink RX4 38 yX4_isWithin, .static yX4_isWithin, .code yX4_isWithin cX4_isWithin 3 (some .boolean)] ++ wsX40 ++ wsX10 ++ (vx_atS RX4 46 "java/lang/IllegalArgumentException" ["java/lang/RuntimeException", "java/lang/Exception"]).filter goodWord)
def wsL_repair_r1 : List Cond := [Cond.classLink RL 13 "java/lang/IllegalArgumentException", Cond.classLink RL 15 "java/lang/IllegalStateException", Cond.methodLink RL 27 yX4_repair, Cond.instanceMethod yX4_repair, Cond.selects RX4 yX4_repair yX4_repair, Cond.initialized RX4, Cond.code yX4_repair cX4_repair 3 (some .int), Cond.classLink RX4 42 "java/lang/IllegalArgumentException", Cond.initialized "java/lang/IllegalArgumentException", Cond.classLink RX4 53 "java/lang/IllegalStateException", Cond.initialized "java/lang/IllegalStateException", Cond.fieldLink RX4 10 "HeatGuild" "net" "LHeatGuild$Net;", Cond.fieldLink RX4 49 "HeatGuild" "passedHours" "I", Cond.fieldLink RX4 92 "HeatGuild" "lastTemperature" "I", Cond.methodLink RX4 34 yX4_isHouse, Cond.static yX4_isHouse, Cond.code yX4_isHouse cX4_isHouse 1 (some .boolean), Cond.methodLink RX4 38 yX4_isWithin, Cond.static yX4_isWithin, Cond.code yX4_isWithin cX4_isWithin 3 (some .boolean), Cond.instanceMethod yX2_countHousesWithoutHeat, Cond.initialized RX2, Cond.selects RX2 yX2_countHousesWithoutHeat yX2_countHousesWithoutHeat, Cond.code yX2_countHousesWithoutHeat cX2_countHousesWithoutHeat 3 (some .int)]
def wsL_repair_r2 : List Cond := [Cond.fieldLink RX2 18 "HeatGuild$Net" "area" "[I", Cond.fieldLink RX2 27 "HeatGuild$Net" "heated" "[Z", Cond.methodLink RX2 37 yX2_markHeated, Cond.instanceMethod yX2_markHeated, Cond.selects RX2 yX2_markHeated yX2_markHeated, Cond.code yX2_markHeated cX2_markHeated 4 none, Cond.fieldLink RX2 9 "HeatGuild$Net" "source" "[I", Cond.fieldLink RX2 21 "HeatGuild$Net" "shutHours" "[I"]
def wsL_repair : List Cond := .codeWith yL_repair cL_repair 5 (some .int) [(0, 10, 13, 13), (0, 10, 17, 15)] :: ((wsL_repair_r1 ++ wsL_repair_r2) ++ wsX40 ++ wsX20 ++ (vx_atS RX4 46 "java/lang/IllegalArgumentException" ["java/lang/RuntimeException", "java/lang/Exception"]).filter goodWord ++ (vx_atS RX4 57 "java/lang/IllegalStateException" ["java/lang/RuntimeException", "java/lang/Exception"]).filter goodWord)
def wsL_hour_r1 : List Cond := [Cond.classLink RL 13 "java/lang/IllegalArgumentException", Cond.methodLink RL 30 yX4_hour, Cond.instanceMethod yX4_hour, Cond.selects RX4 yX4_hour yX4_hour, Cond.initialized RX4, Cond.code yX4_hour cX4_hour 3 (some .int), Cond.fieldLink RX4 10 "HeatGuild" "net" "LHeatGuild$Net;", Cond.fieldLink RX4 19 "HeatGuild" "plant" "LHeatGuild$Plant;", Cond.fieldLink RX4 26 "HeatGuild" "meters" "LHeatGuild$Meters;", Cond.fieldLink RX4 135 "HeatGuild" "lastLosses" "I", Cond.fieldLink RX4 92 "HeatGuild" "lastTemperature" "I", Cond.fieldLink RX4 49 "HeatGuild" "passedHours" "I", Cond.methodLink RX4 101 yX4_requireTemperature, Cond.static yX4_requireTemperature, Cond.code yX4_requireTemperature cX4_requireTemperature 1 none, Cond.classLink RX4 42 "java/lang/IllegalArgumentException", Cond.initialized "java/lang/IllegalArgumentException", Cond.methodLink RX4 38 yX4_isWithin, Cond.static yX4_isWithin, Cond.code yX4_isWithin cX4_isWithin 3 (some .boolean), Cond.instanceMethod yX2_survey, Cond.initialized RX2, Cond.selects RX2 yX2_survey yX2_survey, Cond.code yX2_survey cX2_survey 4 (some .int)]
def wsL_hour_r2 : List Cond := [Cond.fieldLink RX2 34 "HeatGuild$Net" "demand" "[I", Cond.fieldLink RX2 27 "HeatGuild$Net" "heated" "[Z", Cond.fieldLink RX2 18 "HeatGuild$Net" "area" "[I", Cond.fieldLink RX2 47 "HeatGuild$Net" "surveyedLosses" "I", Cond.methodLink RX2 37 yX2_markHeated, Cond.instanceMethod yX2_markHeated, Cond.selects RX2 yX2_markHeated yX2_markHeated, Cond.code yX2_markHeated cX2_markHeated 4 none, Cond.fieldLink RX2 9 "HeatGuild$Net" "source" "[I", Cond.fieldLink RX2 21 "HeatGuild$Net" "shutHours" "[I", Cond.static yX4_isHouse, Cond.code yX4_isHouse cX4_isHouse 1 (some .boolean), Cond.static yX4_wantedHeat, Cond.code yX4_wantedHeat cX4_wantedHeat 2 (some .int), Cond.methodLink RX2 44 yX2_markCarries, Cond.instanceMethod yX2_markCarries, Cond.selects RX2 yX2_markCarries yX2_markCarries, Cond.code yX2_markCarries cX2_markCarries 3 none, Cond.fieldLink RX2 31 "HeatGuild$Net" "carries" "[Z", Cond.methodLink RX2 51 yX2_carriedLoss, Cond.instanceMethod yX2_carriedLoss, Cond.selects RX2 yX2_carriedLoss yX2_carriedLoss, Cond.code yX2_carriedLoss cX2_carriedLoss 2 (some .int), Cond.fieldLink RX2 15 "HeatGuild$Net" "loss" "[I"]
def wsL_hour_r3 : List Cond := [Cond.instanceMethod yX2_serve, Cond.selects RX2 yX2_serve yX2_serve, Cond.code yX2_serve cX2_serve 4 none, Cond.methodLink RX2 59 Lib.Math.max.name, Cond.static Lib.Math.max.name, Cond.initialized "java/lang/Math", Cond.code Lib.Math.max.name Lib.Math.max.code 2 (some .int), Cond.fieldLink RX2 24 "HeatGuild$Net" "served" "[I", Cond.methodLink RX2 64 Lib.Math.min.name, Cond.static Lib.Math.min.name, Cond.code Lib.Math.min.name Lib.Math.min.code 2 (some .int), Cond.instanceMethod yX3_fire, Cond.initialized RX3, Cond.selects RX3 yX3_fire yX3_fire, Cond.code yX3_fire cX3_fire 5 none, Cond.fieldLink RX3 22 "HeatGuild$Plant" "first" "LHeatGuild$Boiler;", Cond.fieldLink RX3 42 "HeatGuild$Plant" "spent" "I", Cond.instanceMethod yX0_fireFor, Cond.initialized RX0, Cond.selects RX0 yX0_fireFor yX0_fireFor, Cond.code yX0_fireFor cX0_fireFor 2 (some .int), Cond.fieldLink RX0 22 "HeatGuild$Boiler" "firedSteps" "I", Cond.fieldLink RX0 13 "HeatGuild$Boiler" "steps" "I", Cond.fieldLink RX0 16 "HeatGuild$Boiler" "power" "I"]
def wsL_hour_r4 : List Cond := [Cond.methodLink RX0 25 Lib.Math.min.name, Cond.instanceMethod yX1_read, Cond.initialized RX1, Cond.selects RX1 yX1_read yX1_read, Cond.code yX1_read cX1_read 5 none, Cond.fieldLink RX1 22 "HeatGuild$Meters" "flow" "[I", Cond.fieldLink RX1 25 "HeatGuild$Meters" "accounted" "[I", Cond.fieldLink RX1 15 "HeatGuild$Meters" "told" "[I", Cond.fieldLink RX1 9 "HeatGuild$Meters" "error" "[I", Cond.fieldLink RX1 18 "HeatGuild$Meters" "suspected" "[Z", Cond.methodLink RX4 122 yX4_isPeak, Cond.instanceMethod yX4_isPeak, Cond.selects RX4 yX4_isPeak yX4_isPeak, Cond.code yX4_isPeak cX4_isPeak 2 (some .boolean), Cond.methodLink RX4 125 yX4_charge, Cond.instanceMethod yX4_charge, Cond.selects RX4 yX4_charge yX4_charge, Cond.code yX4_charge cX4_charge 5 none, Cond.fieldLink RX4 30 "HeatGuild" "billed" "[I", Cond.methodLink RX4 170 yX4_wantedHeat, Cond.instanceMethod yX2_endHourOfRepairs, Cond.selects RX2 yX2_endHourOfRepairs yX2_endHourOfRepairs, Cond.code yX2_endHourOfRepairs cX2_endHourOfRepairs 2 none]
def wsL_hour : List Cond := .codeWith yL_hour cL_hour 4 (some .int) [(0, 9, 12, 13)] :: ((wsL_hour_r1 ++ (wsL_hour_r2 ++ (wsL_hour_r3 ++ wsL_hour_r4))) ++ wsX40 ++ wsX30 ++ wsX20 ++ wsX00 ++ wsX10 ++ (vx_atS RX4 46 "java/lang/IllegalArgumentException" ["java/lang/RuntimeException", "java/lang/Exception"]).filter goodWord)
def wsL_load_r1 : List Cond := [Cond.classLink RL 13 "java/lang/IllegalArgumentException", Cond.methodLink RL 34 yX4_load, Cond.instanceMethod yX4_load, Cond.selects RX4 yX4_load yX4_load, Cond.initialized RX4, Cond.code yX4_load cX4_load 2 (some .int), Cond.fieldLink RX4 10 "HeatGuild" "net" "LHeatGuild$Net;", Cond.methodLink RX4 101 yX4_requireTemperature, Cond.static yX4_requireTemperature, Cond.code yX4_requireTemperature cX4_requireTemperature 1 none, Cond.classLink RX4 42 "java/lang/IllegalArgumentException", Cond.initialized "java/lang/IllegalArgumentException", Cond.methodLink RX4 38 yX4_isWithin, Cond.static yX4_isWithin, Cond.code yX4_isWithin cX4_isWithin 3 (some .boolean), Cond.instanceMethod yX2_survey, Cond.initialized RX2, Cond.selects RX2 yX2_survey yX2_survey, Cond.code yX2_survey cX2_survey 4 (some .int), Cond.fieldLink RX2 34 "HeatGuild$Net" "demand" "[I", Cond.fieldLink RX2 27 "HeatGuild$Net" "heated" "[Z", Cond.fieldLink RX2 18 "HeatGuild$Net" "area" "[I", Cond.fieldLink RX2 47 "HeatGuild$Net" "surveyedLosses" "I", Cond.methodLink RX2 37 yX2_markHeated]
def wsL_load_r2 : List Cond := [Cond.instanceMethod yX2_markHeated, Cond.selects RX2 yX2_markHeated yX2_markHeated, Cond.code yX2_markHeated cX2_markHeated 4 none, Cond.fieldLink RX2 9 "HeatGuild$Net" "source" "[I", Cond.fieldLink RX2 21 "HeatGuild$Net" "shutHours" "[I", Cond.static yX4_isHouse, Cond.code yX4_isHouse cX4_isHouse 1 (some .boolean), Cond.static yX4_wantedHeat, Cond.code yX4_wantedHeat cX4_wantedHeat 2 (some .int), Cond.methodLink RX2 44 yX2_markCarries, Cond.instanceMethod yX2_markCarries, Cond.selects RX2 yX2_markCarries yX2_markCarries, Cond.code yX2_markCarries cX2_markCarries 3 none, Cond.fieldLink RX2 31 "HeatGuild$Net" "carries" "[Z", Cond.methodLink RX2 51 yX2_carriedLoss, Cond.instanceMethod yX2_carriedLoss, Cond.selects RX2 yX2_carriedLoss yX2_carriedLoss, Cond.code yX2_carriedLoss cX2_carriedLoss 2 (some .int), Cond.fieldLink RX2 15 "HeatGuild$Net" "loss" "[I"]
def wsL_load : List Cond := .codeWith yL_load cL_load 4 (some .int) [(0, 9, 12, 13)] :: ((wsL_load_r1 ++ wsL_load_r2) ++ wsX40 ++ wsX20 ++ (vx_atS RX4 46 "java/lang/IllegalArgumentException" ["java/lang/RuntimeException", "java/lang/Exception"]).filter goodWord)
def wsL_fired : List Cond := .codeWith yL_fired cL_fired 4 (some .int) [(0, 9, 12, 40)] :: ([.classLink RL 40 "java/lang/IndexOutOfBoundsException", .methodLink RL 37 yX4_fired, .instanceMethod yX4_fired, .selects RX4 yX4_fired yX4_fired, .initialized RX4, .code yX4_fired cX4_fired 3 (some .int), .classLink RX4 142 "java/lang/IndexOutOfBoundsException", .initialized "java/lang/IndexOutOfBoundsException", .fieldLink RX4 19 "HeatGuild" "plant" "LHeatGuild$Plant;", .instanceMethod yX3_find, .initialized RX3, .selects RX3 yX3_find yX3_find, .code yX3_find cX3_find 3 (some (.object "HeatGuild$Boiler")), .fieldLink RX3 22 "HeatGuild$Plant" "first" "LHeatGuild$Boiler;"] ++ wsX40 ++ wsX00 ++ wsX30 ++ (vx_atS RX4 146 "java/lang/IndexOutOfBoundsException" ["java/lang/RuntimeException", "java/lang/Exception"]).filter goodWord)
def wsL_got : List Cond := .codeWith yL_got cL_got 4 (some .int) [(0, 9, 12, 13)] :: ([.classLink RL 13 "java/lang/IllegalArgumentException", .methodLink RL 42 yX4_got, .instanceMethod yX4_got, .selects RX4 yX4_got yX4_got, .initialized RX4, .code yX4_got cX4_got 2 (some .int), .classLink RX4 42 "java/lang/IllegalArgumentException", .initialized "java/lang/IllegalArgumentException", .fieldLink RX4 10 "HeatGuild" "net" "LHeatGuild$Net;", .methodLink RX4 34 yX4_isHouse, .static yX4_isHouse, .code yX4_isHouse cX4_isHouse 1 (some .boolean)] ++ wsX40 ++ wsX20 ++ (vx_atS RX4 46 "java/lang/IllegalArgumentException" ["java/lang/RuntimeException", "java/lang/Exception"]).filter goodWord)
def wsL_meter : List Cond := .codeWith yL_meter cL_meter 4 (some .int) [(0, 9, 12, 13)] :: ([.classLink RL 13 "java/lang/IllegalArgumentException", .methodLink RL 45 yX4_meter, .instanceMethod yX4_meter, .selects RX4 yX4_meter yX4_meter, .initialized RX4, .code yX4_meter cX4_meter 2 (some .int), .classLink RX4 42 "java/lang/IllegalArgumentException", .initialized "java/lang/IllegalArgumentException", .fieldLink RX4 26 "HeatGuild" "meters" "LHeatGuild$Meters;", .methodLink RX4 34 yX4_isHouse, .static yX4_isHouse, .code yX4_isHouse cX4_isHouse 1 (some .boolean)] ++ wsX40 ++ wsX10 ++ (vx_atS RX4 46 "java/lang/IllegalArgumentException" ["java/lang/RuntimeException", "java/lang/Exception"]).filter goodWord)
def wsL_isSuspected : List Cond := .codeWith yL_isSuspected cL_isSuspected 4 (some .int) [(0, 16, 19, 13)] :: ([.classLink RL 13 "java/lang/IllegalArgumentException", .methodLink RL 48 yX4_isSuspected, .instanceMethod yX4_isSuspected, .selects RX4 yX4_isSuspected yX4_isSuspected, .initialized RX4, .code yX4_isSuspected cX4_isSuspected 2 (some .boolean), .classLink RX4 42 "java/lang/IllegalArgumentException", .initialized "java/lang/IllegalArgumentException", .fieldLink RX4 26 "HeatGuild" "meters" "LHeatGuild$Meters;", .methodLink RX4 34 yX4_isHouse, .static yX4_isHouse, .code yX4_isHouse cX4_isHouse 1 (some .boolean)] ++ wsX40 ++ wsX10 ++ (vx_atS RX4 46 "java/lang/IllegalArgumentException" ["java/lang/RuntimeException", "java/lang/Exception"]).filter goodWord)
def wsL_bill : List Cond := .codeWith yL_bill cL_bill 4 (some .int) [(0, 9, 12, 13)] :: ([.classLink RL 13 "java/lang/IllegalArgumentException", .methodLink RL 52 yX4_bill, .instanceMethod yX4_bill, .selects RX4 yX4_bill yX4_bill, .initialized RX4, .code yX4_bill cX4_bill 2 (some .int), .classLink RX4 42 "java/lang/IllegalArgumentException", .initialized "java/lang/IllegalArgumentException", .fieldLink RX4 30 "HeatGuild" "billed" "[I", .methodLink RX4 34 yX4_isHouse, .static yX4_isHouse, .code yX4_isHouse cX4_isHouse 1 (some .boolean)] ++ wsX40 ++ (vx_atS RX4 46 "java/lang/IllegalArgumentException" ["java/lang/RuntimeException", "java/lang/Exception"]).filter goodWord)
def wsL_isOpen : List Cond := .codeWith yL_isOpen cL_isOpen 4 (some .int) [(0, 16, 19, 13)] :: ([.classLink RL 13 "java/lang/IllegalArgumentException", .methodLink RL 55 yX4_isOpen, .instanceMethod yX4_isOpen, .selects RX4 yX4_isOpen yX4_isOpen, .initialized RX4, .code yX4_isOpen cX4_isOpen 2 (some .boolean), .classLink RX4 42 "java/lang/IllegalArgumentException", .initialized "java/lang/IllegalArgumentException", .fieldLink RX4 10 "HeatGuild" "net" "LHeatGuild$Net;", .methodLink RX4 34 yX4_isHouse, .static yX4_isHouse, .code yX4_isHouse cX4_isHouse 1 (some .boolean)] ++ wsX40 ++ wsX20 ++ (vx_atS RX4 46 "java/lang/IllegalArgumentException" ["java/lang/RuntimeException", "java/lang/Exception"]).filter goodWord)
def wsL_law0_r1 : List Cond := [Cond.classLink RL 8 RX4, Cond.instantiable RX4 7, Cond.initialized RX4, Cond.classLink RL 59 RX5, Cond.instantiable RX5 22, Cond.initialized RX5, Cond.arrayClass .long, Cond.methodLink RL 58 yX4_init, Cond.instanceMethod yX4_init, Cond.code yX4_init cX4_init 1 none, Cond.methodLink RX4 1 objectInit, Cond.instanceMethod objectInit, Cond.code objectInit ⟨#[0xb1]⟩ 1 none, Cond.classLink RX4 7 RX2, Cond.instantiable RX2 9, Cond.initialized RX2, Cond.fieldLink RX4 10 "HeatGuild" "net" "LHeatGuild$Net;", Cond.classLink RX4 16 RX3, Cond.instantiable RX3 4, Cond.initialized RX3, Cond.fieldLink RX4 19 "HeatGuild" "plant" "LHeatGuild$Plant;", Cond.classLink RX4 23 RX1, Cond.instantiable RX1 5, Cond.initialized RX1]
def wsL_law0_r2 : List Cond := [Cond.fieldLink RX4 26 "HeatGuild" "meters" "LHeatGuild$Meters;", Cond.arrayClass .int, Cond.fieldLink RX4 30 "HeatGuild" "billed" "[I", Cond.instanceMethod yX2_init, Cond.code yX2_init cX2_init 2 none, Cond.methodLink RX2 3 objectInit, Cond.fieldLink RX2 9 "HeatGuild$Net" "source" "[I", Cond.fieldLink RX2 15 "HeatGuild$Net" "loss" "[I", Cond.fieldLink RX2 18 "HeatGuild$Net" "area" "[I", Cond.fieldLink RX2 21 "HeatGuild$Net" "shutHours" "[I", Cond.fieldLink RX2 24 "HeatGuild$Net" "served" "[I", Cond.arrayClass .boolean, Cond.fieldLink RX2 27 "HeatGuild$Net" "heated" "[Z", Cond.fieldLink RX2 31 "HeatGuild$Net" "carries" "[Z", Cond.fieldLink RX2 34 "HeatGuild$Net" "demand" "[I", Cond.instanceMethod yX3_init, Cond.code yX3_init cX3_init 1 none, Cond.methodLink RX3 1 objectInit, Cond.instanceMethod yX1_init, Cond.code yX1_init cX1_init 1 none, Cond.methodLink RX1 3 objectInit, Cond.fieldLink RX1 9 "HeatGuild$Meters" "error" "[I", Cond.fieldLink RX1 15 "HeatGuild$Meters" "told" "[I", Cond.fieldLink RX1 18 "HeatGuild$Meters" "suspected" "[Z"]
def wsL_law0_r3 : List Cond := [Cond.fieldLink RX1 22 "HeatGuild$Meters" "flow" "[I", Cond.fieldLink RX1 25 "HeatGuild$Meters" "accounted" "[I", Cond.methodLink RL 61 yX5_init, Cond.instanceMethod yX5_init, Cond.code yX5_init cX5_init 2 none, Cond.methodLink RX5 1 objectInit, Cond.fieldLink RX5 7 "HeatGuildModel" "from" "[I", Cond.fieldLink RX5 13 "HeatGuildModel" "loss" "[I", Cond.fieldLink RX5 16 "HeatGuildModel" "areas" "[I", Cond.fieldLink RX5 19 "HeatGuildModel" "errors" "[I", Cond.fieldLink RX5 22 "HeatGuildModel" "shut" "[I", Cond.fieldLink RX5 25 "HeatGuildModel" "bills" "[I", Cond.fieldLink RX5 28 "HeatGuildModel" "steps" "[I", Cond.fieldLink RX5 31 "HeatGuildModel" "powers" "[I", Cond.fieldLink RX5 34 "HeatGuildModel" "costs" "[I", Cond.fieldLink RX5 37 "HeatGuildModel" "hasHeat" "[Z", Cond.fieldLink RX5 41 "HeatGuildModel" "demands" "[I", Cond.fieldLink RX5 44 "HeatGuildModel" "carries" "[Z", Cond.fieldLink RX5 47 "HeatGuildModel" "fired" "[I", Cond.fieldLink RX5 50 "HeatGuildModel" "got" "[I", Cond.fieldLink RX5 53 "HeatGuildModel" "meters" "[I", Cond.fieldLink RX5 56 "HeatGuildModel" "isSuspected" "[Z", Cond.methodLink RL 62 yL_feed, Cond.static yL_feed]
def wsL_law0_r4 : List Cond := [Cond.initialized RL, Cond.codeWith yL_feed cL_feed 6 (some .int) [(0, 12, 15, 13), (0, 12, 19, 15)], Cond.classLink RL 13 "java/lang/IllegalArgumentException", Cond.classLink RL 15 "java/lang/IllegalStateException", Cond.methodLink RL 7 yX4_feed, Cond.instanceMethod yX4_feed, Cond.selects RX4 yX4_feed yX4_feed, Cond.code yX4_feed cX4_feed 5 (some .int), Cond.classLink RX4 42 "java/lang/IllegalArgumentException", Cond.initialized "java/lang/IllegalArgumentException", Cond.classLink RX4 53 "java/lang/IllegalStateException", Cond.initialized "java/lang/IllegalStateException", Cond.fieldLink RX4 49 "HeatGuild" "passedHours" "I", Cond.methodLink RX4 34 yX4_isHouse, Cond.static yX4_isHouse, Cond.code yX4_isHouse cX4_isHouse 1 (some .boolean), Cond.methodLink RX4 38 yX4_isWithin, Cond.static yX4_isWithin, Cond.code yX4_isWithin cX4_isWithin 3 (some .boolean), Cond.methodLink RL 67 yX5_feed, Cond.instanceMethod yX5_feed, Cond.selects RX5 yX5_feed yX5_feed, Cond.code yX5_feed cX5_feed 6 (some .int), Cond.fieldLink RX5 71 "HeatGuildModel" "hours" "I"]
def wsL_law0_r5 : List Cond := [Cond.methodLink RX5 67 yX5_isHouse, Cond.static yX5_isHouse, Cond.code yX5_isHouse cX5_isHouse 1 (some .boolean), Cond.methodLink RX5 63 yX5_isIn, Cond.static yX5_isIn, Cond.code yX5_isIn cX5_isIn 3 (some .boolean), Cond.methodLink RX5 74 yX5_holds, Cond.instanceMethod yX5_holds, Cond.selects RX5 yX5_holds yX5_holds, Cond.code yX5_holds cX5_holds 2 (some .boolean), Cond.fieldLink RX5 59 "HeatGuildModel" "thrown" "I", Cond.methodLink RL 68 yX5_thrown, Cond.instanceMethod yX5_thrown, Cond.selects RX5 yX5_thrown yX5_thrown, Cond.code yX5_thrown cX5_thrown 1 (some .int), Cond.methodLink RL 72 yL_setArea, Cond.static yL_setArea, Cond.codeWith yL_setArea cL_setArea 5 (some .int) [(0, 10, 13, 13)], Cond.methodLink RL 17 yX4_setArea, Cond.instanceMethod yX4_setArea, Cond.selects RX4 yX4_setArea yX4_setArea, Cond.code yX4_setArea cX4_setArea 4 (some .int), Cond.methodLink RL 75 yX5_setArea, Cond.instanceMethod yX5_setArea]
def wsL_law0_r6 : List Cond := [Cond.selects RX5 yX5_setArea yX5_setArea, Cond.code yX5_setArea cX5_setArea 4 (some .int), Cond.methodLink RL 76 yL_addBoiler, Cond.static yL_addBoiler, Cond.codeWith yL_addBoiler cL_addBoiler 6 (some .int) [(0, 12, 15, 13), (0, 12, 19, 15)], Cond.methodLink RL 21 yX4_addBoiler, Cond.instanceMethod yX4_addBoiler, Cond.selects RX4 yX4_addBoiler yX4_addBoiler, Cond.code yX4_addBoiler cX4_addBoiler 4 (some .int), Cond.instanceMethod yX3_add, Cond.selects RX3 yX3_add yX3_add, Cond.code yX3_add cX3_add 6 (some .int), Cond.classLink RX3 7 RX0, Cond.instantiable RX0 6, Cond.initialized RX0, Cond.fieldLink RX3 9 "HeatGuild$Plant" "count" "I", Cond.fieldLink RX3 22 "HeatGuild$Plant" "first" "LHeatGuild$Boiler;", Cond.fieldLink RX3 29 "HeatGuild$Plant" "allPower" "I", Cond.instanceMethod yX0_init, Cond.code yX0_init cX0_init 5 none, Cond.methodLink RX0 1 objectInit, Cond.fieldLink RX0 7 "HeatGuild$Boiler" "number" "I", Cond.fieldLink RX0 13 "HeatGuild$Boiler" "steps" "I", Cond.fieldLink RX0 16 "HeatGuild$Boiler" "power" "I"]
def wsL_law0_r7 : List Cond := [Cond.fieldLink RX0 19 "HeatGuild$Boiler" "price" "I", Cond.methodLink RX3 18 yX3_lastFiredBefore, Cond.instanceMethod yX3_lastFiredBefore, Cond.selects RX3 yX3_lastFiredBefore yX3_lastFiredBefore, Cond.code yX3_lastFiredBefore cX3_lastFiredBefore 4 (some (.object "HeatGuild$Boiler")), Cond.methodLink RL 78 yX5_addBoiler, Cond.instanceMethod yX5_addBoiler, Cond.selects RX5 yX5_addBoiler yX5_addBoiler, Cond.code yX5_addBoiler cX5_addBoiler 5 (some .int), Cond.fieldLink RX5 77 "HeatGuildModel" "boilers" "I", Cond.methodLink RL 79 yL_setError, Cond.static yL_setError, Cond.codeWith yL_setError cL_setError 5 (some .int) [(0, 10, 13, 13)], Cond.methodLink RL 24 yX4_setError, Cond.instanceMethod yX4_setError, Cond.selects RX4 yX4_setError yX4_setError, Cond.code yX4_setError cX4_setError 4 (some .int), Cond.methodLink RL 81 yX5_setError, Cond.instanceMethod yX5_setError, Cond.selects RX5 yX5_setError yX5_setError, Cond.code yX5_setError cX5_setError 4 (some .int), Cond.methodLink RL 82 yL_repair, Cond.static yL_repair, Cond.codeWith yL_repair cL_repair 5 (some .int) [(0, 10, 13, 13), (0, 10, 17, 15)]]
def wsL_law0_r8 : List Cond := [Cond.methodLink RL 27 yX4_repair, Cond.instanceMethod yX4_repair, Cond.selects RX4 yX4_repair yX4_repair, Cond.code yX4_repair cX4_repair 3 (some .int), Cond.fieldLink RX4 92 "HeatGuild" "lastTemperature" "I", Cond.instanceMethod yX2_countHousesWithoutHeat, Cond.selects RX2 yX2_countHousesWithoutHeat yX2_countHousesWithoutHeat, Cond.code yX2_countHousesWithoutHeat cX2_countHousesWithoutHeat 3 (some .int), Cond.methodLink RX2 37 yX2_markHeated, Cond.instanceMethod yX2_markHeated, Cond.selects RX2 yX2_markHeated yX2_markHeated, Cond.code yX2_markHeated cX2_markHeated 4 none, Cond.methodLink RL 84 yX5_repair, Cond.instanceMethod yX5_repair, Cond.selects RX5 yX5_repair yX5_repair, Cond.code yX5_repair cX5_repair 7 (some .int), Cond.fieldLink RX5 80 "HeatGuildModel" "temperature" "I", Cond.methodLink RX5 83 yX5_heats, Cond.instanceMethod yX5_heats, Cond.selects RX5 yX5_heats yX5_heats, Cond.code yX5_heats cX5_heats 2 none, Cond.methodLink RL 85 yL_hour, Cond.static yL_hour, Cond.codeWith yL_hour cL_hour 4 (some .int) [(0, 9, 12, 13)]]
def wsL_law0_r9 : List Cond := [Cond.methodLink RL 30 yX4_hour, Cond.instanceMethod yX4_hour, Cond.selects RX4 yX4_hour yX4_hour, Cond.code yX4_hour cX4_hour 3 (some .int), Cond.fieldLink RX4 135 "HeatGuild" "lastLosses" "I", Cond.methodLink RX4 101 yX4_requireTemperature, Cond.static yX4_requireTemperature, Cond.code yX4_requireTemperature cX4_requireTemperature 1 none, Cond.instanceMethod yX2_survey, Cond.selects RX2 yX2_survey yX2_survey, Cond.code yX2_survey cX2_survey 4 (some .int), Cond.fieldLink RX2 47 "HeatGuild$Net" "surveyedLosses" "I", Cond.static yX4_wantedHeat, Cond.code yX4_wantedHeat cX4_wantedHeat 2 (some .int), Cond.methodLink RX2 44 yX2_markCarries, Cond.instanceMethod yX2_markCarries, Cond.selects RX2 yX2_markCarries yX2_markCarries, Cond.code yX2_markCarries cX2_markCarries 3 none, Cond.methodLink RX2 51 yX2_carriedLoss, Cond.instanceMethod yX2_carriedLoss, Cond.selects RX2 yX2_carriedLoss yX2_carriedLoss, Cond.code yX2_carriedLoss cX2_carriedLoss 2 (some .int), Cond.instanceMethod yX2_serve, Cond.selects RX2 yX2_serve yX2_serve]
def wsL_law0_r10 : List Cond := [Cond.code yX2_serve cX2_serve 4 none, Cond.methodLink RX2 59 Lib.Math.max.name, Cond.static Lib.Math.max.name, Cond.initialized "java/lang/Math", Cond.code Lib.Math.max.name Lib.Math.max.code 2 (some .int), Cond.methodLink RX2 64 Lib.Math.min.name, Cond.static Lib.Math.min.name, Cond.code Lib.Math.min.name Lib.Math.min.code 2 (some .int), Cond.instanceMethod yX3_fire, Cond.selects RX3 yX3_fire yX3_fire, Cond.code yX3_fire cX3_fire 5 none, Cond.fieldLink RX3 42 "HeatGuild$Plant" "spent" "I", Cond.instanceMethod yX0_fireFor, Cond.selects RX0 yX0_fireFor yX0_fireFor, Cond.code yX0_fireFor cX0_fireFor 2 (some .int), Cond.fieldLink RX0 22 "HeatGuild$Boiler" "firedSteps" "I", Cond.methodLink RX0 25 Lib.Math.min.name, Cond.instanceMethod yX1_read, Cond.selects RX1 yX1_read yX1_read, Cond.code yX1_read cX1_read 5 none, Cond.methodLink RX4 122 yX4_isPeak, Cond.instanceMethod yX4_isPeak, Cond.selects RX4 yX4_isPeak yX4_isPeak, Cond.code yX4_isPeak cX4_isPeak 2 (some .boolean)]
def wsL_law0_r11 : List Cond := [Cond.methodLink RX4 125 yX4_charge, Cond.instanceMethod yX4_charge, Cond.selects RX4 yX4_charge yX4_charge, Cond.code yX4_charge cX4_charge 5 none, Cond.methodLink RX4 170 yX4_wantedHeat, Cond.instanceMethod yX2_endHourOfRepairs, Cond.selects RX2 yX2_endHourOfRepairs yX2_endHourOfRepairs, Cond.code yX2_endHourOfRepairs cX2_endHourOfRepairs 2 none, Cond.methodLink RL 88 yX5_hour, Cond.instanceMethod yX5_hour, Cond.selects RX5 yX5_hour yX5_hour, Cond.code yX5_hour cX5_hour 4 (some .int), Cond.methodLink RX5 104 yX5_isTemperature, Cond.static yX5_isTemperature, Cond.code yX5_isTemperature cX5_isTemperature 1 (some .boolean), Cond.methodLink RX5 107 yX5_lays, Cond.instanceMethod yX5_lays, Cond.selects RX5 yX5_lays yX5_lays, Cond.code yX5_lays cX5_lays 4 (some .int), Cond.methodLink RX5 86 yX5_need, Cond.static yX5_need, Cond.code yX5_need cX5_need 2 (some .int), Cond.methodLink RX5 110 yX5_fires, Cond.instanceMethod yX5_fires]
def wsL_law0_r12 : List Cond := [Cond.selects RX5 yX5_fires yX5_fires, Cond.code yX5_fires cX5_fires 6 none, Cond.fieldLink RX5 94 "HeatGuildModel" "cost" "I", Cond.methodLink RX5 90 yX5_next, Cond.instanceMethod yX5_next, Cond.selects RX5 yX5_next yX5_next, Cond.code yX5_next cX5_next 5 (some .int), Cond.methodLink RX5 114 yX5_serves, Cond.instanceMethod yX5_serves, Cond.selects RX5 yX5_serves yX5_serves, Cond.code yX5_serves cX5_serves 5 none, Cond.fieldLink RX5 97 "HeatGuildModel" "losses" "I", Cond.methodLink RX5 100 yX5_power, Cond.instanceMethod yX5_power, Cond.selects RX5 yX5_power yX5_power, Cond.code yX5_power cX5_power 3 (some .int), Cond.methodLink RX5 117 yX5_measures, Cond.instanceMethod yX5_measures, Cond.selects RX5 yX5_measures yX5_measures, Cond.code yX5_measures cX5_measures 5 none, Cond.methodLink RX5 120 yX5_bills, Cond.instanceMethod yX5_bills, Cond.selects RX5 yX5_bills yX5_bills, Cond.code yX5_bills cX5_bills 6 none]
def wsL_law0_r13 : List Cond := [Cond.methodLink RL 89 yX4_hours, Cond.instanceMethod yX4_hours, Cond.selects RX4 yX4_hours yX4_hours, Cond.code yX4_hours cX4_hours 1 (some .int), Cond.methodLink RL 92 yX5_hours, Cond.instanceMethod yX5_hours, Cond.selects RX5 yX5_hours yX5_hours, Cond.code yX5_hours cX5_hours 1 (some .int), Cond.methodLink RL 93 yL_load, Cond.static yL_load, Cond.codeWith yL_load cL_load 4 (some .int) [(0, 9, 12, 13)], Cond.methodLink RL 34 yX4_load, Cond.instanceMethod yX4_load, Cond.selects RX4 yX4_load yX4_load, Cond.code yX4_load cX4_load 2 (some .int), Cond.methodLink RL 95 yX5_load, Cond.instanceMethod yX5_load, Cond.selects RX5 yX5_load yX5_load, Cond.code yX5_load cX5_load 2 (some .int), Cond.methodLink RL 96 yL_fired, Cond.static yL_fired, Cond.codeWith yL_fired cL_fired 4 (some .int) [(0, 9, 12, 40)], Cond.classLink RL 40 "java/lang/IndexOutOfBoundsException", Cond.methodLink RL 37 yX4_fired]
def wsL_law0_r14 : List Cond := [Cond.instanceMethod yX4_fired, Cond.selects RX4 yX4_fired yX4_fired, Cond.code yX4_fired cX4_fired 3 (some .int), Cond.classLink RX4 142 "java/lang/IndexOutOfBoundsException", Cond.initialized "java/lang/IndexOutOfBoundsException", Cond.instanceMethod yX3_find, Cond.selects RX3 yX3_find yX3_find, Cond.code yX3_find cX3_find 3 (some (.object "HeatGuild$Boiler")), Cond.methodLink RL 98 yX5_fired, Cond.instanceMethod yX5_fired, Cond.selects RX5 yX5_fired yX5_fired, Cond.code yX5_fired cX5_fired 2 (some .int), Cond.methodLink RL 99 yL_got, Cond.static yL_got, Cond.codeWith yL_got cL_got 4 (some .int) [(0, 9, 12, 13)], Cond.methodLink RL 42 yX4_got, Cond.instanceMethod yX4_got, Cond.selects RX4 yX4_got yX4_got, Cond.code yX4_got cX4_got 2 (some .int), Cond.methodLink RL 101 yX5_got, Cond.instanceMethod yX5_got, Cond.selects RX5 yX5_got yX5_got, Cond.code yX5_got cX5_got 2 (some .int), Cond.methodLink RL 102 yL_meter]
def wsL_law0_r15 : List Cond := [Cond.static yL_meter, Cond.codeWith yL_meter cL_meter 4 (some .int) [(0, 9, 12, 13)], Cond.methodLink RL 45 yX4_meter, Cond.instanceMethod yX4_meter, Cond.selects RX4 yX4_meter yX4_meter, Cond.code yX4_meter cX4_meter 2 (some .int), Cond.methodLink RL 104 yX5_meter, Cond.instanceMethod yX5_meter, Cond.selects RX5 yX5_meter yX5_meter, Cond.code yX5_meter cX5_meter 2 (some .int), Cond.methodLink RL 105 yL_isSuspected, Cond.static yL_isSuspected, Cond.codeWith yL_isSuspected cL_isSuspected 4 (some .int) [(0, 16, 19, 13)], Cond.methodLink RL 48 yX4_isSuspected, Cond.instanceMethod yX4_isSuspected, Cond.selects RX4 yX4_isSuspected yX4_isSuspected, Cond.code yX4_isSuspected cX4_isSuspected 2 (some .boolean), Cond.methodLink RL 107 yX5_isSuspected, Cond.instanceMethod yX5_isSuspected, Cond.selects RX5 yX5_isSuspected yX5_isSuspected, Cond.code yX5_isSuspected cX5_isSuspected 2 (some .boolean), Cond.methodLink RL 108 yX4_losses, Cond.instanceMethod yX4_losses, Cond.selects RX4 yX4_losses yX4_losses]
def wsL_law0_r16 : List Cond := [Cond.code yX4_losses cX4_losses 1 (some .int), Cond.methodLink RL 111 yX5_losses, Cond.instanceMethod yX5_losses, Cond.selects RX5 yX5_losses yX5_losses, Cond.code yX5_losses cX5_losses 1 (some .int), Cond.methodLink RL 112 yL_bill, Cond.static yL_bill, Cond.codeWith yL_bill cL_bill 4 (some .int) [(0, 9, 12, 13)], Cond.methodLink RL 52 yX4_bill, Cond.instanceMethod yX4_bill, Cond.selects RX4 yX4_bill yX4_bill, Cond.code yX4_bill cX4_bill 2 (some .int), Cond.methodLink RL 114 yX5_bill, Cond.instanceMethod yX5_bill, Cond.selects RX5 yX5_bill yX5_bill, Cond.code yX5_bill cX5_bill 2 (some .int), Cond.methodLink RL 115 yX4_cost, Cond.instanceMethod yX4_cost, Cond.selects RX4 yX4_cost yX4_cost, Cond.code yX4_cost cX4_cost 1 (some .int), Cond.methodLink RL 118 yX5_cost, Cond.instanceMethod yX5_cost, Cond.selects RX5 yX5_cost yX5_cost, Cond.code yX5_cost cX5_cost 1 (some .int)]
def wsL_law0_r17 : List Cond := [Cond.methodLink RL 119 yL_isOpen, Cond.static yL_isOpen, Cond.codeWith yL_isOpen cL_isOpen 4 (some .int) [(0, 16, 19, 13)], Cond.methodLink RL 55 yX4_isOpen, Cond.instanceMethod yX4_isOpen, Cond.selects RX4 yX4_isOpen yX4_isOpen, Cond.code yX4_isOpen cX4_isOpen 2 (some .boolean), Cond.methodLink RL 121 yX5_isOpen, Cond.instanceMethod yX5_isOpen, Cond.selects RX5 yX5_isOpen yX5_isOpen, Cond.code yX5_isOpen cX5_isOpen 2 (some .boolean)]
def wsL_law0 : List Cond := (wsL_law0_r1 ++ (wsL_law0_r2 ++ (wsL_law0_r3 ++ (wsL_law0_r4 ++ (wsL_law0_r5 ++ (wsL_law0_r6 ++ (wsL_law0_r7 ++ (wsL_law0_r8 ++ (wsL_law0_r9 ++ (wsL_law0_r10 ++ (wsL_law0_r11 ++ (wsL_law0_r12 ++ (wsL_law0_r13 ++ (wsL_law0_r14 ++ (wsL_law0_r15 ++ (wsL_law0_r16 ++ wsL_law0_r17)))))))))))))))) ++ wsX40 ++ wsX50 ++ wsX20 ++ wsX30 ++ wsX10 ++ wsX00 ++ ([] : List Cond)
def wsL_law : List Cond := wsL_law0 ++ (vx_atS RX4 46 "java/lang/IllegalArgumentException" ["java/lang/RuntimeException", "java/lang/Exception"]).filter goodWord ++ (vx_atS RX4 57 "java/lang/IllegalStateException" ["java/lang/RuntimeException", "java/lang/Exception"]).filter goodWord ++ (vx_atS RX4 146 "java/lang/IndexOutOfBoundsException" ["java/lang/RuntimeException", "java/lang/Exception"]).filter goodWord
set_option maxRecDepth 20000 in
theorem wsL_law0_r1_in : ∀ w ∈ wsL_law0_r1, w ∈ lw_tbl := fun w h => (goodIn_p wsL_law0_r1 [43, 46] (by decide +kernel) (by decide +kernel) w h).1
set_option maxRecDepth 20000 in
theorem wsL_law0_r2_in : ∀ w ∈ wsL_law0_r2, w ∈ lw_tbl := fun w h => (goodIn_p wsL_law0_r2 [51, 97, 119] (by decide +kernel) (by decide +kernel) w h).1
set_option maxRecDepth 20000 in
theorem wsL_law0_r3_in : ∀ w ∈ wsL_law0_r3, w ∈ lw_tbl := fun w h => (goodIn_p wsL_law0_r3 [492] (by decide +kernel) (by decide +kernel) w h).1
set_option maxRecDepth 20000 in
theorem wsL_law0_r4_in : ∀ w ∈ wsL_law0_r4, w ∈ lw_tbl := fun w h => (goodIn_p wsL_law0_r4 [182, 185, 188, 568] (by decide +kernel) (by decide +kernel) w h).1
set_option maxRecDepth 20000 in
theorem wsL_law0_r5_in : ∀ w ∈ wsL_law0_r5, w ∈ lw_tbl := fun w h => (goodIn_p wsL_law0_r5 [571, 574, 578, 564, 279] (by decide +kernel) (by decide +kernel) w h).1
set_option maxRecDepth 20000 in
theorem wsL_law0_r6_in : ∀ w ∈ wsL_law0_r6, w ∈ lw_tbl := fun w h => (goodIn_p wsL_law0_r6 [582, 287, 293, 298] (by decide +kernel) (by decide +kernel) w h).1
set_option maxRecDepth 20000 in
theorem wsL_law0_r7_in : ∀ w ∈ wsL_law0_r7, w ∈ lw_tbl := fun w h => (goodIn_p wsL_law0_r7 [325, 586, 332, 590] (by decide +kernel) (by decide +kernel) w h).1
set_option maxRecDepth 20000 in
theorem wsL_law0_r8_in : ∀ w ∈ wsL_law0_r8, w ∈ lw_tbl := fun w h => (goodIn_p wsL_law0_r8 [340, 347, 351, 594, 598] (by decide +kernel) (by decide +kernel) w h).1
set_option maxRecDepth 20000 in
theorem wsL_law0_r9_in : ∀ w ∈ wsL_law0_r9, w ∈ lw_tbl := fun w h => (goodIn_p wsL_law0_r9 [359, 362, 367, 370, 374, 378] (by decide +kernel) (by decide +kernel) w h).1
set_option maxRecDepth 20000 in
theorem wsL_law0_r10_in : ∀ w ∈ wsL_law0_r10, w ∈ lw_tbl := fun w h => (goodIn_p wsL_law0_r10 [382, 385, 388, 392, 396, 401, 407] (by decide +kernel) (by decide +kernel) w h).1
set_option maxRecDepth 20000 in
theorem wsL_law0_r11_in : ∀ w ∈ wsL_law0_r11, w ∈ lw_tbl := fun w h => (goodIn_p wsL_law0_r11 [411, 416, 602, 605, 609, 612] (by decide +kernel) (by decide +kernel) w h).1
set_option maxRecDepth 20000 in
theorem wsL_law0_r12_in : ∀ w ∈ wsL_law0_r12, w ∈ lw_tbl := fun w h => (goodIn_p wsL_law0_r12 [616, 620, 624, 628, 632, 636] (by decide +kernel) (by decide +kernel) w h).1
set_option maxRecDepth 20000 in
theorem wsL_law0_r13_in : ∀ w ∈ wsL_law0_r13, w ∈ lw_tbl := fun w h => (goodIn_p wsL_law0_r13 [165, 640, 423, 644] (by decide +kernel) (by decide +kernel) w h).1
set_option maxRecDepth 20000 in
theorem wsL_law0_r14_in : ∀ w ∈ wsL_law0_r14, w ∈ lw_tbl := fun w h => (goodIn_p wsL_law0_r14 [431, 435, 648, 458, 652] (by decide +kernel) (by decide +kernel) w h).1
set_option maxRecDepth 20000 in
theorem wsL_law0_r15_in : ∀ w ∈ wsL_law0_r15, w ∈ lw_tbl := fun w h => (goodIn_p wsL_law0_r15 [466, 656, 473, 660] (by decide +kernel) (by decide +kernel) w h).1
set_option maxRecDepth 20000 in
theorem wsL_law0_r16_in : ∀ w ∈ wsL_law0_r16, w ∈ lw_tbl := fun w h => (goodIn_p wsL_law0_r16 [169, 664, 480, 668, 173, 672] (by decide +kernel) (by decide +kernel) w h).1
set_option maxRecDepth 20000 in
theorem wsL_law0_r17_in : ∀ w ∈ wsL_law0_r17, w ∈ lw_tbl := fun w h => (goodIn_p wsL_law0_r17 [487, 676] (by decide +kernel) (by decide +kernel) w h).1
theorem wsX40_in0 : ∀ w ∈ wsX40, w ∈ lw_tbl := by decide +kernel
theorem wsX50_in0 : ∀ w ∈ wsX50, w ∈ lw_tbl := by decide +kernel
theorem wsX20_in0 : ∀ w ∈ wsX20, w ∈ lw_tbl := by decide +kernel
theorem wsX30_in0 : ∀ w ∈ wsX30, w ∈ lw_tbl := by decide +kernel
theorem wsX10_in0 : ∀ w ∈ wsX10, w ∈ lw_tbl := by decide +kernel
theorem wsX00_in0 : ∀ w ∈ wsX00, w ∈ lw_tbl := by decide +kernel
theorem wsL_law_in0 : ∀ w ∈ wsL_law0, w ∈ lw_tbl := fun w h => (List.mem_append.mp h).elim (fun h => (List.mem_append.mp h).elim (fun h => (List.mem_append.mp h).elim (fun h => (List.mem_append.mp h).elim (fun h => (List.mem_append.mp h).elim (fun h => (List.mem_append.mp h).elim (fun h => (List.mem_append.mp h).elim (fun h => (List.mem_append.mp h).elim (fun h => wsL_law0_r1_in w h) (fun h => (List.mem_append.mp h).elim (fun h => wsL_law0_r2_in w h) (fun h => (List.mem_append.mp h).elim (fun h => wsL_law0_r3_in w h) (fun h => (List.mem_append.mp h).elim (fun h => wsL_law0_r4_in w h) (fun h => (List.mem_append.mp h).elim (fun h => wsL_law0_r5_in w h) (fun h => (List.mem_append.mp h).elim (fun h => wsL_law0_r6_in w h) (fun h => (List.mem_append.mp h).elim (fun h => wsL_law0_r7_in w h) (fun h => (List.mem_append.mp h).elim (fun h => wsL_law0_r8_in w h) (fun h => (List.mem_append.mp h).elim (fun h => wsL_law0_r9_in w h) (fun h => (List.mem_append.mp h).elim (fun h => wsL_law0_r10_in w h) (fun h => (List.mem_append.mp h).elim (fun h => wsL_law0_r11_in w h) (fun h => (List.mem_append.mp h).elim (fun h => wsL_law0_r12_in w h) (fun h => (List.mem_append.mp h).elim (fun h => wsL_law0_r13_in w h) (fun h => (List.mem_append.mp h).elim (fun h => wsL_law0_r14_in w h) (fun h => (List.mem_append.mp h).elim (fun h => wsL_law0_r15_in w h) (fun h => (List.mem_append.mp h).elim (fun h => wsL_law0_r16_in w h) (fun h => wsL_law0_r17_in w h))))))))))))))))) (fun h => wsX40_in0 w h)) (fun h => wsX50_in0 w h)) (fun h => wsX20_in0 w h)) (fun h => wsX30_in0 w h)) (fun h => wsX10_in0 w h)) (fun h => wsX00_in0 w h)) (fun h => absurd h List.not_mem_nil)
theorem wsL_law_x0 : ∀ w ∈ (vx_atS RX4 46 "java/lang/IllegalArgumentException" ["java/lang/RuntimeException", "java/lang/Exception"]).filter goodWord, w ∈ lw_tbl := by decide +kernel
theorem wsL_law_x1 : ∀ w ∈ (vx_atS RX4 57 "java/lang/IllegalStateException" ["java/lang/RuntimeException", "java/lang/Exception"]).filter goodWord, w ∈ lw_tbl := by decide +kernel
theorem wsL_law_x2 : ∀ w ∈ (vx_atS RX4 146 "java/lang/IndexOutOfBoundsException" ["java/lang/RuntimeException", "java/lang/Exception"]).filter goodWord, w ∈ lw_tbl := by decide +kernel
theorem wsL_law_in : ∀ w ∈ wsL_law, w ∈ lw_tbl := fun w h => (List.mem_append.mp h).elim (fun h => (List.mem_append.mp h).elim (fun h => (List.mem_append.mp h).elim (fun h => wsL_law_in0 w h) (fun h => wsL_law_x0 w h)) (fun h => wsL_law_x1 w h)) (fun h => wsL_law_x2 w h)
theorem inlX0 : ∀ w ∈ wsX00, w ∈ wsL_law := fun _ h => List.mem_append_left _ (List.mem_append_left _ (List.mem_append_left _ (List.mem_append_left _ (List.mem_append_right _ h))))
theorem inX0 : ∀ w ∈ wsX00, w ∈ lw_tbl := fun w h => wsL_law_in w (inlX0 w h)
theorem inlX1 : ∀ w ∈ wsX10, w ∈ wsL_law := fun _ h => List.mem_append_left _ (List.mem_append_left _ (List.mem_append_left _ (List.mem_append_left _ (List.mem_append_left _ (List.mem_append_right _ h)))))
theorem inX1 : ∀ w ∈ wsX10, w ∈ lw_tbl := fun w h => wsL_law_in w (inlX1 w h)
theorem inlX2 : ∀ w ∈ wsX20, w ∈ wsL_law := fun _ h => List.mem_append_left _ (List.mem_append_left _ (List.mem_append_left _ (List.mem_append_left _ (List.mem_append_left _ (List.mem_append_left _ (List.mem_append_left _ (List.mem_append_right _ h)))))))
theorem inX2 : ∀ w ∈ wsX20, w ∈ lw_tbl := fun w h => wsL_law_in w (inlX2 w h)
theorem inlX3 : ∀ w ∈ wsX30, w ∈ wsL_law := fun _ h => List.mem_append_left _ (List.mem_append_left _ (List.mem_append_left _ (List.mem_append_left _ (List.mem_append_left _ (List.mem_append_left _ (List.mem_append_right _ h))))))
theorem inX3 : ∀ w ∈ wsX30, w ∈ lw_tbl := fun w h => wsL_law_in w (inlX3 w h)
theorem inlX4 : ∀ w ∈ wsX40, w ∈ wsL_law := fun _ h => List.mem_append_left _ (List.mem_append_left _ (List.mem_append_left _ (List.mem_append_left _ (List.mem_append_left _ (List.mem_append_left _ (List.mem_append_left _ (List.mem_append_left _ (List.mem_append_left _ (List.mem_append_right _ h)))))))))
theorem inX4 : ∀ w ∈ wsX40, w ∈ lw_tbl := fun w h => wsL_law_in w (inlX4 w h)
theorem inlX5 : ∀ w ∈ wsX50, w ∈ wsL_law := fun _ h => List.mem_append_left _ (List.mem_append_left _ (List.mem_append_left _ (List.mem_append_left _ (List.mem_append_left _ (List.mem_append_left _ (List.mem_append_left _ (List.mem_append_left _ (List.mem_append_right _ h))))))))
theorem inX5 : ∀ w ∈ wsX50, w ∈ lw_tbl := fun w h => wsL_law_in w (inlX5 w h)
theorem inJ9 : ∀ w ∈ wsJ90, w ∈ lw_tbl := by decide +kernel
theorem inJ0 : ∀ w ∈ wsJ00, w ∈ lw_tbl := by decide +kernel
