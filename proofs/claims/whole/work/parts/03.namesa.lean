/-! ===== BEGIN printed: names, fields, word lists, decode rows ===== -/
def RX0 : String := "SkipRays$Air"
def TX0 : u_T := fun k => match k with
  | 0 => ("SkipRays$Air", "hourNow", "I", false)
  | 1 => ("SkipRays$Air", "sunLevel", "I", false)
  | 2 => ("SkipRays$Air", "stormStrength", "I", false)
  | 3 => ("SkipRays$Air", "stormHours", "I", false)
  | 4 => ("SkipRays$Air", "flareSize", "I", false)
  | 5 => ("SkipRays$Air", "cloudStrength", "[I", true)
  | 6 => ("SkipRays$Air", "cloudHours", "[I", true)
  | _ => ("SkipRays$Air", "densities", "[[I", true)
def tyX0 : Nat → FieldType := fun k => match k with
  | 0 => .int
  | 1 => .int
  | 2 => .int
  | 3 => .int
  | 4 => .int
  | 5 => .array .int
  | 6 => .array .int
  | _ => .array (.array .int)
abbrev wsX00 : List Cond := u_ws RX0 TX0 8
theorem nmX0 : ∀ a, a < 8 → ∀ b, b < 8 → a ≠ b → (TX0 a).2.1 ≠ (TX0 b).2.1 := by decide +kernel
theorem tyX0_ok : ∀ k, k < 8 → parseFieldDescriptor (TX0 k).2.2.1 = some (tyX0 k) := by decide +kernel
abbrev cX0_init : ByteArray := prog_2_method_1_code
def yX0_init : MethodName := ⟨RX0, "<init>", "()V"⟩
abbrev cX0_shineFrom : ByteArray := prog_2_method_2_code
def yX0_shineFrom : MethodName := ⟨RX0, "shineFrom", "(I)V"⟩
abbrev cX0_beginStorm : ByteArray := prog_2_method_3_code
def yX0_beginStorm : MethodName := ⟨RX0, "beginStorm", "(II)V"⟩
abbrev cX0_burst : ByteArray := prog_2_method_4_code
def yX0_burst : MethodName := ⟨RX0, "burst", "(I)V"⟩
abbrev cX0_coverPlace : ByteArray := prog_2_method_5_code
def yX0_coverPlace : MethodName := ⟨RX0, "coverPlace", "(III)V"⟩
abbrev cX0_letGoBy : ByteArray := prog_2_method_6_code
def yX0_letGoBy : MethodName := ⟨RX0, "letGoBy", "(I)V"⟩
abbrev cX0_letOneGoBy : ByteArray := prog_2_method_7_code
def yX0_letOneGoBy : MethodName := ⟨RX0, "letOneGoBy", "()V"⟩
abbrev cX0_settle : ByteArray := prog_2_method_8_code
def yX0_settle : MethodName := ⟨RX0, "settle", "()V"⟩
abbrev cX0_bender : ByteArray := prog_2_method_9_code
def yX0_bender : MethodName := ⟨RX0, "bender", "(IIII)I"⟩
def RX1 : String := "SkipRays$Contacts"
def TX1 : u_T := fun k => match k with
  | 0 => ("SkipRays$Contacts", "caller", "[I", true)
  | 1 => ("SkipRays$Contacts", "called", "[I", true)
  | 2 => ("SkipRays$Contacts", "frequency", "[I", true)
  | 3 => ("SkipRays$Contacts", "mode", "[I", true)
  | 4 => ("SkipRays$Contacts", "hourOf", "[I", true)
  | _ => ("SkipRays$Contacts", "made", "I", false)
def tyX1 : Nat → FieldType := fun k => match k with
  | 0 => .array .int
  | 1 => .array .int
  | 2 => .array .int
  | 3 => .array .int
  | 4 => .array .int
  | _ => .int
abbrev wsX10 : List Cond := u_ws RX1 TX1 6
theorem nmX1 : ∀ a, a < 6 → ∀ b, b < 6 → a ≠ b → (TX1 a).2.1 ≠ (TX1 b).2.1 := by decide +kernel
theorem tyX1_ok : ∀ k, k < 6 → parseFieldDescriptor (TX1 k).2.2.1 = some (tyX1 k) := by decide +kernel
abbrev cX1_init : ByteArray := prog_3_method_1_code
def yX1_init : MethodName := ⟨RX1, "<init>", "()V"⟩
abbrev cX1_isFull : ByteArray := prog_3_method_2_code
def yX1_isFull : MethodName := ⟨RX1, "isFull", "()Z"⟩
abbrev cX1_has : ByteArray := prog_3_method_3_code
def yX1_has : MethodName := ⟨RX1, "has", "(I)Z"⟩
abbrev cX1_add : ByteArray := prog_3_method_4_code
def yX1_add : MethodName := ⟨RX1, "add", "(IIIII)V"⟩
abbrev cX1_isOf : ByteArray := prog_3_method_5_code
def yX1_isOf : MethodName := ⟨RX1, "isOf", "(III)Z"⟩
abbrev cX1_tell : ByteArray := prog_3_method_6_code
def yX1_tell : MethodName := ⟨RX1, "tell", "(II)I"⟩
def RX2 : String := "SkipRays$Entries"
def TX2 : u_T := fun k => match k with
  | 0 => ("SkipRays$Entries", "by", "[I", true)
  | 1 => ("SkipRays$Entries", "noted", "[I", true)
  | 2 => ("SkipRays$Entries", "frequency", "[I", true)
  | 3 => ("SkipRays$Entries", "hourOf", "[I", true)
  | 4 => ("SkipRays$Entries", "pair", "[I", true)
  | 5 => ("SkipRays$Entries", "made", "I", false)
  | _ => ("SkipRays$Entries", "paired", "I", false)
def tyX2 : Nat → FieldType := fun k => match k with
  | 0 => .array .int
  | 1 => .array .int
  | 2 => .array .int
  | 3 => .array .int
  | 4 => .array .int
  | 5 => .int
  | _ => .int
abbrev wsX20 : List Cond := u_ws RX2 TX2 7
theorem nmX2 : ∀ a, a < 7 → ∀ b, b < 7 → a ≠ b → (TX2 a).2.1 ≠ (TX2 b).2.1 := by decide +kernel
theorem tyX2_ok : ∀ k, k < 7 → parseFieldDescriptor (TX2 k).2.2.1 = some (tyX2 k) := by decide +kernel
abbrev cX2_init : ByteArray := prog_4_method_1_code
def yX2_init : MethodName := ⟨RX2, "<init>", "()V"⟩
abbrev cX2_isFull : ByteArray := prog_4_method_2_code
def yX2_isFull : MethodName := ⟨RX2, "isFull", "()Z"⟩
abbrev cX2_has : ByteArray := prog_4_method_3_code
def yX2_has : MethodName := ⟨RX2, "has", "(I)Z"⟩
abbrev cX2_add : ByteArray := prog_4_method_4_code
def yX2_add : MethodName := ⟨RX2, "add", "(IIII)I"⟩
abbrev cX2_partnerFor : ByteArray := prog_4_method_5_code
def yX2_partnerFor : MethodName := ⟨RX2, "partnerFor", "(IIII)I"⟩
abbrev cX2_tell : ByteArray := prog_4_method_6_code
def yX2_tell : MethodName := ⟨RX2, "tell", "(II)I"⟩
def RX3 : String := "SkipRays$Ground"
def TX3 : u_T := fun k => match k with
  | 0 => ("SkipRays$Ground", "isSea", "[Z", true)
  | _ => ("SkipRays$Ground", "noiseLevel", "[I", true)
def tyX3 : Nat → FieldType := fun k => match k with
  | 0 => .array .boolean
  | _ => .array .int
abbrev wsX30 : List Cond := u_ws RX3 TX3 2
theorem nmX3 : ∀ a, a < 2 → ∀ b, b < 2 → a ≠ b → (TX3 a).2.1 ≠ (TX3 b).2.1 := by decide +kernel
theorem tyX3_ok : ∀ k, k < 2 → parseFieldDescriptor (TX3 k).2.2.1 = some (tyX3 k) := by decide +kernel
abbrev cX3_init : ByteArray := prog_5_method_1_code
def yX3_init : MethodName := ⟨RX3, "<init>", "()V"⟩
abbrev cX3_takes : ByteArray := prog_5_method_2_code
def yX3_takes : MethodName := ⟨RX3, "takes", "(I)I"⟩
def RX4 : String := "SkipRays$Ray"
def TX4 : u_T := fun k => match k with
  | 0 => ("SkipRays$Ray", "place", "I", false)
  | 1 => ("SkipRays$Ray", "direction", "I", false)
  | 2 => ("SkipRays$Ray", "angle", "I", false)
  | 3 => ("SkipRays$Ray", "frequency", "I", false)
  | 4 => ("SkipRays$Ray", "strength", "I", false)
  | 5 => ("SkipRays$Ray", "legs", "I", false)
  | 6 => ("SkipRays$Ray", "legsByE", "I", false)
  | _ => ("SkipRays$Ray", "delay", "I", false)
def tyX4 : Nat → FieldType := fun k => match k with
  | 0 => .int
  | 1 => .int
  | 2 => .int
  | 3 => .int
  | 4 => .int
  | 5 => .int
  | 6 => .int
  | _ => .int
abbrev wsX40 : List Cond := u_ws RX4 TX4 8
theorem nmX4 : ∀ a, a < 8 → ∀ b, b < 8 → a ≠ b → (TX4 a).2.1 ≠ (TX4 b).2.1 := by decide +kernel
theorem tyX4_ok : ∀ k, k < 8 → parseFieldDescriptor (TX4 k).2.2.1 = some (tyX4 k) := by decide +kernel
abbrev cX4_init : ByteArray := prog_6_method_1_code
def yX4_init : MethodName := ⟨RX4, "<init>", "()V"⟩
abbrev cX4_leave : ByteArray := prog_6_method_2_code
def yX4_leave : MethodName := ⟨RX4, "leave", "(IIIII)V"⟩
abbrev cX4_goOn : ByteArray := prog_6_method_3_code
def yX4_goOn : MethodName := ⟨RX4, "goOn", "(LSkipRays$Air;LSkipRays$Ground;)Z"⟩
abbrev cX4_tell : ByteArray := prog_6_method_4_code
def yX4_tell : MethodName := ⟨RX4, "tell", "(I)I"⟩
def RX5 : String := "SkipRays$Senders"
def TX5 : u_T := fun k => match k with
  | 0 => ("SkipRays$Senders", "place", "[I", true)
  | 1 => ("SkipRays$Senders", "power", "[I", true)
  | 2 => ("SkipRays$Senders", "antenna", "[I", true)
  | 3 => ("SkipRays$Senders", "heading", "[I", true)
  | 4 => ("SkipRays$Senders", "frequency", "[I", true)
  | _ => ("SkipRays$Senders", "made", "I", false)
def tyX5 : Nat → FieldType := fun k => match k with
  | 0 => .array .int
  | 1 => .array .int
  | 2 => .array .int
  | 3 => .array .int
  | 4 => .array .int
  | _ => .int
abbrev wsX50 : List Cond := u_ws RX5 TX5 6
theorem nmX5 : ∀ a, a < 6 → ∀ b, b < 6 → a ≠ b → (TX5 a).2.1 ≠ (TX5 b).2.1 := by decide +kernel
theorem tyX5_ok : ∀ k, k < 6 → parseFieldDescriptor (TX5 k).2.2.1 = some (tyX5 k) := by decide +kernel
abbrev cX5_init : ByteArray := prog_7_method_1_code
def yX5_init : MethodName := ⟨RX5, "<init>", "(I)V"⟩
abbrev cX5_isFull : ByteArray := prog_7_method_2_code
def yX5_isFull : MethodName := ⟨RX5, "isFull", "()Z"⟩
abbrev cX5_has : ByteArray := prog_7_method_3_code
def yX5_has : MethodName := ⟨RX5, "has", "(I)Z"⟩
abbrev cX5_add : ByteArray := prog_7_method_4_code
def yX5_add : MethodName := ⟨RX5, "add", "(IIIII)I"⟩
abbrev cX5_strengthAtFirst : ByteArray := prog_7_method_5_code
def yX5_strengthAtFirst : MethodName := ⟨RX5, "strengthAtFirst", "(III)I"⟩
abbrev cX5_gain : ByteArray := prog_7_method_6_code
def yX5_gain : MethodName := ⟨RX5, "gain", "(II)I"⟩
abbrev cX5_aside : ByteArray := prog_7_method_7_code
def yX5_aside : MethodName := ⟨RX5, "aside", "(II)I"⟩
def RX6 : String := "SkipRays"
def TX6 : u_T := fun k => match k with
  | 0 => ("SkipRays", "air", "LSkipRays$Air;", true)
  | 1 => ("SkipRays", "calm", "LSkipRays$Air;", true)
  | 2 => ("SkipRays", "ground", "LSkipRays$Ground;", true)
  | 3 => ("SkipRays", "ray", "LSkipRays$Ray;", true)
  | 4 => ("SkipRays", "stations", "LSkipRays$Senders;", true)
  | 5 => ("SkipRays", "beacons", "LSkipRays$Senders;", true)
  | 6 => ("SkipRays", "contacts", "LSkipRays$Contacts;", true)
  | 7 => ("SkipRays", "entries", "LSkipRays$Entries;", true)
  | 8 => ("SkipRays", "forecastsMade", "I", false)
  | _ => ("SkipRays", "forecastsRight", "I", false)
def tyX6 : Nat → FieldType := fun k => match k with
  | 0 => .object "SkipRays$Air"
  | 1 => .object "SkipRays$Air"
  | 2 => .object "SkipRays$Ground"
  | 3 => .object "SkipRays$Ray"
  | 4 => .object "SkipRays$Senders"
  | 5 => .object "SkipRays$Senders"
  | 6 => .object "SkipRays$Contacts"
  | 7 => .object "SkipRays$Entries"
  | 8 => .int
  | _ => .int
abbrev wsX60 : List Cond := u_ws RX6 TX6 10
theorem nmX6 : ∀ a, a < 10 → ∀ b, b < 10 → a ≠ b → (TX6 a).2.1 ≠ (TX6 b).2.1 := by decide +kernel
theorem tyX6_ok : ∀ k, k < 10 → parseFieldDescriptor (TX6 k).2.2.1 = some (tyX6 k) := by decide +kernel
abbrev cX6_init : ByteArray := prog_1_method_1_code
def yX6_init : MethodName := ⟨RX6, "<init>", "()V"⟩
abbrev cX6_sun : ByteArray := prog_1_method_2_code
def yX6_sun : MethodName := ⟨RX6, "sun", "(I)I"⟩
abbrev cX6_storm : ByteArray := prog_1_method_3_code
def yX6_storm : MethodName := ⟨RX6, "storm", "(II)V"⟩
abbrev cX6_flare : ByteArray := prog_1_method_4_code
def yX6_flare : MethodName := ⟨RX6, "flare", "(I)I"⟩
abbrev cX6_cloud : ByteArray := prog_1_method_5_code
def yX6_cloud : MethodName := ⟨RX6, "cloud", "(III)V"⟩
abbrev cX6_sea : ByteArray := prog_1_method_6_code
def yX6_sea : MethodName := ⟨RX6, "sea", "(IZ)Z"⟩
abbrev cX6_noise : ByteArray := prog_1_method_7_code
def yX6_noise : MethodName := ⟨RX6, "noise", "(II)I"⟩
abbrev cX6_pass : ByteArray := prog_1_method_8_code
def yX6_pass : MethodName := ⟨RX6, "pass", "(I)I"⟩
abbrev cX6_station : ByteArray := prog_1_method_9_code
def yX6_station : MethodName := ⟨RX6, "station", "(IIII)I"⟩
abbrev cX6_beacon : ByteArray := prog_1_method_10_code
def yX6_beacon : MethodName := ⟨RX6, "beacon", "(III)I"⟩
abbrev cX6_call : ByteArray := prog_1_method_11_code
def yX6_call : MethodName := ⟨RX6, "call", "(IIII)Z"⟩
abbrev cX6_log : ByteArray := prog_1_method_12_code
def yX6_log : MethodName := ⟨RX6, "log", "(III)I"⟩
abbrev cX6_listen : ByteArray := prog_1_method_13_code
def yX6_listen : MethodName := ⟨RX6, "listen", "(I)I"⟩
abbrev cX6_hour : ByteArray := prog_1_method_14_code
def yX6_hour : MethodName := ⟨RX6, "hour", "()I"⟩
abbrev cX6_light : ByteArray := prog_1_method_15_code
def yX6_light : MethodName := ⟨RX6, "light", "(II)I"⟩
abbrev cX6_density : ByteArray := prog_1_method_16_code
def yX6_density : MethodName := ⟨RX6, "density", "(II)I"⟩
abbrev cX6_landing : ByteArray := prog_1_method_17_code
def yX6_landing : MethodName := ⟨RX6, "landing", "(IZIII)I"⟩
abbrev cX6_landingAnew : ByteArray := prog_1_method_18_code
def yX6_landingAnew : MethodName := ⟨RX6, "landingAnew", "(IZIII)I"⟩
abbrev cX6_paths : ByteArray := prog_1_method_19_code
def yX6_paths : MethodName := ⟨RX6, "paths", "(IIII)I"⟩
abbrev cX6_path : ByteArray := prog_1_method_20_code
def yX6_path : MethodName := ⟨RX6, "path", "(IIIIII)I"⟩
abbrev cX6_explain : ByteArray := prog_1_method_21_code
def yX6_explain : MethodName := ⟨RX6, "explain", "(IIIII)I"⟩
abbrev cX6_usable : ByteArray := prog_1_method_22_code
def yX6_usable : MethodName := ⟨RX6, "usable", "(IIIZ)I"⟩
abbrev cX6_skipped : ByteArray := prog_1_method_23_code
def yX6_skipped : MethodName := ⟨RX6, "skipped", "(IZI)I"⟩
abbrev cX6_signal : ByteArray := prog_1_method_24_code
def yX6_signal : MethodName := ⟨RX6, "signal", "(III)I"⟩
abbrev cX6_contactOf : ByteArray := prog_1_method_25_code
def yX6_contactOf : MethodName := ⟨RX6, "contactOf", "(II)I"⟩
abbrev cX6_entryOf : ByteArray := prog_1_method_26_code
def yX6_entryOf : MethodName := ⟨RX6, "entryOf", "(II)I"⟩
abbrev cX6_score : ByteArray := prog_1_method_27_code
def yX6_score : MethodName := ⟨RX6, "score", "(I)I"⟩
abbrev cX6_forecasts : ByteArray := prog_1_method_28_code
def yX6_forecasts : MethodName := ⟨RX6, "forecasts", "(Z)I"⟩
abbrev cX6_count : ByteArray := prog_1_method_29_code
def yX6_count : MethodName := ⟨RX6, "count", "(I)I"⟩
abbrev cX6_needPlace : ByteArray := prog_1_method_30_code
def yX6_needPlace : MethodName := ⟨RX6, "needPlace", "(I)V"⟩
abbrev cX6_needRange : ByteArray := prog_1_method_31_code
def yX6_needRange : MethodName := ⟨RX6, "needRange", "(III)V"⟩
abbrev cX6_needFrequency : ByteArray := prog_1_method_32_code
def yX6_needFrequency : MethodName := ⟨RX6, "needFrequency", "(I)V"⟩
abbrev cX6_needStrength : ByteArray := prog_1_method_33_code
def yX6_needStrength : MethodName := ⟨RX6, "needStrength", "(I)V"⟩
abbrev cX6_needDifferent : ByteArray := prog_1_method_34_code
def yX6_needDifferent : MethodName := ⟨RX6, "needDifferent", "(II)V"⟩
abbrev cX6_needRay : ByteArray := prog_1_method_35_code
def yX6_needRay : MethodName := ⟨RX6, "needRay", "(IIII)V"⟩
abbrev cX6_needPath : ByteArray := prog_1_method_36_code
def yX6_needPath : MethodName := ⟨RX6, "needPath", "(IIII)V"⟩
abbrev cX6_needStation : ByteArray := prog_1_method_37_code
def yX6_needStation : MethodName := ⟨RX6, "needStation", "(I)V"⟩
abbrev cX6_ring : ByteArray := prog_1_method_38_code
def yX6_ring : MethodName := ⟨RX6, "ring", "(I)I"⟩
abbrev cX6_distance : ByteArray := prog_1_method_39_code
def yX6_distance : MethodName := ⟨RX6, "distance", "(II)I"⟩
abbrev cX6_lightIn : ByteArray := prog_1_method_40_code
def yX6_lightIn : MethodName := ⟨RX6, "lightIn", "(II)I"⟩
abbrev cX6_lengthBy : ByteArray := prog_1_method_41_code
def yX6_lengthBy : MethodName := ⟨RX6, "lengthBy", "(II)I"⟩
abbrev cX6_bends : ByteArray := prog_1_method_42_code
def yX6_bends : MethodName := ⟨RX6, "bends", "(III)Z"⟩
abbrev cX6_legAnew : ByteArray := prog_1_method_43_code
def yX6_legAnew : MethodName := ⟨RX6, "legAnew", "(IZII)I"⟩
abbrev cX6_walked : ByteArray := prog_1_method_44_code
def yX6_walked : MethodName := ⟨RX6, "walked", "(IZI)I"⟩
abbrev cX6_reaches : ByteArray := prog_1_method_45_code
def yX6_reaches : MethodName := ⟨RX6, "reaches", "(LSkipRays$Air;IIIII)Z"⟩
abbrev cX6_directionOf : ByteArray := prog_1_method_46_code
def yX6_directionOf : MethodName := ⟨RX6, "directionOf", "(I)I"⟩
abbrev cX6_angleOf : ByteArray := prog_1_method_47_code
def yX6_angleOf : MethodName := ⟨RX6, "angleOf", "(I)I"⟩
abbrev cX6_hasPath : ByteArray := prog_1_method_48_code
def yX6_hasPath : MethodName := ⟨RX6, "hasPath", "(IIII)Z"⟩
abbrev cX6_signalBetween : ByteArray := prog_1_method_49_code
def yX6_signalBetween : MethodName := ⟨RX6, "signalBetween", "(III)I"⟩
abbrev cX6_signalAt : ByteArray := prog_1_method_50_code
def yX6_signalAt : MethodName := ⟨RX6, "signalAt", "(LSkipRays$Air;LSkipRays$Senders;III)I"⟩
abbrev cX6_noiseNow : ByteArray := prog_1_method_51_code
def yX6_noiseNow : MethodName := ⟨RX6, "noiseNow", "(I)I"⟩
abbrev cX6_neededFor : ByteArray := prog_1_method_52_code
def yX6_neededFor : MethodName := ⟨RX6, "neededFor", "(I)I"⟩
abbrev cX6_counts : ByteArray := prog_1_method_53_code
def yX6_counts : MethodName := ⟨RX6, "counts", "(I)Z"⟩
def RX7 : String := "SkipRaysModel"
def TX7 : u_T := fun k => match k with
  | 0 => ("SkipRaysModel", "thrown", "I", false)
  | 1 => ("SkipRaysModel", "hour", "I", false)
  | 2 => ("SkipRaysModel", "sun", "I", false)
  | 3 => ("SkipRaysModel", "storm", "I", false)
  | 4 => ("SkipRaysModel", "stormHours", "I", false)
  | 5 => ("SkipRaysModel", "flare", "I", false)
  | 6 => ("SkipRaysModel", "cloud", "[I", true)
  | 7 => ("SkipRaysModel", "cloudHours", "[I", true)
  | 8 => ("SkipRaysModel", "isSea", "[Z", true)
  | 9 => ("SkipRaysModel", "noise", "[I", true)
  | 10 => ("SkipRaysModel", "isCalm", "Z", false)
  | 11 => ("SkipRaysModel", "stations", "I", false)
  | 12 => ("SkipRaysModel", "place", "[I", true)
  | 13 => ("SkipRaysModel", "power", "[I", true)
  | 14 => ("SkipRaysModel", "antenna", "[I", true)
  | 15 => ("SkipRaysModel", "heading", "[I", true)
  | 16 => ("SkipRaysModel", "beacons", "I", false)
  | 17 => ("SkipRaysModel", "beaconPlace", "[I", true)
  | 18 => ("SkipRaysModel", "beaconOn", "[I", true)
  | 19 => ("SkipRaysModel", "beaconPower", "[I", true)
  | 20 => ("SkipRaysModel", "made", "I", false)
  | 21 => ("SkipRaysModel", "right", "I", false)
  | 22 => ("SkipRaysModel", "contacts", "I", false)
  | 23 => ("SkipRaysModel", "caller", "[I", true)
  | 24 => ("SkipRaysModel", "called", "[I", true)
  | 25 => ("SkipRaysModel", "calledOn", "[I", true)
  | 26 => ("SkipRaysModel", "mode", "[I", true)
  | 27 => ("SkipRaysModel", "calledAt", "[I", true)
  | 28 => ("SkipRaysModel", "entries", "I", false)
  | 29 => ("SkipRaysModel", "logger", "[I", true)
  | 30 => ("SkipRaysModel", "noted", "[I", true)
  | 31 => ("SkipRaysModel", "loggedOn", "[I", true)
  | 32 => ("SkipRaysModel", "loggedAt", "[I", true)
  | 33 => ("SkipRaysModel", "pair", "[I", true)
  | 34 => ("SkipRaysModel", "legs", "I", false)
  | 35 => ("SkipRaysModel", "byE", "I", false)
  | 36 => ("SkipRaysModel", "left", "I", false)
  | _ => ("SkipRaysModel", "delay", "I", false)
def tyX7 : Nat → FieldType := fun k => match k with
  | 0 => .int
  | 1 => .int
  | 2 => .int
  | 3 => .int
  | 4 => .int
  | 5 => .int
  | 6 => .array .int
  | 7 => .array .int
  | 8 => .array .boolean
  | 9 => .array .int
  | 10 => .boolean
  | 11 => .int
  | 12 => .array .int
  | 13 => .array .int
  | 14 => .array .int
  | 15 => .array .int
  | 16 => .int
  | 17 => .array .int
  | 18 => .array .int
  | 19 => .array .int
  | 20 => .int
  | 21 => .int
  | 22 => .int
  | 23 => .array .int
  | 24 => .array .int
  | 25 => .array .int
  | 26 => .array .int
  | 27 => .array .int
  | 28 => .int
  | 29 => .array .int
  | 30 => .array .int
  | 31 => .array .int
  | 32 => .array .int
  | 33 => .array .int
  | 34 => .int
  | 35 => .int
  | 36 => .int
  | _ => .int
abbrev wsX70 : List Cond := u_ws RX7 TX7 38
theorem nmX7 : ∀ a, a < 38 → ∀ b, b < 38 → a ≠ b → (TX7 a).2.1 ≠ (TX7 b).2.1 := by decide +kernel
theorem tyX7_ok : ∀ k, k < 38 → parseFieldDescriptor (TX7 k).2.2.1 = some (tyX7 k) := by decide +kernel
abbrev cX7_init : ByteArray := prog_9_method_1_code
def yX7_init : MethodName := ⟨RX7, "<init>", "()V"⟩
abbrev cX7_thrown : ByteArray := prog_9_method_2_code
def yX7_thrown : MethodName := ⟨RX7, "thrown", "()I"⟩
abbrev cX7_goesWell : ByteArray := prog_9_method_3_code
def yX7_goesWell : MethodName := ⟨RX7, "goesWell", "(I)Z"⟩
abbrev cX7_in : ByteArray := prog_9_method_4_code
def yX7_in : MethodName := ⟨RX7, "in", "(III)Z"⟩
abbrev cX7_isPlace : ByteArray := prog_9_method_5_code
def yX7_isPlace : MethodName := ⟨RX7, "isPlace", "(I)Z"⟩
abbrev cX7_isOn : ByteArray := prog_9_method_6_code
def yX7_isOn : MethodName := ⟨RX7, "isOn", "(I)Z"⟩
abbrev cX7_isStation : ByteArray := prog_9_method_7_code
def yX7_isStation : MethodName := ⟨RX7, "isStation", "(I)Z"⟩
abbrev cX7_gap : ByteArray := prog_9_method_8_code
def yX7_gap : MethodName := ⟨RX7, "gap", "(II)I"⟩
abbrev cX7_sun : ByteArray := prog_9_method_9_code
def yX7_sun : MethodName := ⟨RX7, "sun", "(I)I"⟩
abbrev cX7_storm : ByteArray := prog_9_method_10_code
def yX7_storm : MethodName := ⟨RX7, "storm", "(II)V"⟩
abbrev cX7_flare : ByteArray := prog_9_method_11_code
def yX7_flare : MethodName := ⟨RX7, "flare", "(I)I"⟩
abbrev cX7_cloud : ByteArray := prog_9_method_12_code
def yX7_cloud : MethodName := ⟨RX7, "cloud", "(III)V"⟩
abbrev cX7_sea : ByteArray := prog_9_method_13_code
def yX7_sea : MethodName := ⟨RX7, "sea", "(IZ)Z"⟩
abbrev cX7_noise : ByteArray := prog_9_method_14_code
def yX7_noise : MethodName := ⟨RX7, "noise", "(II)I"⟩
abbrev cX7_passOne : ByteArray := prog_9_method_15_code
def yX7_passOne : MethodName := ⟨RX7, "passOne", "()V"⟩
abbrev cX7_pass : ByteArray := prog_9_method_16_code
def yX7_pass : MethodName := ⟨RX7, "pass", "(I)I"⟩
abbrev cX7_lightOf : ByteArray := prog_9_method_17_code
def yX7_lightOf : MethodName := ⟨RX7, "lightOf", "(II)I"⟩
abbrev cX7_dense : ByteArray := prog_9_method_18_code
def yX7_dense : MethodName := ⟨RX7, "dense", "(II)I"⟩
abbrev cX7_on : ByteArray := prog_9_method_19_code
def yX7_on : MethodName := ⟨RX7, "on", "(IZI)I"⟩
abbrev cX7_bends : ByteArray := prog_9_method_20_code
def yX7_bends : MethodName := ⟨RX7, "bends", "(IIII)Z"⟩
abbrev cX7_layerOf : ByteArray := prog_9_method_21_code
def yX7_layerOf : MethodName := ⟨RX7, "layerOf", "(IZII)I"⟩
abbrev cX7_lengthOf : ByteArray := prog_9_method_22_code
def yX7_lengthOf : MethodName := ⟨RX7, "lengthOf", "(II)I"⟩
abbrev cX7_follow : ByteArray := prog_9_method_23_code
def yX7_follow : MethodName := ⟨RX7, "follow", "(IIZIII)Z"⟩
abbrev cX7_followBy : ByteArray := prog_9_method_24_code
def yX7_followBy : MethodName := ⟨RX7, "followBy", "(IIIII)Z"⟩
abbrev cX7_landed : ByteArray := prog_9_method_25_code
def yX7_landed : MethodName := ⟨RX7, "landed", "(IZIII)I"⟩
abbrev cX7_landing : ByteArray := prog_9_method_26_code
def yX7_landing : MethodName := ⟨RX7, "landing", "(IZIII)I"⟩
abbrev cX7_landingAnew : ByteArray := prog_9_method_27_code
def yX7_landingAnew : MethodName := ⟨RX7, "landingAnew", "(IZIII)I"⟩
abbrev cX7_pathsOf : ByteArray := prog_9_method_28_code
def yX7_pathsOf : MethodName := ⟨RX7, "pathsOf", "(IIII)I"⟩
abbrev cX7_paths : ByteArray := prog_9_method_29_code
def yX7_paths : MethodName := ⟨RX7, "paths", "(IIII)I"⟩
abbrev cX7_path : ByteArray := prog_9_method_30_code
def yX7_path : MethodName := ⟨RX7, "path", "(IIIIII)I"⟩
abbrev cX7_explain : ByteArray := prog_9_method_31_code
def yX7_explain : MethodName := ⟨RX7, "explain", "(IIIII)I"⟩
abbrev cX7_usable : ByteArray := prog_9_method_32_code
def yX7_usable : MethodName := ⟨RX7, "usable", "(IIIZ)I"⟩
abbrev cX7_skipped : ByteArray := prog_9_method_33_code
def yX7_skipped : MethodName := ⟨RX7, "skipped", "(IZI)I"⟩
abbrev cX7_begins : ByteArray := prog_9_method_34_code
def yX7_begins : MethodName := ⟨RX7, "begins", "(IIII)I"⟩
abbrev cX7_signalOf : ByteArray := prog_9_method_35_code
def yX7_signalOf : MethodName := ⟨RX7, "signalOf", "(IIIIII)I"⟩
abbrev cX7_signalBy : ByteArray := prog_9_method_36_code
def yX7_signalBy : MethodName := ⟨RX7, "signalBy", "(III)I"⟩
abbrev cX7_station : ByteArray := prog_9_method_37_code
def yX7_station : MethodName := ⟨RX7, "station", "(IIII)I"⟩
abbrev cX7_beacon : ByteArray := prog_9_method_38_code
def yX7_beacon : MethodName := ⟨RX7, "beacon", "(III)I"⟩
abbrev cX7_call : ByteArray := prog_9_method_39_code
def yX7_call : MethodName := ⟨RX7, "call", "(IIII)Z"⟩
abbrev cX7_log : ByteArray := prog_9_method_40_code
def yX7_log : MethodName := ⟨RX7, "log", "(III)I"⟩
abbrev cX7_listen : ByteArray := prog_9_method_41_code
def yX7_listen : MethodName := ⟨RX7, "listen", "(I)I"⟩
abbrev cX7_hour : ByteArray := prog_9_method_42_code
def yX7_hour : MethodName := ⟨RX7, "hour", "()I"⟩
abbrev cX7_light : ByteArray := prog_9_method_43_code
def yX7_light : MethodName := ⟨RX7, "light", "(II)I"⟩
abbrev cX7_density : ByteArray := prog_9_method_44_code
def yX7_density : MethodName := ⟨RX7, "density", "(II)I"⟩
abbrev cX7_signal : ByteArray := prog_9_method_45_code
def yX7_signal : MethodName := ⟨RX7, "signal", "(III)I"⟩
abbrev cX7_contactOf : ByteArray := prog_9_method_46_code
def yX7_contactOf : MethodName := ⟨RX7, "contactOf", "(II)I"⟩
abbrev cX7_counts : ByteArray := prog_9_method_47_code
def yX7_counts : MethodName := ⟨RX7, "counts", "(I)Z"⟩
abbrev cX7_entryOf : ByteArray := prog_9_method_48_code
def yX7_entryOf : MethodName := ⟨RX7, "entryOf", "(II)I"⟩
abbrev cX7_score : ByteArray := prog_9_method_49_code
def yX7_score : MethodName := ⟨RX7, "score", "(I)I"⟩
abbrev cX7_forecasts : ByteArray := prog_9_method_50_code
def yX7_forecasts : MethodName := ⟨RX7, "forecasts", "(Z)I"⟩
abbrev cX7_count : ByteArray := prog_9_method_51_code
def yX7_count : MethodName := ⟨RX7, "count", "(I)I"⟩
def RJ6 : String := "java/lang/Integer"
def TJ6 : u_T := fun k => match k with
  | _ => ("", "", "", false)
def tyJ6 : Nat → FieldType := fun k => match k with
  | _ => .int
abbrev wsJ60 : List Cond := u_ws RJ6 TJ6 0
theorem nmJ6 : ∀ a, a < 0 → ∀ b, b < 0 → a ≠ b → (TJ6 a).2.1 ≠ (TJ6 b).2.1 := by decide +kernel
theorem tyJ6_ok : ∀ k, k < 0 → parseFieldDescriptor (TJ6 k).2.2.1 = some (tyJ6 k) := by decide +kernel
abbrev cJ6_bitCount_0f7a4 : ByteArray := prog_14_method_49_code
def yJ6_bitCount_0f7a4 : MethodName := ⟨RJ6, "bitCount", "(I)I"⟩
def RJ9 : String := "java/lang/Math"
def TJ9 : u_T := fun k => match k with
  | _ => ("", "", "", false)
def tyJ9 : Nat → FieldType := fun k => match k with
  | _ => .int
abbrev wsJ90 : List Cond := u_ws RJ9 TJ9 0
theorem nmJ9 : ∀ a, a < 0 → ∀ b, b < 0 → a ≠ b → (TJ9 a).2.1 ≠ (TJ9 b).2.1 := by decide +kernel
theorem tyJ9_ok : ∀ k, k < 0 → parseFieldDescriptor (TJ9 k).2.2.1 = some (tyJ9 k) := by decide +kernel
abbrev cJ9_abs_0f7a4 : ByteArray := prog_15_method_59_code
def yJ9_abs_0f7a4 : MethodName := ⟨RJ9, "abs", "(I)I"⟩
abbrev cJ9_max_7cf53 : ByteArray := prog_15_method_65_code
def yJ9_max_7cf53 : MethodName := ⟨RJ9, "max", "(II)I"⟩
abbrev cJ9_min_7cf53 : ByteArray := prog_15_method_69_code
def yJ9_min_7cf53 : MethodName := ⟨RJ9, "min", "(II)I"⟩
def RJ0 : String := "java/lang/String"
def TJ0 : u_T := fun k => match k with
  | _ => ("", "", "", false)
def tyJ0 : Nat → FieldType := fun k => match k with
  | _ => .int
abbrev wsJ00 : List Cond := u_ws RJ0 TJ0 0
theorem nmJ0 : ∀ a, a < 0 → ∀ b, b < 0 → a ≠ b → (TJ0 a).2.1 ≠ (TJ0 b).2.1 := by decide +kernel
theorem tyJ0_ok : ∀ k, k < 0 → parseFieldDescriptor (TJ0 k).2.2.1 = some (tyJ0 k) := by decide +kernel
def RL : String := "SkipRaysLaw"
abbrev cL_sun : ByteArray := method_3_code
def yL_sun : MethodName := ⟨RL, "sun", "(LSkipRays;I[J)I"⟩
abbrev cL_storm : ByteArray := method_4_code
def yL_storm : MethodName := ⟨RL, "storm", "(LSkipRays;II)I"⟩
abbrev cL_flare : ByteArray := method_5_code
def yL_flare : MethodName := ⟨RL, "flare", "(LSkipRays;I[J)I"⟩
abbrev cL_cloud : ByteArray := method_6_code
def yL_cloud : MethodName := ⟨RL, "cloud", "(LSkipRays;III)I"⟩
abbrev cL_sea : ByteArray := method_7_code
def yL_sea : MethodName := ⟨RL, "sea", "(LSkipRays;IZ[J)I"⟩
abbrev cL_noise : ByteArray := method_8_code
def yL_noise : MethodName := ⟨RL, "noise", "(LSkipRays;II[J)I"⟩
abbrev cL_pass : ByteArray := method_9_code
def yL_pass : MethodName := ⟨RL, "pass", "(LSkipRays;I[J)I"⟩
abbrev cL_station : ByteArray := method_10_code
def yL_station : MethodName := ⟨RL, "station", "(LSkipRays;IIII[J)I"⟩
abbrev cL_beacon : ByteArray := method_11_code
def yL_beacon : MethodName := ⟨RL, "beacon", "(LSkipRays;III[J)I"⟩
abbrev cL_call : ByteArray := method_12_code
def yL_call : MethodName := ⟨RL, "call", "(LSkipRays;IIII[J)I"⟩
abbrev cL_log : ByteArray := method_13_code
def yL_log : MethodName := ⟨RL, "log", "(LSkipRays;III[J)I"⟩
abbrev cL_listen : ByteArray := method_14_code
def yL_listen : MethodName := ⟨RL, "listen", "(LSkipRays;I[J)I"⟩
abbrev cL_light : ByteArray := method_15_code
def yL_light : MethodName := ⟨RL, "light", "(LSkipRays;II[J)I"⟩
abbrev cL_density : ByteArray := method_16_code
def yL_density : MethodName := ⟨RL, "density", "(LSkipRays;II[J)I"⟩
abbrev cL_landing : ByteArray := method_17_code
def yL_landing : MethodName := ⟨RL, "landing", "(LSkipRays;IZIII[J)I"⟩
abbrev cL_landingAnew : ByteArray := method_18_code
def yL_landingAnew : MethodName := ⟨RL, "landingAnew", "(LSkipRays;IZIII[J)I"⟩
abbrev cL_paths : ByteArray := method_19_code
def yL_paths : MethodName := ⟨RL, "paths", "(LSkipRays;IIII[J)I"⟩
abbrev cL_path : ByteArray := method_20_code
def yL_path : MethodName := ⟨RL, "path", "(LSkipRays;IIIIII[J)I"⟩
abbrev cL_explain : ByteArray := method_21_code
def yL_explain : MethodName := ⟨RL, "explain", "(LSkipRays;IIIII[J)I"⟩
abbrev cL_usable : ByteArray := method_22_code
def yL_usable : MethodName := ⟨RL, "usable", "(LSkipRays;IIIZ[J)I"⟩
abbrev cL_skipped : ByteArray := method_23_code
def yL_skipped : MethodName := ⟨RL, "skipped", "(LSkipRays;IZI[J)I"⟩
abbrev cL_signal : ByteArray := method_24_code
def yL_signal : MethodName := ⟨RL, "signal", "(LSkipRays;III[J)I"⟩
abbrev cL_contactOf : ByteArray := method_25_code
def yL_contactOf : MethodName := ⟨RL, "contactOf", "(LSkipRays;II[J)I"⟩
abbrev cL_entryOf : ByteArray := method_26_code
def yL_entryOf : MethodName := ⟨RL, "entryOf", "(LSkipRays;II[J)I"⟩
abbrev cL_score : ByteArray := method_27_code
def yL_score : MethodName := ⟨RL, "score", "(LSkipRays;I[J)I"⟩
abbrev cL_count : ByteArray := method_28_code
def yL_count : MethodName := ⟨RL, "count", "(LSkipRays;I[J)I"⟩
abbrev cL_law : ByteArray := code
def yL_law : MethodName := ⟨RL, "law", "([I)Z"⟩
def wsX6_lightIn : List Cond := .code yX6_lightIn cX6_lightIn 3 (some .int) :: ([.methodLink RX6 211 Lib.Math.abs.name, .static Lib.Math.abs.name, .initialized "java/lang/Math", .code Lib.Math.abs.name Lib.Math.abs.code 1 (some .int), .methodLink RX6 226 Lib.Math.max.name, .static Lib.Math.max.name, .code Lib.Math.max.name Lib.Math.max.code 2 (some .int)])
def wsX0_settle : List Cond := .code yX0_settle cX0_settle 5 none :: ([.fieldLink RX0 42 "SkipRays$Air" "hourNow" "I", .fieldLink RX0 36 "SkipRays$Air" "flareSize" "I", .fieldLink RX0 9 "SkipRays$Air" "sunLevel" "I", .fieldLink RX0 24 "SkipRays$Air" "densities" "[[I", .fieldLink RX0 15 "SkipRays$Air" "cloudStrength" "[I", .fieldLink RX0 30 "SkipRays$Air" "stormStrength" "I", .methodLink RX0 45 Lib.Math.max.name, .static Lib.Math.max.name, .initialized "java/lang/Math", .code Lib.Math.max.name Lib.Math.max.code 2 (some .int), .static yX6_lightIn, .initialized RX6, .code yX6_lightIn cX6_lightIn 3 (some .int), .methodLink RX6 211 Lib.Math.abs.name, .static Lib.Math.abs.name, .code Lib.Math.abs.name Lib.Math.abs.code 1 (some .int), .methodLink RX6 226 Lib.Math.max.name] ++ wsX00)
def wsX0_init_r1 : List Cond := [Cond.methodLink RX0 3 objectInit, Cond.instanceMethod objectInit, Cond.code objectInit ⟨#[0xb1]⟩ 1 none, Cond.fieldLink RX0 9 "SkipRays$Air" "sunLevel" "I", Cond.arrayClass .int, Cond.fieldLink RX0 15 "SkipRays$Air" "cloudStrength" "[I", Cond.fieldLink RX0 19 "SkipRays$Air" "cloudHours" "[I", Cond.classLink RX0 22 "[[I", Cond.fieldLink RX0 24 "SkipRays$Air" "densities" "[[I", Cond.methodLink RX0 27 yX0_settle, Cond.instanceMethod yX0_settle, Cond.selects RX0 yX0_settle yX0_settle, Cond.initialized RX0, Cond.code yX0_settle cX0_settle 5 none, Cond.fieldLink RX0 42 "SkipRays$Air" "hourNow" "I", Cond.fieldLink RX0 36 "SkipRays$Air" "flareSize" "I", Cond.fieldLink RX0 30 "SkipRays$Air" "stormStrength" "I", Cond.methodLink RX0 45 Lib.Math.max.name, Cond.static Lib.Math.max.name, Cond.initialized "java/lang/Math", Cond.code Lib.Math.max.name Lib.Math.max.code 2 (some .int), Cond.static yX6_lightIn, Cond.initialized RX6, Cond.code yX6_lightIn cX6_lightIn 3 (some .int)]
def wsX0_init_r2 : List Cond := [Cond.methodLink RX6 211 Lib.Math.abs.name, Cond.static Lib.Math.abs.name, Cond.code Lib.Math.abs.name Lib.Math.abs.code 1 (some .int), Cond.methodLink RX6 226 Lib.Math.max.name]
def wsX0_init : List Cond := .code yX0_init cX0_init 1 none :: ((wsX0_init_r1 ++ wsX0_init_r2) ++ wsX00)
def wsX0_shineFrom : List Cond := .code yX0_shineFrom cX0_shineFrom 2 none :: ([.fieldLink RX0 9 "SkipRays$Air" "sunLevel" "I", .methodLink RX0 27 yX0_settle, .instanceMethod yX0_settle, .selects RX0 yX0_settle yX0_settle, .initialized RX0, .code yX0_settle cX0_settle 5 none, .fieldLink RX0 42 "SkipRays$Air" "hourNow" "I", .fieldLink RX0 36 "SkipRays$Air" "flareSize" "I", .fieldLink RX0 24 "SkipRays$Air" "densities" "[[I", .fieldLink RX0 15 "SkipRays$Air" "cloudStrength" "[I", .fieldLink RX0 30 "SkipRays$Air" "stormStrength" "I", .methodLink RX0 45 Lib.Math.max.name, .static Lib.Math.max.name, .initialized "java/lang/Math", .code Lib.Math.max.name Lib.Math.max.code 2 (some .int), .static yX6_lightIn, .initialized RX6, .code yX6_lightIn cX6_lightIn 3 (some .int), .methodLink RX6 211 Lib.Math.abs.name, .static Lib.Math.abs.name, .code Lib.Math.abs.name Lib.Math.abs.code 1 (some .int), .methodLink RX6 226 Lib.Math.max.name] ++ wsX00)
def wsX0_beginStorm : List Cond := .code yX0_beginStorm cX0_beginStorm 3 none :: ([.fieldLink RX0 30 "SkipRays$Air" "stormStrength" "I", .fieldLink RX0 33 "SkipRays$Air" "stormHours" "I", .methodLink RX0 27 yX0_settle, .instanceMethod yX0_settle, .selects RX0 yX0_settle yX0_settle, .initialized RX0, .code yX0_settle cX0_settle 5 none, .fieldLink RX0 42 "SkipRays$Air" "hourNow" "I", .fieldLink RX0 36 "SkipRays$Air" "flareSize" "I", .fieldLink RX0 9 "SkipRays$Air" "sunLevel" "I", .fieldLink RX0 24 "SkipRays$Air" "densities" "[[I", .fieldLink RX0 15 "SkipRays$Air" "cloudStrength" "[I", .methodLink RX0 45 Lib.Math.max.name, .static Lib.Math.max.name, .initialized "java/lang/Math", .code Lib.Math.max.name Lib.Math.max.code 2 (some .int), .static yX6_lightIn, .initialized RX6, .code yX6_lightIn cX6_lightIn 3 (some .int), .methodLink RX6 211 Lib.Math.abs.name, .static Lib.Math.abs.name, .code Lib.Math.abs.name Lib.Math.abs.code 1 (some .int), .methodLink RX6 226 Lib.Math.max.name] ++ wsX00)
def wsX0_burst : List Cond := .code yX0_burst cX0_burst 2 none :: ([.fieldLink RX0 36 "SkipRays$Air" "flareSize" "I", .methodLink RX0 27 yX0_settle, .instanceMethod yX0_settle, .selects RX0 yX0_settle yX0_settle, .initialized RX0, .code yX0_settle cX0_settle 5 none, .fieldLink RX0 42 "SkipRays$Air" "hourNow" "I", .fieldLink RX0 9 "SkipRays$Air" "sunLevel" "I", .fieldLink RX0 24 "SkipRays$Air" "densities" "[[I", .fieldLink RX0 15 "SkipRays$Air" "cloudStrength" "[I", .fieldLink RX0 30 "SkipRays$Air" "stormStrength" "I", .methodLink RX0 45 Lib.Math.max.name, .static Lib.Math.max.name, .initialized "java/lang/Math", .code Lib.Math.max.name Lib.Math.max.code 2 (some .int), .static yX6_lightIn, .initialized RX6, .code yX6_lightIn cX6_lightIn 3 (some .int), .methodLink RX6 211 Lib.Math.abs.name, .static Lib.Math.abs.name, .code Lib.Math.abs.name Lib.Math.abs.code 1 (some .int), .methodLink RX6 226 Lib.Math.max.name] ++ wsX00)
def wsX0_coverPlace : List Cond := .code yX0_coverPlace cX0_coverPlace 4 none :: ([.fieldLink RX0 15 "SkipRays$Air" "cloudStrength" "[I", .fieldLink RX0 19 "SkipRays$Air" "cloudHours" "[I", .methodLink RX0 27 yX0_settle, .instanceMethod yX0_settle, .selects RX0 yX0_settle yX0_settle, .initialized RX0, .code yX0_settle cX0_settle 5 none, .fieldLink RX0 42 "SkipRays$Air" "hourNow" "I", .fieldLink RX0 36 "SkipRays$Air" "flareSize" "I", .fieldLink RX0 9 "SkipRays$Air" "sunLevel" "I", .fieldLink RX0 24 "SkipRays$Air" "densities" "[[I", .fieldLink RX0 30 "SkipRays$Air" "stormStrength" "I", .methodLink RX0 45 Lib.Math.max.name, .static Lib.Math.max.name, .initialized "java/lang/Math", .code Lib.Math.max.name Lib.Math.max.code 2 (some .int), .static yX6_lightIn, .initialized RX6, .code yX6_lightIn cX6_lightIn 3 (some .int), .methodLink RX6 211 Lib.Math.abs.name, .static Lib.Math.abs.name, .code Lib.Math.abs.name Lib.Math.abs.code 1 (some .int), .methodLink RX6 226 Lib.Math.max.name] ++ wsX00)
def wsX0_letOneGoBy : List Cond := .code yX0_letOneGoBy cX0_letOneGoBy 2 none :: ([.fieldLink RX0 42 "SkipRays$Air" "hourNow" "I", .fieldLink RX0 36 "SkipRays$Air" "flareSize" "I", .fieldLink RX0 33 "SkipRays$Air" "stormHours" "I", .methodLink RX0 45 Lib.Math.max.name, .static Lib.Math.max.name, .initialized "java/lang/Math", .code Lib.Math.max.name Lib.Math.max.code 2 (some .int), .fieldLink RX0 30 "SkipRays$Air" "stormStrength" "I", .fieldLink RX0 19 "SkipRays$Air" "cloudHours" "[I", .fieldLink RX0 15 "SkipRays$Air" "cloudStrength" "[I"] ++ wsX00)
def wsX0_letGoBy_r1 : List Cond := [Cond.methodLink RX0 39 yX0_letOneGoBy, Cond.instanceMethod yX0_letOneGoBy, Cond.selects RX0 yX0_letOneGoBy yX0_letOneGoBy, Cond.initialized RX0, Cond.code yX0_letOneGoBy cX0_letOneGoBy 2 none, Cond.fieldLink RX0 42 "SkipRays$Air" "hourNow" "I", Cond.fieldLink RX0 36 "SkipRays$Air" "flareSize" "I", Cond.fieldLink RX0 33 "SkipRays$Air" "stormHours" "I", Cond.methodLink RX0 45 Lib.Math.max.name, Cond.static Lib.Math.max.name, Cond.initialized "java/lang/Math", Cond.code Lib.Math.max.name Lib.Math.max.code 2 (some .int), Cond.fieldLink RX0 30 "SkipRays$Air" "stormStrength" "I", Cond.fieldLink RX0 19 "SkipRays$Air" "cloudHours" "[I", Cond.fieldLink RX0 15 "SkipRays$Air" "cloudStrength" "[I", Cond.methodLink RX0 27 yX0_settle, Cond.instanceMethod yX0_settle, Cond.selects RX0 yX0_settle yX0_settle, Cond.code yX0_settle cX0_settle 5 none, Cond.fieldLink RX0 9 "SkipRays$Air" "sunLevel" "I", Cond.fieldLink RX0 24 "SkipRays$Air" "densities" "[[I", Cond.static yX6_lightIn, Cond.initialized RX6, Cond.code yX6_lightIn cX6_lightIn 3 (some .int)]
def wsX0_letGoBy_r2 : List Cond := [Cond.methodLink RX6 211 Lib.Math.abs.name, Cond.static Lib.Math.abs.name, Cond.code Lib.Math.abs.name Lib.Math.abs.code 1 (some .int), Cond.methodLink RX6 226 Lib.Math.max.name]
def wsX0_letGoBy : List Cond := .code yX0_letGoBy cX0_letGoBy 3 none :: ((wsX0_letGoBy_r1 ++ wsX0_letGoBy_r2) ++ wsX00)
def wsX6_lengthBy : List Cond := .code yX6_lengthBy cX6_lengthBy 2 (some .int) :: ([])
def wsX6_ring : List Cond := .code yX6_ring cX6_ring 2 (some .int) :: ([])
def wsX6_bends : List Cond := .code yX6_bends cX6_bends 3 (some .boolean) :: ([])
def wsX0_bender : List Cond := .code yX0_bender cX0_bender 7 (some .int) :: ([.fieldLink RX0 24 "SkipRays$Air" "densities" "[[I", .static yX6_lengthBy, .initialized RX6, .code yX6_lengthBy cX6_lengthBy 2 (some .int), .static yX6_ring, .code yX6_ring cX6_ring 2 (some .int), .static yX6_bends, .code yX6_bends cX6_bends 3 (some .boolean)] ++ wsX00)
def wsX1_init : List Cond := .code yX1_init cX1_init 1 none :: ([.methodLink RX1 3 objectInit, .instanceMethod objectInit, .code objectInit ⟨#[0xb1]⟩ 1 none, .arrayClass .int, .fieldLink RX1 9 "SkipRays$Contacts" "caller" "[I", .fieldLink RX1 15 "SkipRays$Contacts" "called" "[I", .fieldLink RX1 18 "SkipRays$Contacts" "frequency" "[I", .fieldLink RX1 21 "SkipRays$Contacts" "mode" "[I", .fieldLink RX1 24 "SkipRays$Contacts" "hourOf" "[I"] ++ wsX10)
def wsX1_isFull : List Cond := .code yX1_isFull cX1_isFull 1 (some .boolean) :: ([.fieldLink RX1 27 "SkipRays$Contacts" "made" "I"] ++ wsX10)
def wsX1_has : List Cond := .code yX1_has cX1_has 2 (some .boolean) :: ([.fieldLink RX1 27 "SkipRays$Contacts" "made" "I"] ++ wsX10)
def wsX1_add : List Cond := .code yX1_add cX1_add 6 none :: ([.fieldLink RX1 9 "SkipRays$Contacts" "caller" "[I", .fieldLink RX1 27 "SkipRays$Contacts" "made" "I", .fieldLink RX1 15 "SkipRays$Contacts" "called" "[I", .fieldLink RX1 18 "SkipRays$Contacts" "frequency" "[I", .fieldLink RX1 21 "SkipRays$Contacts" "mode" "[I", .fieldLink RX1 24 "SkipRays$Contacts" "hourOf" "[I"] ++ wsX10)
def wsX1_isOf : List Cond := .code yX1_isOf cX1_isOf 4 (some .boolean) :: ([.fieldLink RX1 9 "SkipRays$Contacts" "caller" "[I", .fieldLink RX1 15 "SkipRays$Contacts" "called" "[I"] ++ wsX10)
def wsX1_tell : List Cond := .code yX1_tell cX1_tell 3 (some .int) :: ([.fieldLink RX1 9 "SkipRays$Contacts" "caller" "[I", .fieldLink RX1 15 "SkipRays$Contacts" "called" "[I", .fieldLink RX1 18 "SkipRays$Contacts" "frequency" "[I", .fieldLink RX1 21 "SkipRays$Contacts" "mode" "[I", .fieldLink RX1 24 "SkipRays$Contacts" "hourOf" "[I"] ++ wsX10)
def wsX2_init : List Cond := .code yX2_init cX2_init 1 none :: ([.methodLink RX2 3 objectInit, .instanceMethod objectInit, .code objectInit ⟨#[0xb1]⟩ 1 none, .arrayClass .int, .fieldLink RX2 9 "SkipRays$Entries" "by" "[I", .fieldLink RX2 15 "SkipRays$Entries" "noted" "[I", .fieldLink RX2 18 "SkipRays$Entries" "frequency" "[I", .fieldLink RX2 21 "SkipRays$Entries" "hourOf" "[I", .fieldLink RX2 24 "SkipRays$Entries" "pair" "[I"] ++ wsX20)
def wsX2_isFull : List Cond := .code yX2_isFull cX2_isFull 1 (some .boolean) :: ([.fieldLink RX2 27 "SkipRays$Entries" "made" "I"] ++ wsX20)
def wsX2_has : List Cond := .code yX2_has cX2_has 2 (some .boolean) :: ([.fieldLink RX2 27 "SkipRays$Entries" "made" "I"] ++ wsX20)
def wsX2_partnerFor : List Cond := .code yX2_partnerFor cX2_partnerFor 6 (some .int) :: ([.fieldLink RX2 27 "SkipRays$Entries" "made" "I", .fieldLink RX2 24 "SkipRays$Entries" "pair" "[I", .fieldLink RX2 9 "SkipRays$Entries" "by" "[I", .fieldLink RX2 15 "SkipRays$Entries" "noted" "[I", .fieldLink RX2 18 "SkipRays$Entries" "frequency" "[I", .fieldLink RX2 21 "SkipRays$Entries" "hourOf" "[I"] ++ wsX20)
def wsX2_add : List Cond := .code yX2_add cX2_add 7 (some .int) :: ([.fieldLink RX2 27 "SkipRays$Entries" "made" "I", .fieldLink RX2 9 "SkipRays$Entries" "by" "[I", .fieldLink RX2 15 "SkipRays$Entries" "noted" "[I", .fieldLink RX2 18 "SkipRays$Entries" "frequency" "[I", .fieldLink RX2 21 "SkipRays$Entries" "hourOf" "[I", .fieldLink RX2 24 "SkipRays$Entries" "pair" "[I", .fieldLink RX2 35 "SkipRays$Entries" "paired" "I", .methodLink RX2 31 yX2_partnerFor, .instanceMethod yX2_partnerFor, .selects RX2 yX2_partnerFor yX2_partnerFor, .initialized RX2, .code yX2_partnerFor cX2_partnerFor 6 (some .int)] ++ wsX20)
def wsX2_tell : List Cond := .code yX2_tell cX2_tell 3 (some .int) :: ([.fieldLink RX2 9 "SkipRays$Entries" "by" "[I", .fieldLink RX2 15 "SkipRays$Entries" "noted" "[I", .fieldLink RX2 18 "SkipRays$Entries" "frequency" "[I", .fieldLink RX2 21 "SkipRays$Entries" "hourOf" "[I", .fieldLink RX2 24 "SkipRays$Entries" "pair" "[I"] ++ wsX20)
def wsX3_init : List Cond := .code yX3_init cX3_init 1 none :: ([.methodLink RX3 3 objectInit, .instanceMethod objectInit, .code objectInit ⟨#[0xb1]⟩ 1 none, .arrayClass .boolean, .fieldLink RX3 9 "SkipRays$Ground" "isSea" "[Z", .arrayClass .int, .fieldLink RX3 15 "SkipRays$Ground" "noiseLevel" "[I"] ++ wsX30)
def wsX3_takes : List Cond := .code yX3_takes cX3_takes 2 (some .int) :: ([.fieldLink RX3 9 "SkipRays$Ground" "isSea" "[Z"] ++ wsX30)
def wsX4_init : List Cond := .code yX4_init cX4_init 1 none :: ([.methodLink RX4 3 objectInit, .instanceMethod objectInit, .code objectInit ⟨#[0xb1]⟩ 1 none])
def wsX4_leave : List Cond := .code yX4_leave cX4_leave 6 none :: ([.fieldLink RX4 9 "SkipRays$Ray" "place" "I", .fieldLink RX4 15 "SkipRays$Ray" "direction" "I", .fieldLink RX4 18 "SkipRays$Ray" "angle" "I", .fieldLink RX4 21 "SkipRays$Ray" "frequency" "I", .fieldLink RX4 24 "SkipRays$Ray" "strength" "I", .fieldLink RX4 27 "SkipRays$Ray" "legs" "I", .fieldLink RX4 30 "SkipRays$Ray" "legsByE" "I", .fieldLink RX4 33 "SkipRays$Ray" "delay" "I"] ++ wsX40)
def wsX4_goOn_r1 : List Cond := [Cond.fieldLink RX4 15 "SkipRays$Ray" "direction" "I", Cond.fieldLink RX4 9 "SkipRays$Ray" "place" "I", Cond.fieldLink RX4 18 "SkipRays$Ray" "angle" "I", Cond.fieldLink RX4 21 "SkipRays$Ray" "frequency" "I", Cond.fieldLink RX4 27 "SkipRays$Ray" "legs" "I", Cond.fieldLink RX4 24 "SkipRays$Ray" "strength" "I", Cond.fieldLink RX4 30 "SkipRays$Ray" "legsByE" "I", Cond.fieldLink RX4 33 "SkipRays$Ray" "delay" "I", Cond.methodLink RX4 36 yX0_bender, Cond.instanceMethod yX0_bender, Cond.selects RX0 yX0_bender yX0_bender, Cond.initialized RX0, Cond.code yX0_bender cX0_bender 7 (some .int), Cond.fieldLink RX0 24 "SkipRays$Air" "densities" "[[I", Cond.static yX6_lengthBy, Cond.initialized RX6, Cond.code yX6_lengthBy cX6_lengthBy 2 (some .int), Cond.static yX6_ring, Cond.code yX6_ring cX6_ring 2 (some .int), Cond.static yX6_bends, Cond.code yX6_bends cX6_bends 3 (some .boolean), Cond.methodLink RX4 54 yX3_takes, Cond.instanceMethod yX3_takes, Cond.selects RX3 yX3_takes yX3_takes]
def wsX4_goOn_r2 : List Cond := [Cond.initialized RX3, Cond.code yX3_takes cX3_takes 2 (some .int), Cond.fieldLink RX3 9 "SkipRays$Ground" "isSea" "[Z"]
def wsX4_goOn : List Cond := .code yX4_goOn cX4_goOn 9 (some .boolean) :: ((wsX4_goOn_r1 ++ wsX4_goOn_r2) ++ wsX40 ++ wsX00 ++ wsX30)
def wsX4_tell : List Cond := .code yX4_tell cX4_tell 2 (some .int) :: ([.fieldLink RX4 15 "SkipRays$Ray" "direction" "I", .fieldLink RX4 18 "SkipRays$Ray" "angle" "I", .fieldLink RX4 27 "SkipRays$Ray" "legs" "I", .fieldLink RX4 30 "SkipRays$Ray" "legsByE" "I", .fieldLink RX4 24 "SkipRays$Ray" "strength" "I", .fieldLink RX4 33 "SkipRays$Ray" "delay" "I"] ++ wsX40)
def wsX5_init : List Cond := .code yX5_init cX5_init 2 none :: ([.methodLink RX5 3 objectInit, .instanceMethod objectInit, .code objectInit ⟨#[0xb1]⟩ 1 none, .arrayClass .int, .fieldLink RX5 9 "SkipRays$Senders" "place" "[I", .fieldLink RX5 15 "SkipRays$Senders" "power" "[I", .fieldLink RX5 18 "SkipRays$Senders" "antenna" "[I", .fieldLink RX5 21 "SkipRays$Senders" "heading" "[I", .fieldLink RX5 24 "SkipRays$Senders" "frequency" "[I"] ++ wsX50)
def wsX5_isFull : List Cond := .code yX5_isFull cX5_isFull 1 (some .boolean) :: ([.fieldLink RX5 27 "SkipRays$Senders" "made" "I", .fieldLink RX5 9 "SkipRays$Senders" "place" "[I"] ++ wsX50)
def wsX5_has : List Cond := .code yX5_has cX5_has 2 (some .boolean) :: ([.fieldLink RX5 27 "SkipRays$Senders" "made" "I"] ++ wsX50)
def wsX5_add : List Cond := .code yX5_add cX5_add 7 (some .int) :: ([.fieldLink RX5 27 "SkipRays$Senders" "made" "I", .fieldLink RX5 9 "SkipRays$Senders" "place" "[I", .fieldLink RX5 15 "SkipRays$Senders" "power" "[I", .fieldLink RX5 18 "SkipRays$Senders" "antenna" "[I", .fieldLink RX5 21 "SkipRays$Senders" "heading" "[I", .fieldLink RX5 24 "SkipRays$Senders" "frequency" "[I"] ++ wsX50)
def wsX5_gain : List Cond := .code yX5_gain cX5_gain 2 (some .int) :: ([])
def wsX5_aside : List Cond := .code yX5_aside cX5_aside 2 (some .int) :: ([])
def wsX5_strengthAtFirst : List Cond := .code yX5_strengthAtFirst cX5_strengthAtFirst 4 (some .int) :: ([.fieldLink RX5 15 "SkipRays$Senders" "power" "[I", .fieldLink RX5 18 "SkipRays$Senders" "antenna" "[I", .fieldLink RX5 21 "SkipRays$Senders" "heading" "[I", .methodLink RX5 31 yX5_gain, .static yX5_gain, .initialized RX5, .code yX5_gain cX5_gain 2 (some .int), .methodLink RX5 35 yX5_aside, .static yX5_aside, .code yX5_aside cX5_aside 2 (some .int)] ++ wsX50)
def wsX6_init_r1 : List Cond := [Cond.methodLink RX6 3 objectInit, Cond.instanceMethod objectInit, Cond.code objectInit ⟨#[0xb1]⟩ 1 none, Cond.classLink RX6 9 RX0, Cond.instantiable RX0 8, Cond.initialized RX0, Cond.fieldLink RX6 12 "SkipRays" "air" "LSkipRays$Air;", Cond.fieldLink RX6 16 "SkipRays" "calm" "LSkipRays$Air;", Cond.classLink RX6 19 RX3, Cond.instantiable RX3 2, Cond.initialized RX3, Cond.fieldLink RX6 22 "SkipRays" "ground" "LSkipRays$Ground;", Cond.classLink RX6 26 RX4, Cond.instantiable RX4 8, Cond.initialized RX4, Cond.fieldLink RX6 29 "SkipRays" "ray" "LSkipRays$Ray;", Cond.classLink RX6 33 RX5, Cond.instantiable RX5 6, Cond.initialized RX5, Cond.fieldLink RX6 38 "SkipRays" "stations" "LSkipRays$Senders;", Cond.fieldLink RX6 42 "SkipRays" "beacons" "LSkipRays$Senders;", Cond.classLink RX6 45 RX1, Cond.instantiable RX1 6, Cond.initialized RX1]
def wsX6_init_r2 : List Cond := [Cond.fieldLink RX6 48 "SkipRays" "contacts" "LSkipRays$Contacts;", Cond.classLink RX6 52 RX2, Cond.instantiable RX2 7, Cond.initialized RX2, Cond.fieldLink RX6 55 "SkipRays" "entries" "LSkipRays$Entries;", Cond.methodLink RX6 11 yX0_init, Cond.instanceMethod yX0_init, Cond.code yX0_init cX0_init 1 none, Cond.methodLink RX0 3 objectInit, Cond.fieldLink RX0 9 "SkipRays$Air" "sunLevel" "I", Cond.arrayClass .int, Cond.fieldLink RX0 15 "SkipRays$Air" "cloudStrength" "[I", Cond.fieldLink RX0 19 "SkipRays$Air" "cloudHours" "[I", Cond.classLink RX0 22 "[[I", Cond.fieldLink RX0 24 "SkipRays$Air" "densities" "[[I", Cond.methodLink RX0 27 yX0_settle, Cond.instanceMethod yX0_settle, Cond.selects RX0 yX0_settle yX0_settle, Cond.code yX0_settle cX0_settle 5 none, Cond.fieldLink RX0 42 "SkipRays$Air" "hourNow" "I", Cond.fieldLink RX0 36 "SkipRays$Air" "flareSize" "I", Cond.fieldLink RX0 30 "SkipRays$Air" "stormStrength" "I", Cond.methodLink RX0 45 Lib.Math.max.name, Cond.static Lib.Math.max.name]
def wsX6_init_r3 : List Cond := [Cond.initialized "java/lang/Math", Cond.code Lib.Math.max.name Lib.Math.max.code 2 (some .int), Cond.static yX6_lightIn, Cond.initialized RX6, Cond.code yX6_lightIn cX6_lightIn 3 (some .int), Cond.methodLink RX6 211 Lib.Math.abs.name, Cond.static Lib.Math.abs.name, Cond.code Lib.Math.abs.name Lib.Math.abs.code 1 (some .int), Cond.methodLink RX6 226 Lib.Math.max.name, Cond.instanceMethod yX3_init, Cond.code yX3_init cX3_init 1 none, Cond.methodLink RX3 3 objectInit, Cond.arrayClass .boolean, Cond.fieldLink RX3 9 "SkipRays$Ground" "isSea" "[Z", Cond.fieldLink RX3 15 "SkipRays$Ground" "noiseLevel" "[I", Cond.instanceMethod yX4_init, Cond.code yX4_init cX4_init 1 none, Cond.methodLink RX4 3 objectInit, Cond.methodLink RX6 35 yX5_init, Cond.instanceMethod yX5_init, Cond.code yX5_init cX5_init 2 none, Cond.methodLink RX5 3 objectInit, Cond.fieldLink RX5 9 "SkipRays$Senders" "place" "[I", Cond.fieldLink RX5 15 "SkipRays$Senders" "power" "[I"]
def wsX6_init_r4 : List Cond := [Cond.fieldLink RX5 18 "SkipRays$Senders" "antenna" "[I", Cond.fieldLink RX5 21 "SkipRays$Senders" "heading" "[I", Cond.fieldLink RX5 24 "SkipRays$Senders" "frequency" "[I", Cond.instanceMethod yX1_init, Cond.code yX1_init cX1_init 1 none, Cond.methodLink RX1 3 objectInit, Cond.fieldLink RX1 9 "SkipRays$Contacts" "caller" "[I", Cond.fieldLink RX1 15 "SkipRays$Contacts" "called" "[I", Cond.fieldLink RX1 18 "SkipRays$Contacts" "frequency" "[I", Cond.fieldLink RX1 21 "SkipRays$Contacts" "mode" "[I", Cond.fieldLink RX1 24 "SkipRays$Contacts" "hourOf" "[I", Cond.instanceMethod yX2_init, Cond.code yX2_init cX2_init 1 none, Cond.methodLink RX2 3 objectInit, Cond.fieldLink RX2 9 "SkipRays$Entries" "by" "[I", Cond.fieldLink RX2 15 "SkipRays$Entries" "noted" "[I", Cond.fieldLink RX2 18 "SkipRays$Entries" "frequency" "[I", Cond.fieldLink RX2 21 "SkipRays$Entries" "hourOf" "[I", Cond.fieldLink RX2 24 "SkipRays$Entries" "pair" "[I"]
def wsX6_init : List Cond := .code yX6_init cX6_init 1 none :: ((wsX6_init_r1 ++ (wsX6_init_r2 ++ (wsX6_init_r3 ++ wsX6_init_r4))) ++ wsX00 ++ wsX60 ++ wsX30 ++ wsX40 ++ wsX50 ++ wsX10 ++ wsX20)
def wsX6_needRange : List Cond := .code yX6_needRange cX6_needRange 3 none :: ([.classLink RX6 274 "java/lang/IllegalArgumentException", .initialized "java/lang/IllegalArgumentException"] ++ (vx_atS RX6 278 "java/lang/IllegalArgumentException" ["java/lang/RuntimeException", "java/lang/Exception"]).filter goodWord)
def wsX6_sun_r1 : List Cond := [Cond.fieldLink RX6 12 "SkipRays" "air" "LSkipRays$Air;", Cond.fieldLink RX6 16 "SkipRays" "calm" "LSkipRays$Air;", Cond.methodLink RX6 59 yX6_needRange, Cond.static yX6_needRange, Cond.initialized RX6, Cond.code yX6_needRange cX6_needRange 3 none, Cond.classLink RX6 274 "java/lang/IllegalArgumentException", Cond.initialized "java/lang/IllegalArgumentException", Cond.methodLink RX6 67 yX0_shineFrom, Cond.instanceMethod yX0_shineFrom, Cond.selects RX0 yX0_shineFrom yX0_shineFrom, Cond.initialized RX0, Cond.code yX0_shineFrom cX0_shineFrom 2 none, Cond.fieldLink RX0 9 "SkipRays$Air" "sunLevel" "I", Cond.methodLink RX0 27 yX0_settle, Cond.instanceMethod yX0_settle, Cond.selects RX0 yX0_settle yX0_settle, Cond.code yX0_settle cX0_settle 5 none, Cond.fieldLink RX0 42 "SkipRays$Air" "hourNow" "I", Cond.fieldLink RX0 36 "SkipRays$Air" "flareSize" "I", Cond.fieldLink RX0 24 "SkipRays$Air" "densities" "[[I", Cond.fieldLink RX0 15 "SkipRays$Air" "cloudStrength" "[I", Cond.fieldLink RX0 30 "SkipRays$Air" "stormStrength" "I", Cond.methodLink RX0 45 Lib.Math.max.name]
def wsX6_sun_r2 : List Cond := [Cond.static Lib.Math.max.name, Cond.initialized "java/lang/Math", Cond.code Lib.Math.max.name Lib.Math.max.code 2 (some .int), Cond.static yX6_lightIn, Cond.code yX6_lightIn cX6_lightIn 3 (some .int), Cond.methodLink RX6 211 Lib.Math.abs.name, Cond.static Lib.Math.abs.name, Cond.code Lib.Math.abs.name Lib.Math.abs.code 1 (some .int), Cond.methodLink RX6 226 Lib.Math.max.name]
def wsX6_sun : List Cond := .code yX6_sun cX6_sun 3 (some .int) :: ((wsX6_sun_r1 ++ wsX6_sun_r2) ++ wsX60 ++ wsX00 ++ (vx_atS RX6 278 "java/lang/IllegalArgumentException" ["java/lang/RuntimeException", "java/lang/Exception"]).filter goodWord)
def wsX6_storm_r1 : List Cond := [Cond.fieldLink RX6 12 "SkipRays" "air" "LSkipRays$Air;", Cond.methodLink RX6 59 yX6_needRange, Cond.static yX6_needRange, Cond.initialized RX6, Cond.code yX6_needRange cX6_needRange 3 none, Cond.classLink RX6 274 "java/lang/IllegalArgumentException", Cond.initialized "java/lang/IllegalArgumentException", Cond.methodLink RX6 70 yX0_beginStorm, Cond.instanceMethod yX0_beginStorm, Cond.selects RX0 yX0_beginStorm yX0_beginStorm, Cond.initialized RX0, Cond.code yX0_beginStorm cX0_beginStorm 3 none, Cond.fieldLink RX0 30 "SkipRays$Air" "stormStrength" "I", Cond.fieldLink RX0 33 "SkipRays$Air" "stormHours" "I", Cond.methodLink RX0 27 yX0_settle, Cond.instanceMethod yX0_settle, Cond.selects RX0 yX0_settle yX0_settle, Cond.code yX0_settle cX0_settle 5 none, Cond.fieldLink RX0 42 "SkipRays$Air" "hourNow" "I", Cond.fieldLink RX0 36 "SkipRays$Air" "flareSize" "I", Cond.fieldLink RX0 9 "SkipRays$Air" "sunLevel" "I", Cond.fieldLink RX0 24 "SkipRays$Air" "densities" "[[I", Cond.fieldLink RX0 15 "SkipRays$Air" "cloudStrength" "[I", Cond.methodLink RX0 45 Lib.Math.max.name]
def wsX6_storm_r2 : List Cond := [Cond.static Lib.Math.max.name, Cond.initialized "java/lang/Math", Cond.code Lib.Math.max.name Lib.Math.max.code 2 (some .int), Cond.static yX6_lightIn, Cond.code yX6_lightIn cX6_lightIn 3 (some .int), Cond.methodLink RX6 211 Lib.Math.abs.name, Cond.static Lib.Math.abs.name, Cond.code Lib.Math.abs.name Lib.Math.abs.code 1 (some .int), Cond.methodLink RX6 226 Lib.Math.max.name]
def wsX6_storm : List Cond := .code yX6_storm cX6_storm 3 none :: ((wsX6_storm_r1 ++ wsX6_storm_r2) ++ wsX60 ++ wsX00 ++ (vx_atS RX6 278 "java/lang/IllegalArgumentException" ["java/lang/RuntimeException", "java/lang/Exception"]).filter goodWord)
def wsX6_flare_r1 : List Cond := [Cond.fieldLink RX6 12 "SkipRays" "air" "LSkipRays$Air;", Cond.methodLink RX6 59 yX6_needRange, Cond.static yX6_needRange, Cond.initialized RX6, Cond.code yX6_needRange cX6_needRange 3 none, Cond.classLink RX6 274 "java/lang/IllegalArgumentException", Cond.initialized "java/lang/IllegalArgumentException", Cond.methodLink RX6 77 yX0_burst, Cond.instanceMethod yX0_burst, Cond.selects RX0 yX0_burst yX0_burst, Cond.initialized RX0, Cond.code yX0_burst cX0_burst 2 none, Cond.fieldLink RX0 36 "SkipRays$Air" "flareSize" "I", Cond.methodLink RX0 27 yX0_settle, Cond.instanceMethod yX0_settle, Cond.selects RX0 yX0_settle yX0_settle, Cond.code yX0_settle cX0_settle 5 none, Cond.fieldLink RX0 42 "SkipRays$Air" "hourNow" "I", Cond.fieldLink RX0 9 "SkipRays$Air" "sunLevel" "I", Cond.fieldLink RX0 24 "SkipRays$Air" "densities" "[[I", Cond.fieldLink RX0 15 "SkipRays$Air" "cloudStrength" "[I", Cond.fieldLink RX0 30 "SkipRays$Air" "stormStrength" "I", Cond.methodLink RX0 45 Lib.Math.max.name, Cond.static Lib.Math.max.name]
def wsX6_flare_r2 : List Cond := [Cond.initialized "java/lang/Math", Cond.code Lib.Math.max.name Lib.Math.max.code 2 (some .int), Cond.static yX6_lightIn, Cond.code yX6_lightIn cX6_lightIn 3 (some .int), Cond.methodLink RX6 211 Lib.Math.abs.name, Cond.static Lib.Math.abs.name, Cond.code Lib.Math.abs.name Lib.Math.abs.code 1 (some .int), Cond.methodLink RX6 226 Lib.Math.max.name]
def wsX6_flare : List Cond := .code yX6_flare cX6_flare 3 (some .int) :: ((wsX6_flare_r1 ++ wsX6_flare_r2) ++ wsX60 ++ wsX00 ++ (vx_atS RX6 278 "java/lang/IllegalArgumentException" ["java/lang/RuntimeException", "java/lang/Exception"]).filter goodWord)
def wsX6_needPlace : List Cond := .code yX6_needPlace cX6_needPlace 1 none :: ([.classLink RX6 203 "java/lang/IndexOutOfBoundsException", .initialized "java/lang/IndexOutOfBoundsException"] ++ (vx_atS RX6 207 "java/lang/IndexOutOfBoundsException" ["java/lang/RuntimeException", "java/lang/Exception"]).filter goodWord)
def wsX6_cloud_r1 : List Cond := [Cond.fieldLink RX6 12 "SkipRays" "air" "LSkipRays$Air;", Cond.methodLink RX6 80 yX6_needPlace, Cond.static yX6_needPlace, Cond.initialized RX6, Cond.code yX6_needPlace cX6_needPlace 1 none, Cond.classLink RX6 203 "java/lang/IndexOutOfBoundsException", Cond.initialized "java/lang/IndexOutOfBoundsException", Cond.methodLink RX6 59 yX6_needRange, Cond.static yX6_needRange, Cond.code yX6_needRange cX6_needRange 3 none, Cond.classLink RX6 274 "java/lang/IllegalArgumentException", Cond.initialized "java/lang/IllegalArgumentException", Cond.methodLink RX6 83 yX0_coverPlace, Cond.instanceMethod yX0_coverPlace, Cond.selects RX0 yX0_coverPlace yX0_coverPlace, Cond.initialized RX0, Cond.code yX0_coverPlace cX0_coverPlace 4 none, Cond.fieldLink RX0 15 "SkipRays$Air" "cloudStrength" "[I", Cond.fieldLink RX0 19 "SkipRays$Air" "cloudHours" "[I", Cond.methodLink RX0 27 yX0_settle, Cond.instanceMethod yX0_settle, Cond.selects RX0 yX0_settle yX0_settle, Cond.code yX0_settle cX0_settle 5 none, Cond.fieldLink RX0 42 "SkipRays$Air" "hourNow" "I"]
def wsX6_cloud_r2 : List Cond := [Cond.fieldLink RX0 36 "SkipRays$Air" "flareSize" "I", Cond.fieldLink RX0 9 "SkipRays$Air" "sunLevel" "I", Cond.fieldLink RX0 24 "SkipRays$Air" "densities" "[[I", Cond.fieldLink RX0 30 "SkipRays$Air" "stormStrength" "I", Cond.methodLink RX0 45 Lib.Math.max.name, Cond.static Lib.Math.max.name, Cond.initialized "java/lang/Math", Cond.code Lib.Math.max.name Lib.Math.max.code 2 (some .int), Cond.static yX6_lightIn, Cond.code yX6_lightIn cX6_lightIn 3 (some .int), Cond.methodLink RX6 211 Lib.Math.abs.name, Cond.static Lib.Math.abs.name, Cond.code Lib.Math.abs.name Lib.Math.abs.code 1 (some .int), Cond.methodLink RX6 226 Lib.Math.max.name]
def wsX6_cloud : List Cond := .code yX6_cloud cX6_cloud 4 none :: ((wsX6_cloud_r1 ++ wsX6_cloud_r2) ++ wsX60 ++ wsX00 ++ (vx_atS RX6 207 "java/lang/IndexOutOfBoundsException" ["java/lang/RuntimeException", "java/lang/Exception"]).filter goodWord ++ (vx_atS RX6 278 "java/lang/IllegalArgumentException" ["java/lang/RuntimeException", "java/lang/Exception"]).filter goodWord)
def wsX6_sea : List Cond := .code yX6_sea cX6_sea 4 (some .boolean) :: ([.fieldLink RX6 22 "SkipRays" "ground" "LSkipRays$Ground;", .methodLink RX6 80 yX6_needPlace, .static yX6_needPlace, .initialized RX6, .code yX6_needPlace cX6_needPlace 1 none, .classLink RX6 203 "java/lang/IndexOutOfBoundsException", .initialized "java/lang/IndexOutOfBoundsException"] ++ wsX60 ++ wsX30 ++ (vx_atS RX6 207 "java/lang/IndexOutOfBoundsException" ["java/lang/RuntimeException", "java/lang/Exception"]).filter goodWord)
def wsX6_noise : List Cond := .code yX6_noise cX6_noise 4 (some .int) :: ([.fieldLink RX6 22 "SkipRays" "ground" "LSkipRays$Ground;", .methodLink RX6 80 yX6_needPlace, .static yX6_needPlace, .initialized RX6, .code yX6_needPlace cX6_needPlace 1 none, .classLink RX6 203 "java/lang/IndexOutOfBoundsException", .initialized "java/lang/IndexOutOfBoundsException", .methodLink RX6 59 yX6_needRange, .static yX6_needRange, .code yX6_needRange cX6_needRange 3 none, .classLink RX6 274 "java/lang/IllegalArgumentException", .initialized "java/lang/IllegalArgumentException"] ++ wsX60 ++ wsX30 ++ (vx_atS RX6 207 "java/lang/IndexOutOfBoundsException" ["java/lang/RuntimeException", "java/lang/Exception"]).filter goodWord ++ (vx_atS RX6 278 "java/lang/IllegalArgumentException" ["java/lang/RuntimeException", "java/lang/Exception"]).filter goodWord)
def wsX6_pass_r1 : List Cond := [Cond.classLink RX6 97 "java/lang/IllegalStateException", Cond.initialized "java/lang/IllegalStateException", Cond.fieldLink RX6 12 "SkipRays" "air" "LSkipRays$Air;", Cond.fieldLink RX6 16 "SkipRays" "calm" "LSkipRays$Air;", Cond.methodLink RX6 59 yX6_needRange, Cond.static yX6_needRange, Cond.initialized RX6, Cond.code yX6_needRange cX6_needRange 3 none, Cond.classLink RX6 274 "java/lang/IllegalArgumentException", Cond.initialized "java/lang/IllegalArgumentException", Cond.methodLink RX6 104 yX0_letGoBy, Cond.instanceMethod yX0_letGoBy, Cond.selects RX0 yX0_letGoBy yX0_letGoBy, Cond.initialized RX0, Cond.code yX0_letGoBy cX0_letGoBy 3 none, Cond.methodLink RX0 39 yX0_letOneGoBy, Cond.instanceMethod yX0_letOneGoBy, Cond.selects RX0 yX0_letOneGoBy yX0_letOneGoBy, Cond.code yX0_letOneGoBy cX0_letOneGoBy 2 none, Cond.fieldLink RX0 42 "SkipRays$Air" "hourNow" "I", Cond.fieldLink RX0 36 "SkipRays$Air" "flareSize" "I", Cond.fieldLink RX0 33 "SkipRays$Air" "stormHours" "I", Cond.methodLink RX0 45 Lib.Math.max.name, Cond.static Lib.Math.max.name]
def wsX6_pass_r2 : List Cond := [Cond.initialized "java/lang/Math", Cond.code Lib.Math.max.name Lib.Math.max.code 2 (some .int), Cond.fieldLink RX0 30 "SkipRays$Air" "stormStrength" "I", Cond.fieldLink RX0 19 "SkipRays$Air" "cloudHours" "[I", Cond.fieldLink RX0 15 "SkipRays$Air" "cloudStrength" "[I", Cond.methodLink RX0 27 yX0_settle, Cond.instanceMethod yX0_settle, Cond.selects RX0 yX0_settle yX0_settle, Cond.code yX0_settle cX0_settle 5 none, Cond.fieldLink RX0 9 "SkipRays$Air" "sunLevel" "I", Cond.fieldLink RX0 24 "SkipRays$Air" "densities" "[[I", Cond.static yX6_lightIn, Cond.code yX6_lightIn cX6_lightIn 3 (some .int), Cond.methodLink RX6 211 Lib.Math.abs.name, Cond.static Lib.Math.abs.name, Cond.code Lib.Math.abs.name Lib.Math.abs.code 1 (some .int), Cond.methodLink RX6 226 Lib.Math.max.name]
def wsX6_pass : List Cond := .code yX6_pass cX6_pass 2 (some .int) :: ((wsX6_pass_r1 ++ wsX6_pass_r2) ++ wsX60 ++ wsX00 ++ (vx_atS RX6 101 "java/lang/IllegalStateException" ["java/lang/RuntimeException", "java/lang/Exception"]).filter goodWord ++ (vx_atS RX6 278 "java/lang/IllegalArgumentException" ["java/lang/RuntimeException", "java/lang/Exception"]).filter goodWord)
def wsX6_station_r1 : List Cond := [Cond.classLink RX6 97 "java/lang/IllegalStateException", Cond.initialized "java/lang/IllegalStateException", Cond.fieldLink RX6 38 "SkipRays" "stations" "LSkipRays$Senders;", Cond.methodLink RX6 80 yX6_needPlace, Cond.static yX6_needPlace, Cond.initialized RX6, Cond.code yX6_needPlace cX6_needPlace 1 none, Cond.classLink RX6 203 "java/lang/IndexOutOfBoundsException", Cond.initialized "java/lang/IndexOutOfBoundsException", Cond.methodLink RX6 59 yX6_needRange, Cond.static yX6_needRange, Cond.code yX6_needRange cX6_needRange 3 none, Cond.classLink RX6 274 "java/lang/IllegalArgumentException", Cond.initialized "java/lang/IllegalArgumentException", Cond.methodLink RX6 107 yX5_isFull, Cond.instanceMethod yX5_isFull, Cond.selects RX5 yX5_isFull yX5_isFull, Cond.initialized RX5, Cond.code yX5_isFull cX5_isFull 1 (some .boolean), Cond.fieldLink RX5 27 "SkipRays$Senders" "made" "I", Cond.fieldLink RX5 9 "SkipRays$Senders" "place" "[I", Cond.methodLink RX6 113 yX5_add, Cond.instanceMethod yX5_add, Cond.selects RX5 yX5_add yX5_add]
def wsX6_station_r2 : List Cond := [Cond.code yX5_add cX5_add 7 (some .int), Cond.fieldLink RX5 15 "SkipRays$Senders" "power" "[I", Cond.fieldLink RX5 18 "SkipRays$Senders" "antenna" "[I", Cond.fieldLink RX5 21 "SkipRays$Senders" "heading" "[I", Cond.fieldLink RX5 24 "SkipRays$Senders" "frequency" "[I"]
def wsX6_station : List Cond := .code yX6_station cX6_station 5 (some .int) :: ((wsX6_station_r1 ++ wsX6_station_r2) ++ wsX60 ++ wsX50 ++ (vx_atS RX6 101 "java/lang/IllegalStateException" ["java/lang/RuntimeException", "java/lang/Exception"]).filter goodWord ++ (vx_atS RX6 207 "java/lang/IndexOutOfBoundsException" ["java/lang/RuntimeException", "java/lang/Exception"]).filter goodWord ++ (vx_atS RX6 278 "java/lang/IllegalArgumentException" ["java/lang/RuntimeException", "java/lang/Exception"]).filter goodWord)
def wsX6_needFrequency : List Cond := .code yX6_needFrequency cX6_needFrequency 1 none :: ([.methodLink RX6 59 yX6_needRange, .static yX6_needRange, .initialized RX6, .code yX6_needRange cX6_needRange 3 none, .classLink RX6 274 "java/lang/IllegalArgumentException", .initialized "java/lang/IllegalArgumentException"] ++ (vx_atS RX6 278 "java/lang/IllegalArgumentException" ["java/lang/RuntimeException", "java/lang/Exception"]).filter goodWord)
def wsX6_beacon_r1 : List Cond := [Cond.classLink RX6 97 "java/lang/IllegalStateException", Cond.initialized "java/lang/IllegalStateException", Cond.fieldLink RX6 42 "SkipRays" "beacons" "LSkipRays$Senders;", Cond.methodLink RX6 80 yX6_needPlace, Cond.static yX6_needPlace, Cond.initialized RX6, Cond.code yX6_needPlace cX6_needPlace 1 none, Cond.classLink RX6 203 "java/lang/IndexOutOfBoundsException", Cond.initialized "java/lang/IndexOutOfBoundsException", Cond.methodLink RX6 117 yX6_needFrequency, Cond.static yX6_needFrequency, Cond.code yX6_needFrequency cX6_needFrequency 1 none, Cond.methodLink RX6 59 yX6_needRange, Cond.static yX6_needRange, Cond.code yX6_needRange cX6_needRange 3 none, Cond.classLink RX6 274 "java/lang/IllegalArgumentException", Cond.initialized "java/lang/IllegalArgumentException", Cond.methodLink RX6 107 yX5_isFull, Cond.instanceMethod yX5_isFull, Cond.selects RX5 yX5_isFull yX5_isFull, Cond.initialized RX5, Cond.code yX5_isFull cX5_isFull 1 (some .boolean), Cond.fieldLink RX5 27 "SkipRays$Senders" "made" "I", Cond.fieldLink RX5 9 "SkipRays$Senders" "place" "[I"]
def wsX6_beacon_r2 : List Cond := [Cond.methodLink RX6 113 yX5_add, Cond.instanceMethod yX5_add, Cond.selects RX5 yX5_add yX5_add, Cond.code yX5_add cX5_add 7 (some .int), Cond.fieldLink RX5 15 "SkipRays$Senders" "power" "[I", Cond.fieldLink RX5 18 "SkipRays$Senders" "antenna" "[I", Cond.fieldLink RX5 21 "SkipRays$Senders" "heading" "[I", Cond.fieldLink RX5 24 "SkipRays$Senders" "frequency" "[I"]
def wsX6_beacon : List Cond := .code yX6_beacon cX6_beacon 4 (some .int) :: ((wsX6_beacon_r1 ++ wsX6_beacon_r2) ++ wsX60 ++ wsX50 ++ (vx_atS RX6 101 "java/lang/IllegalStateException" ["java/lang/RuntimeException", "java/lang/Exception"]).filter goodWord ++ (vx_atS RX6 207 "java/lang/IndexOutOfBoundsException" ["java/lang/RuntimeException", "java/lang/Exception"]).filter goodWord ++ (vx_atS RX6 278 "java/lang/IllegalArgumentException" ["java/lang/RuntimeException", "java/lang/Exception"]).filter goodWord)
def wsX6_needStation : List Cond := .code yX6_needStation cX6_needStation 2 none :: ([.classLink RX6 203 "java/lang/IndexOutOfBoundsException", .initialized "java/lang/IndexOutOfBoundsException", .fieldLink RX6 38 "SkipRays" "stations" "LSkipRays$Senders;", .methodLink RX6 281 yX5_has, .instanceMethod yX5_has, .selects RX5 yX5_has yX5_has, .initialized RX5, .code yX5_has cX5_has 2 (some .boolean), .fieldLink RX5 27 "SkipRays$Senders" "made" "I"] ++ wsX60 ++ wsX50 ++ (vx_atS RX6 207 "java/lang/IndexOutOfBoundsException" ["java/lang/RuntimeException", "java/lang/Exception"]).filter goodWord)
def wsX6_needDifferent : List Cond := .code yX6_needDifferent cX6_needDifferent 2 none :: ([.classLink RX6 274 "java/lang/IllegalArgumentException", .initialized "java/lang/IllegalArgumentException"] ++ (vx_atS RX6 278 "java/lang/IllegalArgumentException" ["java/lang/RuntimeException", "java/lang/Exception"]).filter goodWord)
def wsX6_neededFor : List Cond := .code yX6_neededFor cX6_neededFor 1 (some .int) :: ([])
def wsX6_directionOf : List Cond := .code yX6_directionOf cX6_directionOf 1 (some .int) :: ([])
def wsX6_angleOf : List Cond := .code yX6_angleOf cX6_angleOf 1 (some .int) :: ([])
def wsX6_reaches_r1 : List Cond := [Cond.fieldLink RX6 29 "SkipRays" "ray" "LSkipRays$Ray;", Cond.fieldLink RX6 22 "SkipRays" "ground" "LSkipRays$Ground;", Cond.methodLink RX6 288 yX6_directionOf, Cond.static yX6_directionOf, Cond.initialized RX6, Cond.code yX6_directionOf cX6_directionOf 1 (some .int), Cond.methodLink RX6 291 yX6_angleOf, Cond.static yX6_angleOf, Cond.code yX6_angleOf cX6_angleOf 1 (some .int), Cond.methodLink RX6 294 yX4_leave, Cond.instanceMethod yX4_leave, Cond.selects RX4 yX4_leave yX4_leave, Cond.initialized RX4, Cond.code yX4_leave cX4_leave 6 none, Cond.fieldLink RX4 9 "SkipRays$Ray" "place" "I", Cond.fieldLink RX4 15 "SkipRays$Ray" "direction" "I", Cond.fieldLink RX4 18 "SkipRays$Ray" "angle" "I", Cond.fieldLink RX4 21 "SkipRays$Ray" "frequency" "I", Cond.fieldLink RX4 24 "SkipRays$Ray" "strength" "I", Cond.fieldLink RX4 27 "SkipRays$Ray" "legs" "I", Cond.fieldLink RX4 30 "SkipRays$Ray" "legsByE" "I", Cond.fieldLink RX4 33 "SkipRays$Ray" "delay" "I", Cond.methodLink RX6 297 yX4_goOn, Cond.instanceMethod yX4_goOn]
def wsX6_reaches_r2 : List Cond := [Cond.selects RX4 yX4_goOn yX4_goOn, Cond.code yX4_goOn cX4_goOn 9 (some .boolean), Cond.methodLink RX4 36 yX0_bender, Cond.instanceMethod yX0_bender, Cond.selects RX0 yX0_bender yX0_bender, Cond.initialized RX0, Cond.code yX0_bender cX0_bender 7 (some .int), Cond.fieldLink RX0 24 "SkipRays$Air" "densities" "[[I", Cond.static yX6_lengthBy, Cond.code yX6_lengthBy cX6_lengthBy 2 (some .int), Cond.static yX6_ring, Cond.code yX6_ring cX6_ring 2 (some .int), Cond.static yX6_bends, Cond.code yX6_bends cX6_bends 3 (some .boolean), Cond.methodLink RX4 54 yX3_takes, Cond.instanceMethod yX3_takes, Cond.selects RX3 yX3_takes yX3_takes, Cond.initialized RX3, Cond.code yX3_takes cX3_takes 2 (some .int), Cond.fieldLink RX3 9 "SkipRays$Ground" "isSea" "[Z"]
def wsX6_reaches : List Cond := .code yX6_reaches cX6_reaches 8 (some .boolean) :: ((wsX6_reaches_r1 ++ wsX6_reaches_r2) ++ wsX60 ++ wsX40 ++ wsX00 ++ wsX30)
def wsX6_noiseNow : List Cond := .code yX6_noiseNow cX6_noiseNow 3 (some .int) :: ([.fieldLink RX6 12 "SkipRays" "air" "LSkipRays$Air;", .fieldLink RX6 22 "SkipRays" "ground" "LSkipRays$Ground;", .methodLink RX6 164 yX6_lightIn, .static yX6_lightIn, .initialized RX6, .code yX6_lightIn cX6_lightIn 3 (some .int), .methodLink RX6 211 Lib.Math.abs.name, .static Lib.Math.abs.name, .initialized "java/lang/Math", .code Lib.Math.abs.name Lib.Math.abs.code 1 (some .int), .methodLink RX6 226 Lib.Math.max.name, .static Lib.Math.max.name, .code Lib.Math.max.name Lib.Math.max.code 2 (some .int)] ++ wsX60 ++ wsX00 ++ wsX30)
def wsX6_signalAt_r1 : List Cond := [Cond.fieldLink RX6 29 "SkipRays" "ray" "LSkipRays$Ray;", Cond.methodLink RX6 226 Lib.Math.max.name, Cond.static Lib.Math.max.name, Cond.initialized "java/lang/Math", Cond.code Lib.Math.max.name Lib.Math.max.code 2 (some .int), Cond.methodLink RX6 288 yX6_directionOf, Cond.static yX6_directionOf, Cond.initialized RX6, Cond.code yX6_directionOf cX6_directionOf 1 (some .int), Cond.methodLink RX6 291 yX6_angleOf, Cond.static yX6_angleOf, Cond.code yX6_angleOf cX6_angleOf 1 (some .int), Cond.methodLink RX6 303 yX5_strengthAtFirst, Cond.instanceMethod yX5_strengthAtFirst, Cond.selects RX5 yX5_strengthAtFirst yX5_strengthAtFirst, Cond.initialized RX5, Cond.code yX5_strengthAtFirst cX5_strengthAtFirst 4 (some .int), Cond.fieldLink RX5 15 "SkipRays$Senders" "power" "[I", Cond.fieldLink RX5 18 "SkipRays$Senders" "antenna" "[I", Cond.fieldLink RX5 21 "SkipRays$Senders" "heading" "[I", Cond.methodLink RX5 31 yX5_gain, Cond.static yX5_gain, Cond.code yX5_gain cX5_gain 2 (some .int), Cond.methodLink RX5 35 yX5_aside]
def wsX6_signalAt_r2 : List Cond := [Cond.static yX5_aside, Cond.code yX5_aside cX5_aside 2 (some .int), Cond.methodLink RX6 196 yX6_reaches, Cond.instanceMethod yX6_reaches, Cond.selects RX6 yX6_reaches yX6_reaches, Cond.code yX6_reaches cX6_reaches 8 (some .boolean), Cond.fieldLink RX6 22 "SkipRays" "ground" "LSkipRays$Ground;", Cond.methodLink RX6 294 yX4_leave, Cond.instanceMethod yX4_leave, Cond.selects RX4 yX4_leave yX4_leave, Cond.initialized RX4, Cond.code yX4_leave cX4_leave 6 none, Cond.fieldLink RX4 9 "SkipRays$Ray" "place" "I", Cond.fieldLink RX4 15 "SkipRays$Ray" "direction" "I", Cond.fieldLink RX4 18 "SkipRays$Ray" "angle" "I", Cond.fieldLink RX4 21 "SkipRays$Ray" "frequency" "I", Cond.fieldLink RX4 24 "SkipRays$Ray" "strength" "I", Cond.fieldLink RX4 27 "SkipRays$Ray" "legs" "I", Cond.fieldLink RX4 30 "SkipRays$Ray" "legsByE" "I", Cond.fieldLink RX4 33 "SkipRays$Ray" "delay" "I", Cond.methodLink RX6 297 yX4_goOn, Cond.instanceMethod yX4_goOn, Cond.selects RX4 yX4_goOn yX4_goOn, Cond.code yX4_goOn cX4_goOn 9 (some .boolean)]
def wsX6_signalAt_r3 : List Cond := [Cond.methodLink RX4 36 yX0_bender, Cond.instanceMethod yX0_bender, Cond.selects RX0 yX0_bender yX0_bender, Cond.initialized RX0, Cond.code yX0_bender cX0_bender 7 (some .int), Cond.fieldLink RX0 24 "SkipRays$Air" "densities" "[[I", Cond.static yX6_lengthBy, Cond.code yX6_lengthBy cX6_lengthBy 2 (some .int), Cond.static yX6_ring, Cond.code yX6_ring cX6_ring 2 (some .int), Cond.static yX6_bends, Cond.code yX6_bends cX6_bends 3 (some .boolean), Cond.methodLink RX4 54 yX3_takes, Cond.instanceMethod yX3_takes, Cond.selects RX3 yX3_takes yX3_takes, Cond.initialized RX3, Cond.code yX3_takes cX3_takes 2 (some .int), Cond.fieldLink RX3 9 "SkipRays$Ground" "isSea" "[Z", Cond.methodLink RX6 309 yX6_noiseNow, Cond.instanceMethod yX6_noiseNow, Cond.selects RX6 yX6_noiseNow yX6_noiseNow, Cond.code yX6_noiseNow cX6_noiseNow 3 (some .int), Cond.fieldLink RX6 12 "SkipRays" "air" "LSkipRays$Air;", Cond.methodLink RX6 164 yX6_lightIn]
def wsX6_signalAt_r4 : List Cond := [Cond.static yX6_lightIn, Cond.code yX6_lightIn cX6_lightIn 3 (some .int), Cond.methodLink RX6 211 Lib.Math.abs.name, Cond.static Lib.Math.abs.name, Cond.code Lib.Math.abs.name Lib.Math.abs.code 1 (some .int)]
def wsX6_signalAt : List Cond := .code yX6_signalAt cX6_signalAt 9 (some .int) :: ((wsX6_signalAt_r1 ++ (wsX6_signalAt_r2 ++ (wsX6_signalAt_r3 ++ wsX6_signalAt_r4))) ++ wsX50 ++ wsX60 ++ wsX40 ++ wsX00 ++ wsX30)
def wsX6_signalBetween_r1 : List Cond := [Cond.fieldLink RX6 12 "SkipRays" "air" "LSkipRays$Air;", Cond.fieldLink RX6 38 "SkipRays" "stations" "LSkipRays$Senders;", Cond.methodLink RX6 154 yX6_signalAt, Cond.instanceMethod yX6_signalAt, Cond.selects RX6 yX6_signalAt yX6_signalAt, Cond.initialized RX6, Cond.code yX6_signalAt cX6_signalAt 9 (some .int), Cond.fieldLink RX6 29 "SkipRays" "ray" "LSkipRays$Ray;", Cond.methodLink RX6 226 Lib.Math.max.name, Cond.static Lib.Math.max.name, Cond.initialized "java/lang/Math", Cond.code Lib.Math.max.name Lib.Math.max.code 2 (some .int), Cond.methodLink RX6 288 yX6_directionOf, Cond.static yX6_directionOf, Cond.code yX6_directionOf cX6_directionOf 1 (some .int), Cond.methodLink RX6 291 yX6_angleOf, Cond.static yX6_angleOf, Cond.code yX6_angleOf cX6_angleOf 1 (some .int), Cond.methodLink RX6 303 yX5_strengthAtFirst, Cond.instanceMethod yX5_strengthAtFirst, Cond.selects RX5 yX5_strengthAtFirst yX5_strengthAtFirst, Cond.initialized RX5, Cond.code yX5_strengthAtFirst cX5_strengthAtFirst 4 (some .int), Cond.fieldLink RX5 15 "SkipRays$Senders" "power" "[I"]
def wsX6_signalBetween_r2 : List Cond := [Cond.fieldLink RX5 18 "SkipRays$Senders" "antenna" "[I", Cond.fieldLink RX5 21 "SkipRays$Senders" "heading" "[I", Cond.methodLink RX5 31 yX5_gain, Cond.static yX5_gain, Cond.code yX5_gain cX5_gain 2 (some .int), Cond.methodLink RX5 35 yX5_aside, Cond.static yX5_aside, Cond.code yX5_aside cX5_aside 2 (some .int), Cond.methodLink RX6 196 yX6_reaches, Cond.instanceMethod yX6_reaches, Cond.selects RX6 yX6_reaches yX6_reaches, Cond.code yX6_reaches cX6_reaches 8 (some .boolean), Cond.fieldLink RX6 22 "SkipRays" "ground" "LSkipRays$Ground;", Cond.methodLink RX6 294 yX4_leave, Cond.instanceMethod yX4_leave, Cond.selects RX4 yX4_leave yX4_leave, Cond.initialized RX4, Cond.code yX4_leave cX4_leave 6 none, Cond.fieldLink RX4 9 "SkipRays$Ray" "place" "I", Cond.fieldLink RX4 15 "SkipRays$Ray" "direction" "I", Cond.fieldLink RX4 18 "SkipRays$Ray" "angle" "I", Cond.fieldLink RX4 21 "SkipRays$Ray" "frequency" "I", Cond.fieldLink RX4 24 "SkipRays$Ray" "strength" "I", Cond.fieldLink RX4 27 "SkipRays$Ray" "legs" "I"]
def wsX6_signalBetween_r3 : List Cond := [Cond.fieldLink RX4 30 "SkipRays$Ray" "legsByE" "I", Cond.fieldLink RX4 33 "SkipRays$Ray" "delay" "I", Cond.methodLink RX6 297 yX4_goOn, Cond.instanceMethod yX4_goOn, Cond.selects RX4 yX4_goOn yX4_goOn, Cond.code yX4_goOn cX4_goOn 9 (some .boolean), Cond.methodLink RX4 36 yX0_bender, Cond.instanceMethod yX0_bender, Cond.selects RX0 yX0_bender yX0_bender, Cond.initialized RX0, Cond.code yX0_bender cX0_bender 7 (some .int), Cond.fieldLink RX0 24 "SkipRays$Air" "densities" "[[I", Cond.static yX6_lengthBy, Cond.code yX6_lengthBy cX6_lengthBy 2 (some .int), Cond.static yX6_ring, Cond.code yX6_ring cX6_ring 2 (some .int), Cond.static yX6_bends, Cond.code yX6_bends cX6_bends 3 (some .boolean), Cond.methodLink RX4 54 yX3_takes, Cond.instanceMethod yX3_takes, Cond.selects RX3 yX3_takes yX3_takes, Cond.initialized RX3, Cond.code yX3_takes cX3_takes 2 (some .int), Cond.fieldLink RX3 9 "SkipRays$Ground" "isSea" "[Z"]
def wsX6_signalBetween_r4 : List Cond := [Cond.methodLink RX6 309 yX6_noiseNow, Cond.instanceMethod yX6_noiseNow, Cond.selects RX6 yX6_noiseNow yX6_noiseNow, Cond.code yX6_noiseNow cX6_noiseNow 3 (some .int), Cond.methodLink RX6 164 yX6_lightIn, Cond.static yX6_lightIn, Cond.code yX6_lightIn cX6_lightIn 3 (some .int), Cond.methodLink RX6 211 Lib.Math.abs.name, Cond.static Lib.Math.abs.name, Cond.code Lib.Math.abs.name Lib.Math.abs.code 1 (some .int)]
def wsX6_signalBetween : List Cond := .code yX6_signalBetween cX6_signalBetween 4 (some .int) :: ((wsX6_signalBetween_r1 ++ (wsX6_signalBetween_r2 ++ (wsX6_signalBetween_r3 ++ wsX6_signalBetween_r4))) ++ wsX60 ++ wsX50 ++ wsX40 ++ wsX00 ++ wsX30)
def wsX6_call_r1 : List Cond := [Cond.classLink RX6 97 "java/lang/IllegalStateException", Cond.initialized "java/lang/IllegalStateException", Cond.fieldLink RX6 48 "SkipRays" "contacts" "LSkipRays$Contacts;", Cond.fieldLink RX6 12 "SkipRays" "air" "LSkipRays$Air;", Cond.methodLink RX6 122 yX6_needStation, Cond.instanceMethod yX6_needStation, Cond.selects RX6 yX6_needStation yX6_needStation, Cond.initialized RX6, Cond.code yX6_needStation cX6_needStation 2 none, Cond.classLink RX6 203 "java/lang/IndexOutOfBoundsException", Cond.initialized "java/lang/IndexOutOfBoundsException", Cond.fieldLink RX6 38 "SkipRays" "stations" "LSkipRays$Senders;", Cond.methodLink RX6 281 yX5_has, Cond.instanceMethod yX5_has, Cond.selects RX5 yX5_has yX5_has, Cond.initialized RX5, Cond.code yX5_has cX5_has 2 (some .boolean), Cond.fieldLink RX5 27 "SkipRays$Senders" "made" "I", Cond.methodLink RX6 117 yX6_needFrequency, Cond.static yX6_needFrequency, Cond.code yX6_needFrequency cX6_needFrequency 1 none, Cond.methodLink RX6 59 yX6_needRange, Cond.static yX6_needRange, Cond.code yX6_needRange cX6_needRange 3 none]
def wsX6_call_r2 : List Cond := [Cond.classLink RX6 274 "java/lang/IllegalArgumentException", Cond.initialized "java/lang/IllegalArgumentException", Cond.methodLink RX6 125 yX6_needDifferent, Cond.static yX6_needDifferent, Cond.code yX6_needDifferent cX6_needDifferent 2 none, Cond.methodLink RX6 128 yX1_isFull, Cond.instanceMethod yX1_isFull, Cond.selects RX1 yX1_isFull yX1_isFull, Cond.initialized RX1, Cond.code yX1_isFull cX1_isFull 1 (some .boolean), Cond.fieldLink RX1 27 "SkipRays$Contacts" "made" "I", Cond.methodLink RX6 131 yX6_neededFor, Cond.static yX6_neededFor, Cond.code yX6_neededFor cX6_neededFor 1 (some .int), Cond.methodLink RX6 135 yX6_signalBetween, Cond.instanceMethod yX6_signalBetween, Cond.selects RX6 yX6_signalBetween yX6_signalBetween, Cond.code yX6_signalBetween cX6_signalBetween 4 (some .int), Cond.methodLink RX6 154 yX6_signalAt, Cond.instanceMethod yX6_signalAt, Cond.selects RX6 yX6_signalAt yX6_signalAt, Cond.code yX6_signalAt cX6_signalAt 9 (some .int), Cond.fieldLink RX6 29 "SkipRays" "ray" "LSkipRays$Ray;", Cond.methodLink RX6 226 Lib.Math.max.name]
def wsX6_call_r3 : List Cond := [Cond.static Lib.Math.max.name, Cond.initialized "java/lang/Math", Cond.code Lib.Math.max.name Lib.Math.max.code 2 (some .int), Cond.methodLink RX6 288 yX6_directionOf, Cond.static yX6_directionOf, Cond.code yX6_directionOf cX6_directionOf 1 (some .int), Cond.methodLink RX6 291 yX6_angleOf, Cond.static yX6_angleOf, Cond.code yX6_angleOf cX6_angleOf 1 (some .int), Cond.methodLink RX6 303 yX5_strengthAtFirst, Cond.instanceMethod yX5_strengthAtFirst, Cond.selects RX5 yX5_strengthAtFirst yX5_strengthAtFirst, Cond.code yX5_strengthAtFirst cX5_strengthAtFirst 4 (some .int), Cond.fieldLink RX5 15 "SkipRays$Senders" "power" "[I", Cond.fieldLink RX5 18 "SkipRays$Senders" "antenna" "[I", Cond.fieldLink RX5 21 "SkipRays$Senders" "heading" "[I", Cond.methodLink RX5 31 yX5_gain, Cond.static yX5_gain, Cond.code yX5_gain cX5_gain 2 (some .int), Cond.methodLink RX5 35 yX5_aside, Cond.static yX5_aside, Cond.code yX5_aside cX5_aside 2 (some .int), Cond.methodLink RX6 196 yX6_reaches, Cond.instanceMethod yX6_reaches]
def wsX6_call_r4 : List Cond := [Cond.selects RX6 yX6_reaches yX6_reaches, Cond.code yX6_reaches cX6_reaches 8 (some .boolean), Cond.fieldLink RX6 22 "SkipRays" "ground" "LSkipRays$Ground;", Cond.methodLink RX6 294 yX4_leave, Cond.instanceMethod yX4_leave, Cond.selects RX4 yX4_leave yX4_leave, Cond.initialized RX4, Cond.code yX4_leave cX4_leave 6 none, Cond.fieldLink RX4 9 "SkipRays$Ray" "place" "I", Cond.fieldLink RX4 15 "SkipRays$Ray" "direction" "I", Cond.fieldLink RX4 18 "SkipRays$Ray" "angle" "I", Cond.fieldLink RX4 21 "SkipRays$Ray" "frequency" "I", Cond.fieldLink RX4 24 "SkipRays$Ray" "strength" "I", Cond.fieldLink RX4 27 "SkipRays$Ray" "legs" "I", Cond.fieldLink RX4 30 "SkipRays$Ray" "legsByE" "I", Cond.fieldLink RX4 33 "SkipRays$Ray" "delay" "I", Cond.methodLink RX6 297 yX4_goOn, Cond.instanceMethod yX4_goOn, Cond.selects RX4 yX4_goOn yX4_goOn, Cond.code yX4_goOn cX4_goOn 9 (some .boolean), Cond.methodLink RX4 36 yX0_bender, Cond.instanceMethod yX0_bender, Cond.selects RX0 yX0_bender yX0_bender, Cond.initialized RX0]
def wsX6_call_r5 : List Cond := [Cond.code yX0_bender cX0_bender 7 (some .int), Cond.fieldLink RX0 24 "SkipRays$Air" "densities" "[[I", Cond.static yX6_lengthBy, Cond.code yX6_lengthBy cX6_lengthBy 2 (some .int), Cond.static yX6_ring, Cond.code yX6_ring cX6_ring 2 (some .int), Cond.static yX6_bends, Cond.code yX6_bends cX6_bends 3 (some .boolean), Cond.methodLink RX4 54 yX3_takes, Cond.instanceMethod yX3_takes, Cond.selects RX3 yX3_takes yX3_takes, Cond.initialized RX3, Cond.code yX3_takes cX3_takes 2 (some .int), Cond.fieldLink RX3 9 "SkipRays$Ground" "isSea" "[Z", Cond.methodLink RX6 309 yX6_noiseNow, Cond.instanceMethod yX6_noiseNow, Cond.selects RX6 yX6_noiseNow yX6_noiseNow, Cond.code yX6_noiseNow cX6_noiseNow 3 (some .int), Cond.methodLink RX6 164 yX6_lightIn, Cond.static yX6_lightIn, Cond.code yX6_lightIn cX6_lightIn 3 (some .int), Cond.methodLink RX6 211 Lib.Math.abs.name, Cond.static Lib.Math.abs.name, Cond.code Lib.Math.abs.name Lib.Math.abs.code 1 (some .int)]
def wsX6_call_r6 : List Cond := [Cond.methodLink RX6 139 yX1_add, Cond.instanceMethod yX1_add, Cond.selects RX1 yX1_add yX1_add, Cond.code yX1_add cX1_add 6 none, Cond.fieldLink RX1 9 "SkipRays$Contacts" "caller" "[I", Cond.fieldLink RX1 15 "SkipRays$Contacts" "called" "[I", Cond.fieldLink RX1 18 "SkipRays$Contacts" "frequency" "[I", Cond.fieldLink RX1 21 "SkipRays$Contacts" "mode" "[I", Cond.fieldLink RX1 24 "SkipRays$Contacts" "hourOf" "[I"]
def wsX6_call : List Cond := .code yX6_call cX6_call 6 (some .boolean) :: ((wsX6_call_r1 ++ (wsX6_call_r2 ++ (wsX6_call_r3 ++ (wsX6_call_r4 ++ (wsX6_call_r5 ++ wsX6_call_r6))))) ++ wsX60 ++ wsX00 ++ wsX50 ++ wsX10 ++ wsX40 ++ wsX30 ++ (vx_atS RX6 101 "java/lang/IllegalStateException" ["java/lang/RuntimeException", "java/lang/Exception"]).filter goodWord ++ (vx_atS RX6 207 "java/lang/IndexOutOfBoundsException" ["java/lang/RuntimeException", "java/lang/Exception"]).filter goodWord ++ (vx_atS RX6 278 "java/lang/IllegalArgumentException" ["java/lang/RuntimeException", "java/lang/Exception"]).filter goodWord)
def wsX6_log_r1 : List Cond := [Cond.classLink RX6 97 "java/lang/IllegalStateException", Cond.initialized "java/lang/IllegalStateException", Cond.fieldLink RX6 55 "SkipRays" "entries" "LSkipRays$Entries;", Cond.fieldLink RX6 12 "SkipRays" "air" "LSkipRays$Air;", Cond.methodLink RX6 122 yX6_needStation, Cond.instanceMethod yX6_needStation, Cond.selects RX6 yX6_needStation yX6_needStation, Cond.initialized RX6, Cond.code yX6_needStation cX6_needStation 2 none, Cond.classLink RX6 203 "java/lang/IndexOutOfBoundsException", Cond.initialized "java/lang/IndexOutOfBoundsException", Cond.fieldLink RX6 38 "SkipRays" "stations" "LSkipRays$Senders;", Cond.methodLink RX6 281 yX5_has, Cond.instanceMethod yX5_has, Cond.selects RX5 yX5_has yX5_has, Cond.initialized RX5, Cond.code yX5_has cX5_has 2 (some .boolean), Cond.fieldLink RX5 27 "SkipRays$Senders" "made" "I", Cond.methodLink RX6 117 yX6_needFrequency, Cond.static yX6_needFrequency, Cond.code yX6_needFrequency cX6_needFrequency 1 none, Cond.methodLink RX6 59 yX6_needRange, Cond.static yX6_needRange, Cond.code yX6_needRange cX6_needRange 3 none]
def wsX6_log_r2 : List Cond := [Cond.classLink RX6 274 "java/lang/IllegalArgumentException", Cond.initialized "java/lang/IllegalArgumentException", Cond.methodLink RX6 125 yX6_needDifferent, Cond.static yX6_needDifferent, Cond.code yX6_needDifferent cX6_needDifferent 2 none, Cond.methodLink RX6 142 yX2_isFull, Cond.instanceMethod yX2_isFull, Cond.selects RX2 yX2_isFull yX2_isFull, Cond.initialized RX2, Cond.code yX2_isFull cX2_isFull 1 (some .boolean), Cond.fieldLink RX2 27 "SkipRays$Entries" "made" "I", Cond.methodLink RX6 145 yX2_add, Cond.instanceMethod yX2_add, Cond.selects RX2 yX2_add yX2_add, Cond.code yX2_add cX2_add 7 (some .int), Cond.fieldLink RX2 9 "SkipRays$Entries" "by" "[I", Cond.fieldLink RX2 15 "SkipRays$Entries" "noted" "[I", Cond.fieldLink RX2 18 "SkipRays$Entries" "frequency" "[I", Cond.fieldLink RX2 21 "SkipRays$Entries" "hourOf" "[I", Cond.fieldLink RX2 24 "SkipRays$Entries" "pair" "[I", Cond.fieldLink RX2 35 "SkipRays$Entries" "paired" "I", Cond.methodLink RX2 31 yX2_partnerFor, Cond.instanceMethod yX2_partnerFor, Cond.selects RX2 yX2_partnerFor yX2_partnerFor]
def wsX6_log_r3 : List Cond := [Cond.code yX2_partnerFor cX2_partnerFor 6 (some .int)]
def wsX6_log : List Cond := .code yX6_log cX6_log 4 (some .int) :: ((wsX6_log_r1 ++ (wsX6_log_r2 ++ wsX6_log_r3)) ++ wsX60 ++ wsX00 ++ wsX50 ++ wsX20 ++ (vx_atS RX6 101 "java/lang/IllegalStateException" ["java/lang/RuntimeException", "java/lang/Exception"]).filter goodWord ++ (vx_atS RX6 207 "java/lang/IndexOutOfBoundsException" ["java/lang/RuntimeException", "java/lang/Exception"]).filter goodWord ++ (vx_atS RX6 278 "java/lang/IllegalArgumentException" ["java/lang/RuntimeException", "java/lang/Exception"]).filter goodWord)
def wsX6_listen_r1 : List Cond := [Cond.fieldLink RX6 42 "SkipRays" "beacons" "LSkipRays$Senders;", Cond.fieldLink RX6 12 "SkipRays" "air" "LSkipRays$Air;", Cond.fieldLink RX6 16 "SkipRays" "calm" "LSkipRays$Air;", Cond.fieldLink RX6 158 "SkipRays" "forecastsRight" "I", Cond.fieldLink RX6 161 "SkipRays" "forecastsMade" "I", Cond.methodLink RX6 80 yX6_needPlace, Cond.static yX6_needPlace, Cond.initialized RX6, Cond.code yX6_needPlace cX6_needPlace 1 none, Cond.classLink RX6 203 "java/lang/IndexOutOfBoundsException", Cond.initialized "java/lang/IndexOutOfBoundsException", Cond.methodLink RX6 154 yX6_signalAt, Cond.instanceMethod yX6_signalAt, Cond.selects RX6 yX6_signalAt yX6_signalAt, Cond.code yX6_signalAt cX6_signalAt 9 (some .int), Cond.fieldLink RX6 29 "SkipRays" "ray" "LSkipRays$Ray;", Cond.methodLink RX6 226 Lib.Math.max.name, Cond.static Lib.Math.max.name, Cond.initialized "java/lang/Math", Cond.code Lib.Math.max.name Lib.Math.max.code 2 (some .int), Cond.methodLink RX6 288 yX6_directionOf, Cond.static yX6_directionOf, Cond.code yX6_directionOf cX6_directionOf 1 (some .int), Cond.methodLink RX6 291 yX6_angleOf]
def wsX6_listen_r2 : List Cond := [Cond.static yX6_angleOf, Cond.code yX6_angleOf cX6_angleOf 1 (some .int), Cond.methodLink RX6 303 yX5_strengthAtFirst, Cond.instanceMethod yX5_strengthAtFirst, Cond.selects RX5 yX5_strengthAtFirst yX5_strengthAtFirst, Cond.initialized RX5, Cond.code yX5_strengthAtFirst cX5_strengthAtFirst 4 (some .int), Cond.fieldLink RX5 15 "SkipRays$Senders" "power" "[I", Cond.fieldLink RX5 18 "SkipRays$Senders" "antenna" "[I", Cond.fieldLink RX5 21 "SkipRays$Senders" "heading" "[I", Cond.methodLink RX5 31 yX5_gain, Cond.static yX5_gain, Cond.code yX5_gain cX5_gain 2 (some .int), Cond.methodLink RX5 35 yX5_aside, Cond.static yX5_aside, Cond.code yX5_aside cX5_aside 2 (some .int), Cond.methodLink RX6 196 yX6_reaches, Cond.instanceMethod yX6_reaches, Cond.selects RX6 yX6_reaches yX6_reaches, Cond.code yX6_reaches cX6_reaches 8 (some .boolean), Cond.fieldLink RX6 22 "SkipRays" "ground" "LSkipRays$Ground;", Cond.methodLink RX6 294 yX4_leave, Cond.instanceMethod yX4_leave, Cond.selects RX4 yX4_leave yX4_leave]
def wsX6_listen_r3 : List Cond := [Cond.initialized RX4, Cond.code yX4_leave cX4_leave 6 none, Cond.fieldLink RX4 9 "SkipRays$Ray" "place" "I", Cond.fieldLink RX4 15 "SkipRays$Ray" "direction" "I", Cond.fieldLink RX4 18 "SkipRays$Ray" "angle" "I", Cond.fieldLink RX4 21 "SkipRays$Ray" "frequency" "I", Cond.fieldLink RX4 24 "SkipRays$Ray" "strength" "I", Cond.fieldLink RX4 27 "SkipRays$Ray" "legs" "I", Cond.fieldLink RX4 30 "SkipRays$Ray" "legsByE" "I", Cond.fieldLink RX4 33 "SkipRays$Ray" "delay" "I", Cond.methodLink RX6 297 yX4_goOn, Cond.instanceMethod yX4_goOn, Cond.selects RX4 yX4_goOn yX4_goOn, Cond.code yX4_goOn cX4_goOn 9 (some .boolean), Cond.methodLink RX4 36 yX0_bender, Cond.instanceMethod yX0_bender, Cond.selects RX0 yX0_bender yX0_bender, Cond.initialized RX0, Cond.code yX0_bender cX0_bender 7 (some .int), Cond.fieldLink RX0 24 "SkipRays$Air" "densities" "[[I", Cond.static yX6_lengthBy, Cond.code yX6_lengthBy cX6_lengthBy 2 (some .int), Cond.static yX6_ring, Cond.code yX6_ring cX6_ring 2 (some .int)]
def wsX6_listen_r4 : List Cond := [Cond.static yX6_bends, Cond.code yX6_bends cX6_bends 3 (some .boolean), Cond.methodLink RX4 54 yX3_takes, Cond.instanceMethod yX3_takes, Cond.selects RX3 yX3_takes yX3_takes, Cond.initialized RX3, Cond.code yX3_takes cX3_takes 2 (some .int), Cond.fieldLink RX3 9 "SkipRays$Ground" "isSea" "[Z", Cond.methodLink RX6 309 yX6_noiseNow, Cond.instanceMethod yX6_noiseNow, Cond.selects RX6 yX6_noiseNow yX6_noiseNow, Cond.code yX6_noiseNow cX6_noiseNow 3 (some .int), Cond.methodLink RX6 164 yX6_lightIn, Cond.static yX6_lightIn, Cond.code yX6_lightIn cX6_lightIn 3 (some .int), Cond.methodLink RX6 211 Lib.Math.abs.name, Cond.static Lib.Math.abs.name, Cond.code Lib.Math.abs.name Lib.Math.abs.code 1 (some .int)]
def wsX6_listen : List Cond := .code yX6_listen cX6_listen 7 (some .int) :: ((wsX6_listen_r1 ++ (wsX6_listen_r2 ++ (wsX6_listen_r3 ++ wsX6_listen_r4))) ++ wsX60 ++ wsX50 ++ wsX40 ++ wsX00 ++ wsX30 ++ (vx_atS RX6 207 "java/lang/IndexOutOfBoundsException" ["java/lang/RuntimeException", "java/lang/Exception"]).filter goodWord)
def wsX6_hour : List Cond := .code yX6_hour cX6_hour 1 (some .int) :: ([.fieldLink RX6 12 "SkipRays" "air" "LSkipRays$Air;"] ++ wsX60 ++ wsX00)
def wsX6_light : List Cond := .code yX6_light cX6_light 3 (some .int) :: ([.fieldLink RX6 12 "SkipRays" "air" "LSkipRays$Air;", .methodLink RX6 80 yX6_needPlace, .static yX6_needPlace, .initialized RX6, .code yX6_needPlace cX6_needPlace 1 none, .classLink RX6 203 "java/lang/IndexOutOfBoundsException", .initialized "java/lang/IndexOutOfBoundsException", .methodLink RX6 59 yX6_needRange, .static yX6_needRange, .code yX6_needRange cX6_needRange 3 none, .classLink RX6 274 "java/lang/IllegalArgumentException", .initialized "java/lang/IllegalArgumentException", .methodLink RX6 164 yX6_lightIn, .static yX6_lightIn, .code yX6_lightIn cX6_lightIn 3 (some .int), .methodLink RX6 211 Lib.Math.abs.name, .static Lib.Math.abs.name, .initialized "java/lang/Math", .code Lib.Math.abs.name Lib.Math.abs.code 1 (some .int), .methodLink RX6 226 Lib.Math.max.name, .static Lib.Math.max.name, .code Lib.Math.max.name Lib.Math.max.code 2 (some .int)] ++ wsX60 ++ wsX00 ++ (vx_atS RX6 207 "java/lang/IndexOutOfBoundsException" ["java/lang/RuntimeException", "java/lang/Exception"]).filter goodWord ++ (vx_atS RX6 278 "java/lang/IllegalArgumentException" ["java/lang/RuntimeException", "java/lang/Exception"]).filter goodWord)
def wsX6_density : List Cond := .code yX6_density cX6_density 3 (some .int) :: ([.fieldLink RX6 12 "SkipRays" "air" "LSkipRays$Air;", .methodLink RX6 80 yX6_needPlace, .static yX6_needPlace, .initialized RX6, .code yX6_needPlace cX6_needPlace 1 none, .classLink RX6 203 "java/lang/IndexOutOfBoundsException", .initialized "java/lang/IndexOutOfBoundsException", .methodLink RX6 59 yX6_needRange, .static yX6_needRange, .code yX6_needRange cX6_needRange 3 none, .classLink RX6 274 "java/lang/IllegalArgumentException", .initialized "java/lang/IllegalArgumentException"] ++ wsX60 ++ wsX00 ++ (vx_atS RX6 207 "java/lang/IndexOutOfBoundsException" ["java/lang/RuntimeException", "java/lang/Exception"]).filter goodWord ++ (vx_atS RX6 278 "java/lang/IllegalArgumentException" ["java/lang/RuntimeException", "java/lang/Exception"]).filter goodWord)
def wsX6_needRay : List Cond := .code yX6_needRay cX6_needRay 4 none :: ([.methodLink RX6 80 yX6_needPlace, .static yX6_needPlace, .initialized RX6, .code yX6_needPlace cX6_needPlace 1 none, .classLink RX6 203 "java/lang/IndexOutOfBoundsException", .initialized "java/lang/IndexOutOfBoundsException", .methodLink RX6 59 yX6_needRange, .static yX6_needRange, .code yX6_needRange cX6_needRange 3 none, .classLink RX6 274 "java/lang/IllegalArgumentException", .initialized "java/lang/IllegalArgumentException", .methodLink RX6 117 yX6_needFrequency, .static yX6_needFrequency, .code yX6_needFrequency cX6_needFrequency 1 none] ++ (vx_atS RX6 207 "java/lang/IndexOutOfBoundsException" ["java/lang/RuntimeException", "java/lang/Exception"]).filter goodWord ++ (vx_atS RX6 278 "java/lang/IllegalArgumentException" ["java/lang/RuntimeException", "java/lang/Exception"]).filter goodWord)
def wsX6_landing_r1 : List Cond := [Cond.fieldLink RX6 12 "SkipRays" "air" "LSkipRays$Air;", Cond.methodLink RX6 172 yX6_needRay, Cond.static yX6_needRay, Cond.initialized RX6, Cond.code yX6_needRay cX6_needRay 4 none, Cond.methodLink RX6 80 yX6_needPlace, Cond.static yX6_needPlace, Cond.code yX6_needPlace cX6_needPlace 1 none, Cond.classLink RX6 203 "java/lang/IndexOutOfBoundsException", Cond.initialized "java/lang/IndexOutOfBoundsException", Cond.methodLink RX6 59 yX6_needRange, Cond.static yX6_needRange, Cond.code yX6_needRange cX6_needRange 3 none, Cond.classLink RX6 274 "java/lang/IllegalArgumentException", Cond.initialized "java/lang/IllegalArgumentException", Cond.methodLink RX6 117 yX6_needFrequency, Cond.static yX6_needFrequency, Cond.code yX6_needFrequency cX6_needFrequency 1 none, Cond.methodLink RX6 176 yX0_bender, Cond.instanceMethod yX0_bender, Cond.selects RX0 yX0_bender yX0_bender, Cond.initialized RX0, Cond.code yX0_bender cX0_bender 7 (some .int), Cond.fieldLink RX0 24 "SkipRays$Air" "densities" "[[I"]
def wsX6_landing_r2 : List Cond := [Cond.static yX6_lengthBy, Cond.code yX6_lengthBy cX6_lengthBy 2 (some .int), Cond.static yX6_ring, Cond.code yX6_ring cX6_ring 2 (some .int), Cond.static yX6_bends, Cond.code yX6_bends cX6_bends 3 (some .boolean), Cond.methodLink RX6 179 yX6_lengthBy, Cond.methodLink RX6 182 yX6_ring]
def wsX6_landing : List Cond := .code yX6_landing cX6_landing 10 (some .int) :: ((wsX6_landing_r1 ++ wsX6_landing_r2) ++ wsX60 ++ wsX00 ++ (vx_atS RX6 207 "java/lang/IndexOutOfBoundsException" ["java/lang/RuntimeException", "java/lang/Exception"]).filter goodWord ++ (vx_atS RX6 278 "java/lang/IllegalArgumentException" ["java/lang/RuntimeException", "java/lang/Exception"]).filter goodWord)
def wsX6_walked : List Cond := .code yX6_walked cX6_walked 5 (some .int) :: ([])
def wsX6_legAnew : List Cond := .code yX6_legAnew cX6_legAnew 8 (some .int) :: ([.fieldLink RX6 12 "SkipRays" "air" "LSkipRays$Air;", .methodLink RX6 179 yX6_lengthBy, .static yX6_lengthBy, .initialized RX6, .code yX6_lengthBy cX6_lengthBy 2 (some .int), .methodLink RX6 189 yX6_walked, .static yX6_walked, .code yX6_walked cX6_walked 5 (some .int), .methodLink RX6 284 yX6_bends, .static yX6_bends, .code yX6_bends cX6_bends 3 (some .boolean)] ++ wsX60 ++ wsX00)
def wsX6_landingAnew_r1 : List Cond := [Cond.methodLink RX6 172 yX6_needRay, Cond.static yX6_needRay, Cond.initialized RX6, Cond.code yX6_needRay cX6_needRay 4 none, Cond.methodLink RX6 80 yX6_needPlace, Cond.static yX6_needPlace, Cond.code yX6_needPlace cX6_needPlace 1 none, Cond.classLink RX6 203 "java/lang/IndexOutOfBoundsException", Cond.initialized "java/lang/IndexOutOfBoundsException", Cond.methodLink RX6 59 yX6_needRange, Cond.static yX6_needRange, Cond.code yX6_needRange cX6_needRange 3 none, Cond.classLink RX6 274 "java/lang/IllegalArgumentException", Cond.initialized "java/lang/IllegalArgumentException", Cond.methodLink RX6 117 yX6_needFrequency, Cond.static yX6_needFrequency, Cond.code yX6_needFrequency cX6_needFrequency 1 none, Cond.methodLink RX6 185 yX6_legAnew, Cond.instanceMethod yX6_legAnew, Cond.selects RX6 yX6_legAnew yX6_legAnew, Cond.code yX6_legAnew cX6_legAnew 8 (some .int), Cond.fieldLink RX6 12 "SkipRays" "air" "LSkipRays$Air;", Cond.methodLink RX6 179 yX6_lengthBy, Cond.static yX6_lengthBy]
def wsX6_landingAnew_r2 : List Cond := [Cond.code yX6_lengthBy cX6_lengthBy 2 (some .int), Cond.methodLink RX6 189 yX6_walked, Cond.static yX6_walked, Cond.code yX6_walked cX6_walked 5 (some .int), Cond.methodLink RX6 284 yX6_bends, Cond.static yX6_bends, Cond.code yX6_bends cX6_bends 3 (some .boolean)]
def wsX6_landingAnew : List Cond := .code yX6_landingAnew cX6_landingAnew 9 (some .int) :: ((wsX6_landingAnew_r1 ++ wsX6_landingAnew_r2) ++ wsX60 ++ wsX00 ++ (vx_atS RX6 207 "java/lang/IndexOutOfBoundsException" ["java/lang/RuntimeException", "java/lang/Exception"]).filter goodWord ++ (vx_atS RX6 278 "java/lang/IllegalArgumentException" ["java/lang/RuntimeException", "java/lang/Exception"]).filter goodWord)
def wsX6_needStrength : List Cond := .code yX6_needStrength cX6_needStrength 1 none :: ([.methodLink RX6 59 yX6_needRange, .static yX6_needRange, .initialized RX6, .code yX6_needRange cX6_needRange 3 none, .classLink RX6 274 "java/lang/IllegalArgumentException", .initialized "java/lang/IllegalArgumentException"] ++ (vx_atS RX6 278 "java/lang/IllegalArgumentException" ["java/lang/RuntimeException", "java/lang/Exception"]).filter goodWord)
def wsX6_needPath : List Cond := .code yX6_needPath cX6_needPath 4 none :: ([.methodLink RX6 80 yX6_needPlace, .static yX6_needPlace, .initialized RX6, .code yX6_needPlace cX6_needPlace 1 none, .classLink RX6 203 "java/lang/IndexOutOfBoundsException", .initialized "java/lang/IndexOutOfBoundsException", .methodLink RX6 117 yX6_needFrequency, .static yX6_needFrequency, .code yX6_needFrequency cX6_needFrequency 1 none, .methodLink RX6 59 yX6_needRange, .static yX6_needRange, .code yX6_needRange cX6_needRange 3 none, .classLink RX6 274 "java/lang/IllegalArgumentException", .initialized "java/lang/IllegalArgumentException", .methodLink RX6 216 yX6_needStrength, .static yX6_needStrength, .code yX6_needStrength cX6_needStrength 1 none] ++ (vx_atS RX6 207 "java/lang/IndexOutOfBoundsException" ["java/lang/RuntimeException", "java/lang/Exception"]).filter goodWord ++ (vx_atS RX6 278 "java/lang/IllegalArgumentException" ["java/lang/RuntimeException", "java/lang/Exception"]).filter goodWord)
def wsX6_paths_r1 : List Cond := [Cond.fieldLink RX6 12 "SkipRays" "air" "LSkipRays$Air;", Cond.methodLink RX6 193 yX6_needPath, Cond.static yX6_needPath, Cond.initialized RX6, Cond.code yX6_needPath cX6_needPath 4 none, Cond.methodLink RX6 80 yX6_needPlace, Cond.static yX6_needPlace, Cond.code yX6_needPlace cX6_needPlace 1 none, Cond.classLink RX6 203 "java/lang/IndexOutOfBoundsException", Cond.initialized "java/lang/IndexOutOfBoundsException", Cond.methodLink RX6 117 yX6_needFrequency, Cond.static yX6_needFrequency, Cond.code yX6_needFrequency cX6_needFrequency 1 none, Cond.methodLink RX6 59 yX6_needRange, Cond.static yX6_needRange, Cond.code yX6_needRange cX6_needRange 3 none, Cond.classLink RX6 274 "java/lang/IllegalArgumentException", Cond.initialized "java/lang/IllegalArgumentException", Cond.methodLink RX6 216 yX6_needStrength, Cond.static yX6_needStrength, Cond.code yX6_needStrength cX6_needStrength 1 none, Cond.methodLink RX6 196 yX6_reaches, Cond.instanceMethod yX6_reaches, Cond.selects RX6 yX6_reaches yX6_reaches]
def wsX6_paths_r2 : List Cond := [Cond.code yX6_reaches cX6_reaches 8 (some .boolean), Cond.fieldLink RX6 29 "SkipRays" "ray" "LSkipRays$Ray;", Cond.fieldLink RX6 22 "SkipRays" "ground" "LSkipRays$Ground;", Cond.methodLink RX6 288 yX6_directionOf, Cond.static yX6_directionOf, Cond.code yX6_directionOf cX6_directionOf 1 (some .int), Cond.methodLink RX6 291 yX6_angleOf, Cond.static yX6_angleOf, Cond.code yX6_angleOf cX6_angleOf 1 (some .int), Cond.methodLink RX6 294 yX4_leave, Cond.instanceMethod yX4_leave, Cond.selects RX4 yX4_leave yX4_leave, Cond.initialized RX4, Cond.code yX4_leave cX4_leave 6 none, Cond.fieldLink RX4 9 "SkipRays$Ray" "place" "I", Cond.fieldLink RX4 15 "SkipRays$Ray" "direction" "I", Cond.fieldLink RX4 18 "SkipRays$Ray" "angle" "I", Cond.fieldLink RX4 21 "SkipRays$Ray" "frequency" "I", Cond.fieldLink RX4 24 "SkipRays$Ray" "strength" "I", Cond.fieldLink RX4 27 "SkipRays$Ray" "legs" "I", Cond.fieldLink RX4 30 "SkipRays$Ray" "legsByE" "I", Cond.fieldLink RX4 33 "SkipRays$Ray" "delay" "I", Cond.methodLink RX6 297 yX4_goOn, Cond.instanceMethod yX4_goOn]
def wsX6_paths_r3 : List Cond := [Cond.selects RX4 yX4_goOn yX4_goOn, Cond.code yX4_goOn cX4_goOn 9 (some .boolean), Cond.methodLink RX4 36 yX0_bender, Cond.instanceMethod yX0_bender, Cond.selects RX0 yX0_bender yX0_bender, Cond.initialized RX0, Cond.code yX0_bender cX0_bender 7 (some .int), Cond.fieldLink RX0 24 "SkipRays$Air" "densities" "[[I", Cond.static yX6_lengthBy, Cond.code yX6_lengthBy cX6_lengthBy 2 (some .int), Cond.static yX6_ring, Cond.code yX6_ring cX6_ring 2 (some .int), Cond.static yX6_bends, Cond.code yX6_bends cX6_bends 3 (some .boolean), Cond.methodLink RX4 54 yX3_takes, Cond.instanceMethod yX3_takes, Cond.selects RX3 yX3_takes yX3_takes, Cond.initialized RX3, Cond.code yX3_takes cX3_takes 2 (some .int), Cond.fieldLink RX3 9 "SkipRays$Ground" "isSea" "[Z"]
def wsX6_paths : List Cond := .code yX6_paths cX6_paths 7 (some .int) :: ((wsX6_paths_r1 ++ (wsX6_paths_r2 ++ wsX6_paths_r3)) ++ wsX60 ++ wsX40 ++ wsX00 ++ wsX30 ++ (vx_atS RX6 207 "java/lang/IndexOutOfBoundsException" ["java/lang/RuntimeException", "java/lang/Exception"]).filter goodWord ++ (vx_atS RX6 278 "java/lang/IllegalArgumentException" ["java/lang/RuntimeException", "java/lang/Exception"]).filter goodWord)
def wsX6_path_r1 : List Cond := [Cond.classLink RX6 203 "java/lang/IndexOutOfBoundsException", Cond.initialized "java/lang/IndexOutOfBoundsException", Cond.fieldLink RX6 12 "SkipRays" "air" "LSkipRays$Air;", Cond.fieldLink RX6 29 "SkipRays" "ray" "LSkipRays$Ray;", Cond.methodLink RX6 193 yX6_needPath, Cond.static yX6_needPath, Cond.initialized RX6, Cond.code yX6_needPath cX6_needPath 4 none, Cond.methodLink RX6 80 yX6_needPlace, Cond.static yX6_needPlace, Cond.code yX6_needPlace cX6_needPlace 1 none, Cond.methodLink RX6 117 yX6_needFrequency, Cond.static yX6_needFrequency, Cond.code yX6_needFrequency cX6_needFrequency 1 none, Cond.methodLink RX6 59 yX6_needRange, Cond.static yX6_needRange, Cond.code yX6_needRange cX6_needRange 3 none, Cond.classLink RX6 274 "java/lang/IllegalArgumentException", Cond.initialized "java/lang/IllegalArgumentException", Cond.methodLink RX6 216 yX6_needStrength, Cond.static yX6_needStrength, Cond.code yX6_needStrength cX6_needStrength 1 none, Cond.methodLink RX6 196 yX6_reaches, Cond.instanceMethod yX6_reaches]
def wsX6_path_r2 : List Cond := [Cond.selects RX6 yX6_reaches yX6_reaches, Cond.code yX6_reaches cX6_reaches 8 (some .boolean), Cond.fieldLink RX6 22 "SkipRays" "ground" "LSkipRays$Ground;", Cond.methodLink RX6 288 yX6_directionOf, Cond.static yX6_directionOf, Cond.code yX6_directionOf cX6_directionOf 1 (some .int), Cond.methodLink RX6 291 yX6_angleOf, Cond.static yX6_angleOf, Cond.code yX6_angleOf cX6_angleOf 1 (some .int), Cond.methodLink RX6 294 yX4_leave, Cond.instanceMethod yX4_leave, Cond.selects RX4 yX4_leave yX4_leave, Cond.initialized RX4, Cond.code yX4_leave cX4_leave 6 none, Cond.fieldLink RX4 9 "SkipRays$Ray" "place" "I", Cond.fieldLink RX4 15 "SkipRays$Ray" "direction" "I", Cond.fieldLink RX4 18 "SkipRays$Ray" "angle" "I", Cond.fieldLink RX4 21 "SkipRays$Ray" "frequency" "I", Cond.fieldLink RX4 24 "SkipRays$Ray" "strength" "I", Cond.fieldLink RX4 27 "SkipRays$Ray" "legs" "I", Cond.fieldLink RX4 30 "SkipRays$Ray" "legsByE" "I", Cond.fieldLink RX4 33 "SkipRays$Ray" "delay" "I", Cond.methodLink RX6 297 yX4_goOn, Cond.instanceMethod yX4_goOn]
def wsX6_path_r3 : List Cond := [Cond.selects RX4 yX4_goOn yX4_goOn, Cond.code yX4_goOn cX4_goOn 9 (some .boolean), Cond.methodLink RX4 36 yX0_bender, Cond.instanceMethod yX0_bender, Cond.selects RX0 yX0_bender yX0_bender, Cond.initialized RX0, Cond.code yX0_bender cX0_bender 7 (some .int), Cond.fieldLink RX0 24 "SkipRays$Air" "densities" "[[I", Cond.static yX6_lengthBy, Cond.code yX6_lengthBy cX6_lengthBy 2 (some .int), Cond.static yX6_ring, Cond.code yX6_ring cX6_ring 2 (some .int), Cond.static yX6_bends, Cond.code yX6_bends cX6_bends 3 (some .boolean), Cond.methodLink RX4 54 yX3_takes, Cond.instanceMethod yX3_takes, Cond.selects RX3 yX3_takes yX3_takes, Cond.initialized RX3, Cond.code yX3_takes cX3_takes 2 (some .int), Cond.fieldLink RX3 9 "SkipRays$Ground" "isSea" "[Z", Cond.methodLink RX6 200 yX4_tell, Cond.instanceMethod yX4_tell, Cond.selects RX4 yX4_tell yX4_tell, Cond.code yX4_tell cX4_tell 2 (some .int)]
def wsX6_path : List Cond := .code yX6_path cX6_path 9 (some .int) :: ((wsX6_path_r1 ++ (wsX6_path_r2 ++ wsX6_path_r3)) ++ wsX60 ++ wsX40 ++ wsX00 ++ wsX30 ++ (vx_atS RX6 207 "java/lang/IndexOutOfBoundsException" ["java/lang/RuntimeException", "java/lang/Exception"]).filter goodWord ++ (vx_atS RX6 278 "java/lang/IllegalArgumentException" ["java/lang/RuntimeException", "java/lang/Exception"]).filter goodWord)
def wsX6_explain_r1 : List Cond := [Cond.fieldLink RX6 12 "SkipRays" "air" "LSkipRays$Air;", Cond.fieldLink RX6 29 "SkipRays" "ray" "LSkipRays$Ray;", Cond.methodLink RX6 211 Lib.Math.abs.name, Cond.static Lib.Math.abs.name, Cond.initialized "java/lang/Math", Cond.code Lib.Math.abs.name Lib.Math.abs.code 1 (some .int), Cond.methodLink RX6 193 yX6_needPath, Cond.static yX6_needPath, Cond.initialized RX6, Cond.code yX6_needPath cX6_needPath 4 none, Cond.methodLink RX6 80 yX6_needPlace, Cond.static yX6_needPlace, Cond.code yX6_needPlace cX6_needPlace 1 none, Cond.classLink RX6 203 "java/lang/IndexOutOfBoundsException", Cond.initialized "java/lang/IndexOutOfBoundsException", Cond.methodLink RX6 117 yX6_needFrequency, Cond.static yX6_needFrequency, Cond.code yX6_needFrequency cX6_needFrequency 1 none, Cond.methodLink RX6 59 yX6_needRange, Cond.static yX6_needRange, Cond.code yX6_needRange cX6_needRange 3 none, Cond.classLink RX6 274 "java/lang/IllegalArgumentException", Cond.initialized "java/lang/IllegalArgumentException", Cond.methodLink RX6 216 yX6_needStrength]
def wsX6_explain_r2 : List Cond := [Cond.static yX6_needStrength, Cond.code yX6_needStrength cX6_needStrength 1 none, Cond.methodLink RX6 196 yX6_reaches, Cond.instanceMethod yX6_reaches, Cond.selects RX6 yX6_reaches yX6_reaches, Cond.code yX6_reaches cX6_reaches 8 (some .boolean), Cond.fieldLink RX6 22 "SkipRays" "ground" "LSkipRays$Ground;", Cond.methodLink RX6 288 yX6_directionOf, Cond.static yX6_directionOf, Cond.code yX6_directionOf cX6_directionOf 1 (some .int), Cond.methodLink RX6 291 yX6_angleOf, Cond.static yX6_angleOf, Cond.code yX6_angleOf cX6_angleOf 1 (some .int), Cond.methodLink RX6 294 yX4_leave, Cond.instanceMethod yX4_leave, Cond.selects RX4 yX4_leave yX4_leave, Cond.initialized RX4, Cond.code yX4_leave cX4_leave 6 none, Cond.fieldLink RX4 9 "SkipRays$Ray" "place" "I", Cond.fieldLink RX4 15 "SkipRays$Ray" "direction" "I", Cond.fieldLink RX4 18 "SkipRays$Ray" "angle" "I", Cond.fieldLink RX4 21 "SkipRays$Ray" "frequency" "I", Cond.fieldLink RX4 24 "SkipRays$Ray" "strength" "I", Cond.fieldLink RX4 27 "SkipRays$Ray" "legs" "I"]
def wsX6_explain_r3 : List Cond := [Cond.fieldLink RX4 30 "SkipRays$Ray" "legsByE" "I", Cond.fieldLink RX4 33 "SkipRays$Ray" "delay" "I", Cond.methodLink RX6 297 yX4_goOn, Cond.instanceMethod yX4_goOn, Cond.selects RX4 yX4_goOn yX4_goOn, Cond.code yX4_goOn cX4_goOn 9 (some .boolean), Cond.methodLink RX4 36 yX0_bender, Cond.instanceMethod yX0_bender, Cond.selects RX0 yX0_bender yX0_bender, Cond.initialized RX0, Cond.code yX0_bender cX0_bender 7 (some .int), Cond.fieldLink RX0 24 "SkipRays$Air" "densities" "[[I", Cond.static yX6_lengthBy, Cond.code yX6_lengthBy cX6_lengthBy 2 (some .int), Cond.static yX6_ring, Cond.code yX6_ring cX6_ring 2 (some .int), Cond.static yX6_bends, Cond.code yX6_bends cX6_bends 3 (some .boolean), Cond.methodLink RX4 54 yX3_takes, Cond.instanceMethod yX3_takes, Cond.selects RX3 yX3_takes yX3_takes, Cond.initialized RX3, Cond.code yX3_takes cX3_takes 2 (some .int), Cond.fieldLink RX3 9 "SkipRays$Ground" "isSea" "[Z"]
def wsX6_explain : List Cond := .code yX6_explain cX6_explain 11 (some .int) :: ((wsX6_explain_r1 ++ (wsX6_explain_r2 ++ wsX6_explain_r3)) ++ wsX60 ++ wsX40 ++ wsX00 ++ wsX30 ++ (vx_atS RX6 207 "java/lang/IndexOutOfBoundsException" ["java/lang/RuntimeException", "java/lang/Exception"]).filter goodWord ++ (vx_atS RX6 278 "java/lang/IllegalArgumentException" ["java/lang/RuntimeException", "java/lang/Exception"]).filter goodWord)
def wsX6_hasPath_r1 : List Cond := [Cond.fieldLink RX6 12 "SkipRays" "air" "LSkipRays$Air;", Cond.methodLink RX6 196 yX6_reaches, Cond.instanceMethod yX6_reaches, Cond.selects RX6 yX6_reaches yX6_reaches, Cond.initialized RX6, Cond.code yX6_reaches cX6_reaches 8 (some .boolean), Cond.fieldLink RX6 29 "SkipRays" "ray" "LSkipRays$Ray;", Cond.fieldLink RX6 22 "SkipRays" "ground" "LSkipRays$Ground;", Cond.methodLink RX6 288 yX6_directionOf, Cond.static yX6_directionOf, Cond.code yX6_directionOf cX6_directionOf 1 (some .int), Cond.methodLink RX6 291 yX6_angleOf, Cond.static yX6_angleOf, Cond.code yX6_angleOf cX6_angleOf 1 (some .int), Cond.methodLink RX6 294 yX4_leave, Cond.instanceMethod yX4_leave, Cond.selects RX4 yX4_leave yX4_leave, Cond.initialized RX4, Cond.code yX4_leave cX4_leave 6 none, Cond.fieldLink RX4 9 "SkipRays$Ray" "place" "I", Cond.fieldLink RX4 15 "SkipRays$Ray" "direction" "I", Cond.fieldLink RX4 18 "SkipRays$Ray" "angle" "I", Cond.fieldLink RX4 21 "SkipRays$Ray" "frequency" "I", Cond.fieldLink RX4 24 "SkipRays$Ray" "strength" "I"]
def wsX6_hasPath_r2 : List Cond := [Cond.fieldLink RX4 27 "SkipRays$Ray" "legs" "I", Cond.fieldLink RX4 30 "SkipRays$Ray" "legsByE" "I", Cond.fieldLink RX4 33 "SkipRays$Ray" "delay" "I", Cond.methodLink RX6 297 yX4_goOn, Cond.instanceMethod yX4_goOn, Cond.selects RX4 yX4_goOn yX4_goOn, Cond.code yX4_goOn cX4_goOn 9 (some .boolean), Cond.methodLink RX4 36 yX0_bender, Cond.instanceMethod yX0_bender, Cond.selects RX0 yX0_bender yX0_bender, Cond.initialized RX0, Cond.code yX0_bender cX0_bender 7 (some .int), Cond.fieldLink RX0 24 "SkipRays$Air" "densities" "[[I", Cond.static yX6_lengthBy, Cond.code yX6_lengthBy cX6_lengthBy 2 (some .int), Cond.static yX6_ring, Cond.code yX6_ring cX6_ring 2 (some .int), Cond.static yX6_bends, Cond.code yX6_bends cX6_bends 3 (some .boolean), Cond.methodLink RX4 54 yX3_takes, Cond.instanceMethod yX3_takes, Cond.selects RX3 yX3_takes yX3_takes, Cond.initialized RX3, Cond.code yX3_takes cX3_takes 2 (some .int)]
def wsX6_hasPath_r3 : List Cond := [Cond.fieldLink RX3 9 "SkipRays$Ground" "isSea" "[Z"]
def wsX6_hasPath : List Cond := .code yX6_hasPath cX6_hasPath 6 (some .boolean) :: ((wsX6_hasPath_r1 ++ (wsX6_hasPath_r2 ++ wsX6_hasPath_r3)) ++ wsX60 ++ wsX40 ++ wsX00 ++ wsX30)
def wsX6_usable_r1 : List Cond := [Cond.methodLink RX6 80 yX6_needPlace, Cond.static yX6_needPlace, Cond.initialized RX6, Cond.code yX6_needPlace cX6_needPlace 1 none, Cond.classLink RX6 203 "java/lang/IndexOutOfBoundsException", Cond.initialized "java/lang/IndexOutOfBoundsException", Cond.methodLink RX6 216 yX6_needStrength, Cond.static yX6_needStrength, Cond.code yX6_needStrength cX6_needStrength 1 none, Cond.methodLink RX6 59 yX6_needRange, Cond.static yX6_needRange, Cond.code yX6_needRange cX6_needRange 3 none, Cond.classLink RX6 274 "java/lang/IllegalArgumentException", Cond.initialized "java/lang/IllegalArgumentException", Cond.methodLink RX6 219 yX6_hasPath, Cond.instanceMethod yX6_hasPath, Cond.selects RX6 yX6_hasPath yX6_hasPath, Cond.code yX6_hasPath cX6_hasPath 6 (some .boolean), Cond.fieldLink RX6 12 "SkipRays" "air" "LSkipRays$Air;", Cond.methodLink RX6 196 yX6_reaches, Cond.instanceMethod yX6_reaches, Cond.selects RX6 yX6_reaches yX6_reaches, Cond.code yX6_reaches cX6_reaches 8 (some .boolean), Cond.fieldLink RX6 29 "SkipRays" "ray" "LSkipRays$Ray;"]
def wsX6_usable_r2 : List Cond := [Cond.fieldLink RX6 22 "SkipRays" "ground" "LSkipRays$Ground;", Cond.methodLink RX6 288 yX6_directionOf, Cond.static yX6_directionOf, Cond.code yX6_directionOf cX6_directionOf 1 (some .int), Cond.methodLink RX6 291 yX6_angleOf, Cond.static yX6_angleOf, Cond.code yX6_angleOf cX6_angleOf 1 (some .int), Cond.methodLink RX6 294 yX4_leave, Cond.instanceMethod yX4_leave, Cond.selects RX4 yX4_leave yX4_leave, Cond.initialized RX4, Cond.code yX4_leave cX4_leave 6 none, Cond.fieldLink RX4 9 "SkipRays$Ray" "place" "I", Cond.fieldLink RX4 15 "SkipRays$Ray" "direction" "I", Cond.fieldLink RX4 18 "SkipRays$Ray" "angle" "I", Cond.fieldLink RX4 21 "SkipRays$Ray" "frequency" "I", Cond.fieldLink RX4 24 "SkipRays$Ray" "strength" "I", Cond.fieldLink RX4 27 "SkipRays$Ray" "legs" "I", Cond.fieldLink RX4 30 "SkipRays$Ray" "legsByE" "I", Cond.fieldLink RX4 33 "SkipRays$Ray" "delay" "I", Cond.methodLink RX6 297 yX4_goOn, Cond.instanceMethod yX4_goOn, Cond.selects RX4 yX4_goOn yX4_goOn, Cond.code yX4_goOn cX4_goOn 9 (some .boolean)]
def wsX6_usable_r3 : List Cond := [Cond.methodLink RX4 36 yX0_bender, Cond.instanceMethod yX0_bender, Cond.selects RX0 yX0_bender yX0_bender, Cond.initialized RX0, Cond.code yX0_bender cX0_bender 7 (some .int), Cond.fieldLink RX0 24 "SkipRays$Air" "densities" "[[I", Cond.static yX6_lengthBy, Cond.code yX6_lengthBy cX6_lengthBy 2 (some .int), Cond.static yX6_ring, Cond.code yX6_ring cX6_ring 2 (some .int), Cond.static yX6_bends, Cond.code yX6_bends cX6_bends 3 (some .boolean), Cond.methodLink RX4 54 yX3_takes, Cond.instanceMethod yX3_takes, Cond.selects RX3 yX3_takes yX3_takes, Cond.initialized RX3, Cond.code yX3_takes cX3_takes 2 (some .int), Cond.fieldLink RX3 9 "SkipRays$Ground" "isSea" "[Z"]
def wsX6_usable : List Cond := .code yX6_usable cX6_usable 10 (some .int) :: ((wsX6_usable_r1 ++ (wsX6_usable_r2 ++ wsX6_usable_r3)) ++ wsX60 ++ wsX40 ++ wsX00 ++ wsX30 ++ (vx_atS RX6 207 "java/lang/IndexOutOfBoundsException" ["java/lang/RuntimeException", "java/lang/Exception"]).filter goodWord ++ (vx_atS RX6 278 "java/lang/IllegalArgumentException" ["java/lang/RuntimeException", "java/lang/Exception"]).filter goodWord)
def wsX6_skipped_r1 : List Cond := [Cond.fieldLink RX6 12 "SkipRays" "air" "LSkipRays$Air;", Cond.methodLink RX6 223 Lib.Math.min.name, Cond.static Lib.Math.min.name, Cond.initialized "java/lang/Math", Cond.code Lib.Math.min.name Lib.Math.min.code 2 (some .int), Cond.methodLink RX6 226 Lib.Math.max.name, Cond.static Lib.Math.max.name, Cond.code Lib.Math.max.name Lib.Math.max.code 2 (some .int), Cond.methodLink RX6 80 yX6_needPlace, Cond.static yX6_needPlace, Cond.initialized RX6, Cond.code yX6_needPlace cX6_needPlace 1 none, Cond.classLink RX6 203 "java/lang/IndexOutOfBoundsException", Cond.initialized "java/lang/IndexOutOfBoundsException", Cond.methodLink RX6 117 yX6_needFrequency, Cond.static yX6_needFrequency, Cond.code yX6_needFrequency cX6_needFrequency 1 none, Cond.methodLink RX6 59 yX6_needRange, Cond.static yX6_needRange, Cond.code yX6_needRange cX6_needRange 3 none, Cond.classLink RX6 274 "java/lang/IllegalArgumentException", Cond.initialized "java/lang/IllegalArgumentException", Cond.methodLink RX6 176 yX0_bender, Cond.instanceMethod yX0_bender]
def wsX6_skipped_r2 : List Cond := [Cond.selects RX0 yX0_bender yX0_bender, Cond.initialized RX0, Cond.code yX0_bender cX0_bender 7 (some .int), Cond.fieldLink RX0 24 "SkipRays$Air" "densities" "[[I", Cond.static yX6_lengthBy, Cond.code yX6_lengthBy cX6_lengthBy 2 (some .int), Cond.static yX6_ring, Cond.code yX6_ring cX6_ring 2 (some .int), Cond.static yX6_bends, Cond.code yX6_bends cX6_bends 3 (some .boolean), Cond.methodLink RX6 179 yX6_lengthBy]
def wsX6_skipped : List Cond := .code yX6_skipped cX6_skipped 8 (some .int) :: ((wsX6_skipped_r1 ++ wsX6_skipped_r2) ++ wsX60 ++ wsX00 ++ (vx_atS RX6 207 "java/lang/IndexOutOfBoundsException" ["java/lang/RuntimeException", "java/lang/Exception"]).filter goodWord ++ (vx_atS RX6 278 "java/lang/IllegalArgumentException" ["java/lang/RuntimeException", "java/lang/Exception"]).filter goodWord)
def wsX6_signal_r1 : List Cond := [Cond.methodLink RX6 122 yX6_needStation, Cond.instanceMethod yX6_needStation, Cond.selects RX6 yX6_needStation yX6_needStation, Cond.initialized RX6, Cond.code yX6_needStation cX6_needStation 2 none, Cond.classLink RX6 203 "java/lang/IndexOutOfBoundsException", Cond.initialized "java/lang/IndexOutOfBoundsException", Cond.fieldLink RX6 38 "SkipRays" "stations" "LSkipRays$Senders;", Cond.methodLink RX6 281 yX5_has, Cond.instanceMethod yX5_has, Cond.selects RX5 yX5_has yX5_has, Cond.initialized RX5, Cond.code yX5_has cX5_has 2 (some .boolean), Cond.fieldLink RX5 27 "SkipRays$Senders" "made" "I", Cond.methodLink RX6 117 yX6_needFrequency, Cond.static yX6_needFrequency, Cond.code yX6_needFrequency cX6_needFrequency 1 none, Cond.methodLink RX6 59 yX6_needRange, Cond.static yX6_needRange, Cond.code yX6_needRange cX6_needRange 3 none, Cond.classLink RX6 274 "java/lang/IllegalArgumentException", Cond.initialized "java/lang/IllegalArgumentException", Cond.methodLink RX6 125 yX6_needDifferent, Cond.static yX6_needDifferent]
def wsX6_signal_r2 : List Cond := [Cond.code yX6_needDifferent cX6_needDifferent 2 none, Cond.methodLink RX6 135 yX6_signalBetween, Cond.instanceMethod yX6_signalBetween, Cond.selects RX6 yX6_signalBetween yX6_signalBetween, Cond.code yX6_signalBetween cX6_signalBetween 4 (some .int), Cond.fieldLink RX6 12 "SkipRays" "air" "LSkipRays$Air;", Cond.methodLink RX6 154 yX6_signalAt, Cond.instanceMethod yX6_signalAt, Cond.selects RX6 yX6_signalAt yX6_signalAt, Cond.code yX6_signalAt cX6_signalAt 9 (some .int), Cond.fieldLink RX6 29 "SkipRays" "ray" "LSkipRays$Ray;", Cond.methodLink RX6 226 Lib.Math.max.name, Cond.static Lib.Math.max.name, Cond.initialized "java/lang/Math", Cond.code Lib.Math.max.name Lib.Math.max.code 2 (some .int), Cond.methodLink RX6 288 yX6_directionOf, Cond.static yX6_directionOf, Cond.code yX6_directionOf cX6_directionOf 1 (some .int), Cond.methodLink RX6 291 yX6_angleOf, Cond.static yX6_angleOf, Cond.code yX6_angleOf cX6_angleOf 1 (some .int), Cond.methodLink RX6 303 yX5_strengthAtFirst, Cond.instanceMethod yX5_strengthAtFirst, Cond.selects RX5 yX5_strengthAtFirst yX5_strengthAtFirst]
def wsX6_signal_r3 : List Cond := [Cond.code yX5_strengthAtFirst cX5_strengthAtFirst 4 (some .int), Cond.fieldLink RX5 15 "SkipRays$Senders" "power" "[I", Cond.fieldLink RX5 18 "SkipRays$Senders" "antenna" "[I", Cond.fieldLink RX5 21 "SkipRays$Senders" "heading" "[I", Cond.methodLink RX5 31 yX5_gain, Cond.static yX5_gain, Cond.code yX5_gain cX5_gain 2 (some .int), Cond.methodLink RX5 35 yX5_aside, Cond.static yX5_aside, Cond.code yX5_aside cX5_aside 2 (some .int), Cond.methodLink RX6 196 yX6_reaches, Cond.instanceMethod yX6_reaches, Cond.selects RX6 yX6_reaches yX6_reaches, Cond.code yX6_reaches cX6_reaches 8 (some .boolean), Cond.fieldLink RX6 22 "SkipRays" "ground" "LSkipRays$Ground;", Cond.methodLink RX6 294 yX4_leave, Cond.instanceMethod yX4_leave, Cond.selects RX4 yX4_leave yX4_leave, Cond.initialized RX4, Cond.code yX4_leave cX4_leave 6 none, Cond.fieldLink RX4 9 "SkipRays$Ray" "place" "I", Cond.fieldLink RX4 15 "SkipRays$Ray" "direction" "I", Cond.fieldLink RX4 18 "SkipRays$Ray" "angle" "I", Cond.fieldLink RX4 21 "SkipRays$Ray" "frequency" "I"]
def wsX6_signal_r4 : List Cond := [Cond.fieldLink RX4 24 "SkipRays$Ray" "strength" "I", Cond.fieldLink RX4 27 "SkipRays$Ray" "legs" "I", Cond.fieldLink RX4 30 "SkipRays$Ray" "legsByE" "I", Cond.fieldLink RX4 33 "SkipRays$Ray" "delay" "I", Cond.methodLink RX6 297 yX4_goOn, Cond.instanceMethod yX4_goOn, Cond.selects RX4 yX4_goOn yX4_goOn, Cond.code yX4_goOn cX4_goOn 9 (some .boolean), Cond.methodLink RX4 36 yX0_bender, Cond.instanceMethod yX0_bender, Cond.selects RX0 yX0_bender yX0_bender, Cond.initialized RX0, Cond.code yX0_bender cX0_bender 7 (some .int), Cond.fieldLink RX0 24 "SkipRays$Air" "densities" "[[I", Cond.static yX6_lengthBy, Cond.code yX6_lengthBy cX6_lengthBy 2 (some .int), Cond.static yX6_ring, Cond.code yX6_ring cX6_ring 2 (some .int), Cond.static yX6_bends, Cond.code yX6_bends cX6_bends 3 (some .boolean), Cond.methodLink RX4 54 yX3_takes, Cond.instanceMethod yX3_takes, Cond.selects RX3 yX3_takes yX3_takes, Cond.initialized RX3]
def wsX6_signal_r5 : List Cond := [Cond.code yX3_takes cX3_takes 2 (some .int), Cond.fieldLink RX3 9 "SkipRays$Ground" "isSea" "[Z", Cond.methodLink RX6 309 yX6_noiseNow, Cond.instanceMethod yX6_noiseNow, Cond.selects RX6 yX6_noiseNow yX6_noiseNow, Cond.code yX6_noiseNow cX6_noiseNow 3 (some .int), Cond.methodLink RX6 164 yX6_lightIn, Cond.static yX6_lightIn, Cond.code yX6_lightIn cX6_lightIn 3 (some .int), Cond.methodLink RX6 211 Lib.Math.abs.name, Cond.static Lib.Math.abs.name, Cond.code Lib.Math.abs.name Lib.Math.abs.code 1 (some .int)]
def wsX6_signal : List Cond := .code yX6_signal cX6_signal 4 (some .int) :: ((wsX6_signal_r1 ++ (wsX6_signal_r2 ++ (wsX6_signal_r3 ++ (wsX6_signal_r4 ++ wsX6_signal_r5)))) ++ wsX60 ++ wsX50 ++ wsX40 ++ wsX00 ++ wsX30 ++ (vx_atS RX6 207 "java/lang/IndexOutOfBoundsException" ["java/lang/RuntimeException", "java/lang/Exception"]).filter goodWord ++ (vx_atS RX6 278 "java/lang/IllegalArgumentException" ["java/lang/RuntimeException", "java/lang/Exception"]).filter goodWord)
def wsX6_contactOf : List Cond := .code yX6_contactOf cX6_contactOf 3 (some .int) :: ([.classLink RX6 203 "java/lang/IndexOutOfBoundsException", .initialized "java/lang/IndexOutOfBoundsException", .fieldLink RX6 48 "SkipRays" "contacts" "LSkipRays$Contacts;", .methodLink RX6 229 yX1_has, .instanceMethod yX1_has, .selects RX1 yX1_has yX1_has, .initialized RX1, .code yX1_has cX1_has 2 (some .boolean), .fieldLink RX1 27 "SkipRays$Contacts" "made" "I", .methodLink RX6 59 yX6_needRange, .static yX6_needRange, .initialized RX6, .code yX6_needRange cX6_needRange 3 none, .classLink RX6 274 "java/lang/IllegalArgumentException", .initialized "java/lang/IllegalArgumentException", .methodLink RX6 235 yX1_tell, .instanceMethod yX1_tell, .selects RX1 yX1_tell yX1_tell, .code yX1_tell cX1_tell 3 (some .int), .fieldLink RX1 9 "SkipRays$Contacts" "caller" "[I", .fieldLink RX1 15 "SkipRays$Contacts" "called" "[I", .fieldLink RX1 18 "SkipRays$Contacts" "frequency" "[I", .fieldLink RX1 21 "SkipRays$Contacts" "mode" "[I", .fieldLink RX1 24 "SkipRays$Contacts" "hourOf" "[I"] ++ wsX60 ++ wsX10 ++ (vx_atS RX6 207 "java/lang/IndexOutOfBoundsException" ["java/lang/RuntimeException", "java/lang/Exception"]).filter goodWord ++ (vx_atS RX6 278 "java/lang/IllegalArgumentException" ["java/lang/RuntimeException", "java/lang/Exception"]).filter goodWord)
def wsX6_counts : List Cond := .code yX6_counts cX6_counts 5 (some .boolean) :: ([.fieldLink RX6 55 "SkipRays" "entries" "LSkipRays$Entries;", .fieldLink RX6 48 "SkipRays" "contacts" "LSkipRays$Contacts;", .methodLink RX6 315 yX1_isOf, .instanceMethod yX1_isOf, .selects RX1 yX1_isOf yX1_isOf, .initialized RX1, .code yX1_isOf cX1_isOf 4 (some .boolean), .fieldLink RX1 9 "SkipRays$Contacts" "caller" "[I", .fieldLink RX1 15 "SkipRays$Contacts" "called" "[I"] ++ wsX60 ++ wsX20 ++ wsX10)
def wsX6_entryOf_r1 : List Cond := [Cond.classLink RX6 203 "java/lang/IndexOutOfBoundsException", Cond.initialized "java/lang/IndexOutOfBoundsException", Cond.fieldLink RX6 55 "SkipRays" "entries" "LSkipRays$Entries;", Cond.methodLink RX6 237 yX2_has, Cond.instanceMethod yX2_has, Cond.selects RX2 yX2_has yX2_has, Cond.initialized RX2, Cond.code yX2_has cX2_has 2 (some .boolean), Cond.fieldLink RX2 27 "SkipRays$Entries" "made" "I", Cond.methodLink RX6 59 yX6_needRange, Cond.static yX6_needRange, Cond.initialized RX6, Cond.code yX6_needRange cX6_needRange 3 none, Cond.classLink RX6 274 "java/lang/IllegalArgumentException", Cond.initialized "java/lang/IllegalArgumentException", Cond.methodLink RX6 240 yX6_counts, Cond.instanceMethod yX6_counts, Cond.selects RX6 yX6_counts yX6_counts, Cond.code yX6_counts cX6_counts 5 (some .boolean), Cond.fieldLink RX6 48 "SkipRays" "contacts" "LSkipRays$Contacts;", Cond.methodLink RX6 315 yX1_isOf, Cond.instanceMethod yX1_isOf, Cond.selects RX1 yX1_isOf yX1_isOf, Cond.initialized RX1]
def wsX6_entryOf_r2 : List Cond := [Cond.code yX1_isOf cX1_isOf 4 (some .boolean), Cond.fieldLink RX1 9 "SkipRays$Contacts" "caller" "[I", Cond.fieldLink RX1 15 "SkipRays$Contacts" "called" "[I", Cond.methodLink RX6 243 yX2_tell, Cond.instanceMethod yX2_tell, Cond.selects RX2 yX2_tell yX2_tell, Cond.code yX2_tell cX2_tell 3 (some .int), Cond.fieldLink RX2 9 "SkipRays$Entries" "by" "[I", Cond.fieldLink RX2 15 "SkipRays$Entries" "noted" "[I", Cond.fieldLink RX2 18 "SkipRays$Entries" "frequency" "[I", Cond.fieldLink RX2 21 "SkipRays$Entries" "hourOf" "[I", Cond.fieldLink RX2 24 "SkipRays$Entries" "pair" "[I"]
def wsX6_entryOf : List Cond := .code yX6_entryOf cX6_entryOf 3 (some .int) :: ((wsX6_entryOf_r1 ++ wsX6_entryOf_r2) ++ wsX60 ++ wsX20 ++ wsX10 ++ (vx_atS RX6 207 "java/lang/IndexOutOfBoundsException" ["java/lang/RuntimeException", "java/lang/Exception"]).filter goodWord ++ (vx_atS RX6 278 "java/lang/IllegalArgumentException" ["java/lang/RuntimeException", "java/lang/Exception"]).filter goodWord)
def wsX6_distance : List Cond := .code yX6_distance cX6_distance 3 (some .int) :: ([.methodLink RX6 211 Lib.Math.abs.name, .static Lib.Math.abs.name, .initialized "java/lang/Math", .code Lib.Math.abs.name Lib.Math.abs.code 1 (some .int), .methodLink RX6 223 Lib.Math.min.name, .static Lib.Math.min.name, .code Lib.Math.min.name Lib.Math.min.code 2 (some .int)])
def wsJ6_bitCount_0f7a4 : List Cond := .code yJ6_bitCount_0f7a4 cJ6_bitCount_0f7a4 1 (some .int) :: ([.constant RJ6 265 (1431655765), .constant RJ6 266 (858993459), .constant RJ6 267 (252645135)])
def wsX6_score_r1 : List Cond := [Cond.fieldLink RX6 55 "SkipRays" "entries" "LSkipRays$Entries;", Cond.fieldLink RX6 38 "SkipRays" "stations" "LSkipRays$Senders;", Cond.fieldLink RX6 12 "SkipRays" "air" "LSkipRays$Air;", Cond.methodLink RX6 122 yX6_needStation, Cond.instanceMethod yX6_needStation, Cond.selects RX6 yX6_needStation yX6_needStation, Cond.initialized RX6, Cond.code yX6_needStation cX6_needStation 2 none, Cond.classLink RX6 203 "java/lang/IndexOutOfBoundsException", Cond.initialized "java/lang/IndexOutOfBoundsException", Cond.methodLink RX6 281 yX5_has, Cond.instanceMethod yX5_has, Cond.selects RX5 yX5_has yX5_has, Cond.initialized RX5, Cond.code yX5_has cX5_has 2 (some .boolean), Cond.fieldLink RX5 27 "SkipRays$Senders" "made" "I", Cond.methodLink RX6 240 yX6_counts, Cond.instanceMethod yX6_counts, Cond.selects RX6 yX6_counts yX6_counts, Cond.code yX6_counts cX6_counts 5 (some .boolean), Cond.fieldLink RX6 48 "SkipRays" "contacts" "LSkipRays$Contacts;", Cond.methodLink RX6 315 yX1_isOf, Cond.instanceMethod yX1_isOf, Cond.selects RX1 yX1_isOf yX1_isOf]
def wsX6_score_r2 : List Cond := [Cond.initialized RX1, Cond.code yX1_isOf cX1_isOf 4 (some .boolean), Cond.fieldLink RX1 9 "SkipRays$Contacts" "caller" "[I", Cond.fieldLink RX1 15 "SkipRays$Contacts" "called" "[I", Cond.methodLink RX6 254 yX6_distance, Cond.static yX6_distance, Cond.code yX6_distance cX6_distance 3 (some .int), Cond.methodLink RX6 211 Lib.Math.abs.name, Cond.static Lib.Math.abs.name, Cond.initialized "java/lang/Math", Cond.code Lib.Math.abs.name Lib.Math.abs.code 1 (some .int), Cond.methodLink RX6 223 Lib.Math.min.name, Cond.static Lib.Math.min.name, Cond.code Lib.Math.min.name Lib.Math.min.code 2 (some .int), Cond.methodLink RX6 263 yJ6_bitCount_0f7a4, Cond.static yJ6_bitCount_0f7a4, Cond.initialized RJ6, Cond.code yJ6_bitCount_0f7a4 cJ6_bitCount_0f7a4 1 (some .int), Cond.constant RJ6 265 (1431655765), Cond.constant RJ6 266 (858993459), Cond.constant RJ6 267 (252645135)]
def wsX6_score : List Cond := .code yX6_score cX6_score 7 (some .int) :: ((wsX6_score_r1 ++ wsX6_score_r2) ++ wsX60 ++ wsX20 ++ wsX50 ++ wsX00 ++ wsX10 ++ (vx_atS RX6 207 "java/lang/IndexOutOfBoundsException" ["java/lang/RuntimeException", "java/lang/Exception"]).filter goodWord)
def wsX6_forecasts : List Cond := .code yX6_forecasts cX6_forecasts 2 (some .int) :: ([.fieldLink RX6 158 "SkipRays" "forecastsRight" "I", .fieldLink RX6 161 "SkipRays" "forecastsMade" "I"] ++ wsX60)
def wsX6_count : List Cond := .code yX6_count cX6_count 2 (some .int) :: ([.fieldLink RX6 38 "SkipRays" "stations" "LSkipRays$Senders;", .fieldLink RX6 42 "SkipRays" "beacons" "LSkipRays$Senders;", .fieldLink RX6 48 "SkipRays" "contacts" "LSkipRays$Contacts;", .fieldLink RX6 55 "SkipRays" "entries" "LSkipRays$Entries;", .methodLink RX6 59 yX6_needRange, .static yX6_needRange, .initialized RX6, .code yX6_needRange cX6_needRange 3 none, .classLink RX6 274 "java/lang/IllegalArgumentException", .initialized "java/lang/IllegalArgumentException"] ++ wsX60 ++ wsX50 ++ wsX10 ++ wsX20 ++ (vx_atS RX6 278 "java/lang/IllegalArgumentException" ["java/lang/RuntimeException", "java/lang/Exception"]).filter goodWord)
def wsX7_init_r1 : List Cond := [Cond.methodLink RX7 1 objectInit, Cond.instanceMethod objectInit, Cond.code objectInit ⟨#[0xb1]⟩ 1 none, Cond.fieldLink RX7 7 "SkipRaysModel" "sun" "I", Cond.arrayClass .int, Cond.fieldLink RX7 13 "SkipRaysModel" "cloud" "[I", Cond.fieldLink RX7 17 "SkipRaysModel" "cloudHours" "[I", Cond.arrayClass .boolean, Cond.fieldLink RX7 20 "SkipRaysModel" "isSea" "[Z", Cond.fieldLink RX7 24 "SkipRaysModel" "noise" "[I", Cond.fieldLink RX7 27 "SkipRaysModel" "place" "[I", Cond.fieldLink RX7 30 "SkipRaysModel" "power" "[I", Cond.fieldLink RX7 33 "SkipRaysModel" "antenna" "[I", Cond.fieldLink RX7 36 "SkipRaysModel" "heading" "[I", Cond.fieldLink RX7 39 "SkipRaysModel" "beaconPlace" "[I", Cond.fieldLink RX7 42 "SkipRaysModel" "beaconOn" "[I", Cond.fieldLink RX7 45 "SkipRaysModel" "beaconPower" "[I", Cond.fieldLink RX7 48 "SkipRaysModel" "caller" "[I", Cond.fieldLink RX7 51 "SkipRaysModel" "called" "[I", Cond.fieldLink RX7 54 "SkipRaysModel" "calledOn" "[I", Cond.fieldLink RX7 57 "SkipRaysModel" "mode" "[I", Cond.fieldLink RX7 60 "SkipRaysModel" "calledAt" "[I", Cond.fieldLink RX7 63 "SkipRaysModel" "logger" "[I", Cond.fieldLink RX7 66 "SkipRaysModel" "noted" "[I"]
def wsX7_init_r2 : List Cond := [Cond.fieldLink RX7 69 "SkipRaysModel" "loggedOn" "[I", Cond.fieldLink RX7 72 "SkipRaysModel" "loggedAt" "[I", Cond.fieldLink RX7 75 "SkipRaysModel" "pair" "[I"]
def wsX7_init : List Cond := .code yX7_init cX7_init 1 none :: ((wsX7_init_r1 ++ wsX7_init_r2) ++ wsX70)
def wsX7_thrown : List Cond := .code yX7_thrown cX7_thrown 1 (some .int) :: ([.fieldLink RX7 78 "SkipRaysModel" "thrown" "I"] ++ wsX70)
def wsX7_goesWell : List Cond := .code yX7_goesWell cX7_goesWell 2 (some .boolean) :: ([.fieldLink RX7 78 "SkipRaysModel" "thrown" "I"] ++ wsX70)
def wsX7_in : List Cond := .code yX7_in cX7_in 3 (some .boolean) :: ([])
def wsX7_isPlace : List Cond := .code yX7_isPlace cX7_isPlace 1 (some .boolean) :: ([.methodLink RX7 81 yX7_in, .static yX7_in, .initialized RX7, .code yX7_in cX7_in 3 (some .boolean)])
def wsX7_isOn : List Cond := .code yX7_isOn cX7_isOn 1 (some .boolean) :: ([.methodLink RX7 81 yX7_in, .static yX7_in, .initialized RX7, .code yX7_in cX7_in 3 (some .boolean)])
def wsX7_isStation : List Cond := .code yX7_isStation cX7_isStation 2 (some .boolean) :: ([.fieldLink RX7 85 "SkipRaysModel" "stations" "I", .methodLink RX7 81 yX7_in, .static yX7_in, .initialized RX7, .code yX7_in cX7_in 3 (some .boolean)] ++ wsX70)
def wsX7_gap : List Cond := .code yX7_gap cX7_gap 3 (some .int) :: ([])
def wsX7_sun : List Cond := .code yX7_sun cX7_sun 3 (some .int) :: ([.fieldLink RX7 7 "SkipRaysModel" "sun" "I", .methodLink RX7 81 yX7_in, .static yX7_in, .initialized RX7, .code yX7_in cX7_in 3 (some .boolean), .methodLink RX7 88 yX7_goesWell, .instanceMethod yX7_goesWell, .selects RX7 yX7_goesWell yX7_goesWell, .code yX7_goesWell cX7_goesWell 2 (some .boolean), .fieldLink RX7 78 "SkipRaysModel" "thrown" "I"] ++ wsX70)
def wsX7_storm : List Cond := .code yX7_storm cX7_storm 3 none :: ([.fieldLink RX7 92 "SkipRaysModel" "storm" "I", .fieldLink RX7 95 "SkipRaysModel" "stormHours" "I", .methodLink RX7 81 yX7_in, .static yX7_in, .initialized RX7, .code yX7_in cX7_in 3 (some .boolean), .methodLink RX7 88 yX7_goesWell, .instanceMethod yX7_goesWell, .selects RX7 yX7_goesWell yX7_goesWell, .code yX7_goesWell cX7_goesWell 2 (some .boolean), .fieldLink RX7 78 "SkipRaysModel" "thrown" "I"] ++ wsX70)
def wsX7_flare : List Cond := .code yX7_flare cX7_flare 3 (some .int) :: ([.fieldLink RX7 98 "SkipRaysModel" "flare" "I", .methodLink RX7 81 yX7_in, .static yX7_in, .initialized RX7, .code yX7_in cX7_in 3 (some .boolean), .methodLink RX7 88 yX7_goesWell, .instanceMethod yX7_goesWell, .selects RX7 yX7_goesWell yX7_goesWell, .code yX7_goesWell cX7_goesWell 2 (some .boolean), .fieldLink RX7 78 "SkipRaysModel" "thrown" "I"] ++ wsX70)
def wsX7_cloud : List Cond := .code yX7_cloud cX7_cloud 5 none :: ([.fieldLink RX7 13 "SkipRaysModel" "cloud" "[I", .fieldLink RX7 17 "SkipRaysModel" "cloudHours" "[I", .methodLink RX7 101 yX7_isPlace, .static yX7_isPlace, .initialized RX7, .code yX7_isPlace cX7_isPlace 1 (some .boolean), .methodLink RX7 81 yX7_in, .static yX7_in, .code yX7_in cX7_in 3 (some .boolean), .methodLink RX7 88 yX7_goesWell, .instanceMethod yX7_goesWell, .selects RX7 yX7_goesWell yX7_goesWell, .code yX7_goesWell cX7_goesWell 2 (some .boolean), .fieldLink RX7 78 "SkipRaysModel" "thrown" "I"] ++ wsX70)
def wsX7_sea : List Cond := .code yX7_sea cX7_sea 4 (some .boolean) :: ([.fieldLink RX7 20 "SkipRaysModel" "isSea" "[Z", .methodLink RX7 101 yX7_isPlace, .static yX7_isPlace, .initialized RX7, .code yX7_isPlace cX7_isPlace 1 (some .boolean), .methodLink RX7 81 yX7_in, .static yX7_in, .code yX7_in cX7_in 3 (some .boolean), .methodLink RX7 88 yX7_goesWell, .instanceMethod yX7_goesWell, .selects RX7 yX7_goesWell yX7_goesWell, .code yX7_goesWell cX7_goesWell 2 (some .boolean), .fieldLink RX7 78 "SkipRaysModel" "thrown" "I"] ++ wsX70)
def wsX7_noise : List Cond := .code yX7_noise cX7_noise 5 (some .int) :: ([.fieldLink RX7 24 "SkipRaysModel" "noise" "[I", .methodLink RX7 101 yX7_isPlace, .static yX7_isPlace, .initialized RX7, .code yX7_isPlace cX7_isPlace 1 (some .boolean), .methodLink RX7 81 yX7_in, .static yX7_in, .code yX7_in cX7_in 3 (some .boolean), .methodLink RX7 88 yX7_goesWell, .instanceMethod yX7_goesWell, .selects RX7 yX7_goesWell yX7_goesWell, .code yX7_goesWell cX7_goesWell 2 (some .boolean), .fieldLink RX7 78 "SkipRaysModel" "thrown" "I"] ++ wsX70)
def wsX7_passOne : List Cond := .code yX7_passOne cX7_passOne 2 none :: ([.fieldLink RX7 104 "SkipRaysModel" "hour" "I", .fieldLink RX7 98 "SkipRaysModel" "flare" "I", .fieldLink RX7 95 "SkipRaysModel" "stormHours" "I", .fieldLink RX7 92 "SkipRaysModel" "storm" "I", .fieldLink RX7 17 "SkipRaysModel" "cloudHours" "[I", .fieldLink RX7 13 "SkipRaysModel" "cloud" "[I"] ++ wsX70)
def wsX7_pass : List Cond := .code yX7_pass cX7_pass 4 (some .int) :: ([.fieldLink RX7 104 "SkipRaysModel" "hour" "I", .methodLink RX7 81 yX7_in, .static yX7_in, .initialized RX7, .code yX7_in cX7_in 3 (some .boolean), .methodLink RX7 88 yX7_goesWell, .instanceMethod yX7_goesWell, .selects RX7 yX7_goesWell yX7_goesWell, .code yX7_goesWell cX7_goesWell 2 (some .boolean), .fieldLink RX7 78 "SkipRaysModel" "thrown" "I", .methodLink RX7 107 yX7_passOne, .instanceMethod yX7_passOne, .selects RX7 yX7_passOne yX7_passOne, .code yX7_passOne cX7_passOne 2 none, .fieldLink RX7 98 "SkipRaysModel" "flare" "I", .fieldLink RX7 95 "SkipRaysModel" "stormHours" "I", .fieldLink RX7 92 "SkipRaysModel" "storm" "I", .fieldLink RX7 17 "SkipRaysModel" "cloudHours" "[I", .fieldLink RX7 13 "SkipRaysModel" "cloud" "[I"] ++ wsX70)
def wsX7_lightOf : List Cond := .code yX7_lightOf cX7_lightOf 5 (some .int) :: ([.fieldLink RX7 104 "SkipRaysModel" "hour" "I"] ++ wsX70)
def wsX7_dense : List Cond := .code yX7_dense cX7_dense 5 (some .int) :: ([.fieldLink RX7 114 "SkipRaysModel" "isCalm" "Z", .fieldLink RX7 98 "SkipRaysModel" "flare" "I", .fieldLink RX7 13 "SkipRaysModel" "cloud" "[I", .fieldLink RX7 7 "SkipRaysModel" "sun" "I", .fieldLink RX7 92 "SkipRaysModel" "storm" "I", .methodLink RX7 110 yX7_lightOf, .instanceMethod yX7_lightOf, .selects RX7 yX7_lightOf yX7_lightOf, .initialized RX7, .code yX7_lightOf cX7_lightOf 5 (some .int), .fieldLink RX7 104 "SkipRaysModel" "hour" "I"] ++ wsX70)
def wsX7_on : List Cond := .code yX7_on cX7_on 3 (some .int) :: ([])
def wsX7_bends : List Cond := .code yX7_bends cX7_bends 5 (some .boolean) :: ([.methodLink RX7 118 yX7_dense, .instanceMethod yX7_dense, .selects RX7 yX7_dense yX7_dense, .initialized RX7, .code yX7_dense cX7_dense 5 (some .int), .fieldLink RX7 114 "SkipRaysModel" "isCalm" "Z", .fieldLink RX7 98 "SkipRaysModel" "flare" "I", .fieldLink RX7 13 "SkipRaysModel" "cloud" "[I", .fieldLink RX7 7 "SkipRaysModel" "sun" "I", .fieldLink RX7 92 "SkipRaysModel" "storm" "I", .methodLink RX7 110 yX7_lightOf, .instanceMethod yX7_lightOf, .selects RX7 yX7_lightOf yX7_lightOf, .code yX7_lightOf cX7_lightOf 5 (some .int), .fieldLink RX7 104 "SkipRaysModel" "hour" "I"] ++ wsX70)
def wsX7_layerOf : List Cond := .code yX7_layerOf cX7_layerOf 5 (some .int) :: ([.methodLink RX7 121 yX7_on, .static yX7_on, .initialized RX7, .code yX7_on cX7_on 3 (some .int), .methodLink RX7 125 yX7_bends, .instanceMethod yX7_bends, .selects RX7 yX7_bends yX7_bends, .code yX7_bends cX7_bends 5 (some .boolean), .methodLink RX7 118 yX7_dense, .instanceMethod yX7_dense, .selects RX7 yX7_dense yX7_dense, .code yX7_dense cX7_dense 5 (some .int), .fieldLink RX7 114 "SkipRaysModel" "isCalm" "Z", .fieldLink RX7 98 "SkipRaysModel" "flare" "I", .fieldLink RX7 13 "SkipRaysModel" "cloud" "[I", .fieldLink RX7 7 "SkipRaysModel" "sun" "I", .fieldLink RX7 92 "SkipRaysModel" "storm" "I", .methodLink RX7 110 yX7_lightOf, .instanceMethod yX7_lightOf, .selects RX7 yX7_lightOf yX7_lightOf, .code yX7_lightOf cX7_lightOf 5 (some .int), .fieldLink RX7 104 "SkipRaysModel" "hour" "I"] ++ wsX70)
def wsX7_lengthOf : List Cond := .code yX7_lengthOf cX7_lengthOf 2 (some .int) :: ([])
def wsX7_follow_r1 : List Cond := [Cond.fieldLink RX7 129 "SkipRaysModel" "legs" "I", Cond.fieldLink RX7 132 "SkipRaysModel" "byE" "I", Cond.fieldLink RX7 135 "SkipRaysModel" "left" "I", Cond.fieldLink RX7 138 "SkipRaysModel" "delay" "I", Cond.fieldLink RX7 20 "SkipRaysModel" "isSea" "[Z", Cond.methodLink RX7 141 yX7_layerOf, Cond.instanceMethod yX7_layerOf, Cond.selects RX7 yX7_layerOf yX7_layerOf, Cond.initialized RX7, Cond.code yX7_layerOf cX7_layerOf 5 (some .int), Cond.methodLink RX7 121 yX7_on, Cond.static yX7_on, Cond.code yX7_on cX7_on 3 (some .int), Cond.methodLink RX7 125 yX7_bends, Cond.instanceMethod yX7_bends, Cond.selects RX7 yX7_bends yX7_bends, Cond.code yX7_bends cX7_bends 5 (some .boolean), Cond.methodLink RX7 118 yX7_dense, Cond.instanceMethod yX7_dense, Cond.selects RX7 yX7_dense yX7_dense, Cond.code yX7_dense cX7_dense 5 (some .int), Cond.fieldLink RX7 114 "SkipRaysModel" "isCalm" "Z", Cond.fieldLink RX7 98 "SkipRaysModel" "flare" "I", Cond.fieldLink RX7 13 "SkipRaysModel" "cloud" "[I"]
def wsX7_follow_r2 : List Cond := [Cond.fieldLink RX7 7 "SkipRaysModel" "sun" "I", Cond.fieldLink RX7 92 "SkipRaysModel" "storm" "I", Cond.methodLink RX7 110 yX7_lightOf, Cond.instanceMethod yX7_lightOf, Cond.selects RX7 yX7_lightOf yX7_lightOf, Cond.code yX7_lightOf cX7_lightOf 5 (some .int), Cond.fieldLink RX7 104 "SkipRaysModel" "hour" "I", Cond.methodLink RX7 145 yX7_lengthOf, Cond.static yX7_lengthOf, Cond.code yX7_lengthOf cX7_lengthOf 2 (some .int)]
def wsX7_follow : List Cond := .code yX7_follow cX7_follow 11 (some .boolean) :: ((wsX7_follow_r1 ++ wsX7_follow_r2) ++ wsX70)
def wsX7_followBy_r1 : List Cond := [Cond.methodLink RX7 148 yX7_follow, Cond.instanceMethod yX7_follow, Cond.selects RX7 yX7_follow yX7_follow, Cond.initialized RX7, Cond.code yX7_follow cX7_follow 11 (some .boolean), Cond.fieldLink RX7 129 "SkipRaysModel" "legs" "I", Cond.fieldLink RX7 132 "SkipRaysModel" "byE" "I", Cond.fieldLink RX7 135 "SkipRaysModel" "left" "I", Cond.fieldLink RX7 138 "SkipRaysModel" "delay" "I", Cond.fieldLink RX7 20 "SkipRaysModel" "isSea" "[Z", Cond.methodLink RX7 141 yX7_layerOf, Cond.instanceMethod yX7_layerOf, Cond.selects RX7 yX7_layerOf yX7_layerOf, Cond.code yX7_layerOf cX7_layerOf 5 (some .int), Cond.methodLink RX7 121 yX7_on, Cond.static yX7_on, Cond.code yX7_on cX7_on 3 (some .int), Cond.methodLink RX7 125 yX7_bends, Cond.instanceMethod yX7_bends, Cond.selects RX7 yX7_bends yX7_bends, Cond.code yX7_bends cX7_bends 5 (some .boolean), Cond.methodLink RX7 118 yX7_dense, Cond.instanceMethod yX7_dense, Cond.selects RX7 yX7_dense yX7_dense]
def wsX7_followBy_r2 : List Cond := [Cond.code yX7_dense cX7_dense 5 (some .int), Cond.fieldLink RX7 114 "SkipRaysModel" "isCalm" "Z", Cond.fieldLink RX7 98 "SkipRaysModel" "flare" "I", Cond.fieldLink RX7 13 "SkipRaysModel" "cloud" "[I", Cond.fieldLink RX7 7 "SkipRaysModel" "sun" "I", Cond.fieldLink RX7 92 "SkipRaysModel" "storm" "I", Cond.methodLink RX7 110 yX7_lightOf, Cond.instanceMethod yX7_lightOf, Cond.selects RX7 yX7_lightOf yX7_lightOf, Cond.code yX7_lightOf cX7_lightOf 5 (some .int), Cond.fieldLink RX7 104 "SkipRaysModel" "hour" "I", Cond.methodLink RX7 145 yX7_lengthOf, Cond.static yX7_lengthOf, Cond.code yX7_lengthOf cX7_lengthOf 2 (some .int)]
def wsX7_followBy : List Cond := .code yX7_followBy cX7_followBy 6 (some .boolean) :: ((wsX7_followBy_r1 ++ wsX7_followBy_r2) ++ wsX70)
def wsX7_landed_r1 : List Cond := [Cond.methodLink RX7 141 yX7_layerOf, Cond.instanceMethod yX7_layerOf, Cond.selects RX7 yX7_layerOf yX7_layerOf, Cond.initialized RX7, Cond.code yX7_layerOf cX7_layerOf 5 (some .int), Cond.methodLink RX7 121 yX7_on, Cond.static yX7_on, Cond.code yX7_on cX7_on 3 (some .int), Cond.methodLink RX7 125 yX7_bends, Cond.instanceMethod yX7_bends, Cond.selects RX7 yX7_bends yX7_bends, Cond.code yX7_bends cX7_bends 5 (some .boolean), Cond.methodLink RX7 118 yX7_dense, Cond.instanceMethod yX7_dense, Cond.selects RX7 yX7_dense yX7_dense, Cond.code yX7_dense cX7_dense 5 (some .int), Cond.fieldLink RX7 114 "SkipRaysModel" "isCalm" "Z", Cond.fieldLink RX7 98 "SkipRaysModel" "flare" "I", Cond.fieldLink RX7 13 "SkipRaysModel" "cloud" "[I", Cond.fieldLink RX7 7 "SkipRaysModel" "sun" "I", Cond.fieldLink RX7 92 "SkipRaysModel" "storm" "I", Cond.methodLink RX7 110 yX7_lightOf, Cond.instanceMethod yX7_lightOf, Cond.selects RX7 yX7_lightOf yX7_lightOf]
def wsX7_landed_r2 : List Cond := [Cond.code yX7_lightOf cX7_lightOf 5 (some .int), Cond.fieldLink RX7 104 "SkipRaysModel" "hour" "I", Cond.methodLink RX7 145 yX7_lengthOf, Cond.static yX7_lengthOf, Cond.code yX7_lengthOf cX7_lengthOf 2 (some .int)]
def wsX7_landed : List Cond := .code yX7_landed cX7_landed 9 (some .int) :: ((wsX7_landed_r1 ++ wsX7_landed_r2) ++ wsX70)
def wsX7_landing_r1 : List Cond := [Cond.methodLink RX7 101 yX7_isPlace, Cond.static yX7_isPlace, Cond.initialized RX7, Cond.code yX7_isPlace cX7_isPlace 1 (some .boolean), Cond.methodLink RX7 81 yX7_in, Cond.static yX7_in, Cond.code yX7_in cX7_in 3 (some .boolean), Cond.methodLink RX7 152 yX7_isOn, Cond.static yX7_isOn, Cond.code yX7_isOn cX7_isOn 1 (some .boolean), Cond.methodLink RX7 88 yX7_goesWell, Cond.instanceMethod yX7_goesWell, Cond.selects RX7 yX7_goesWell yX7_goesWell, Cond.code yX7_goesWell cX7_goesWell 2 (some .boolean), Cond.fieldLink RX7 78 "SkipRaysModel" "thrown" "I", Cond.methodLink RX7 155 yX7_landed, Cond.instanceMethod yX7_landed, Cond.selects RX7 yX7_landed yX7_landed, Cond.code yX7_landed cX7_landed 9 (some .int), Cond.methodLink RX7 141 yX7_layerOf, Cond.instanceMethod yX7_layerOf, Cond.selects RX7 yX7_layerOf yX7_layerOf, Cond.code yX7_layerOf cX7_layerOf 5 (some .int), Cond.methodLink RX7 121 yX7_on]
def wsX7_landing_r2 : List Cond := [Cond.static yX7_on, Cond.code yX7_on cX7_on 3 (some .int), Cond.methodLink RX7 125 yX7_bends, Cond.instanceMethod yX7_bends, Cond.selects RX7 yX7_bends yX7_bends, Cond.code yX7_bends cX7_bends 5 (some .boolean), Cond.methodLink RX7 118 yX7_dense, Cond.instanceMethod yX7_dense, Cond.selects RX7 yX7_dense yX7_dense, Cond.code yX7_dense cX7_dense 5 (some .int), Cond.fieldLink RX7 114 "SkipRaysModel" "isCalm" "Z", Cond.fieldLink RX7 98 "SkipRaysModel" "flare" "I", Cond.fieldLink RX7 13 "SkipRaysModel" "cloud" "[I", Cond.fieldLink RX7 7 "SkipRaysModel" "sun" "I", Cond.fieldLink RX7 92 "SkipRaysModel" "storm" "I", Cond.methodLink RX7 110 yX7_lightOf, Cond.instanceMethod yX7_lightOf, Cond.selects RX7 yX7_lightOf yX7_lightOf, Cond.code yX7_lightOf cX7_lightOf 5 (some .int), Cond.fieldLink RX7 104 "SkipRaysModel" "hour" "I", Cond.methodLink RX7 145 yX7_lengthOf, Cond.static yX7_lengthOf, Cond.code yX7_lengthOf cX7_lengthOf 2 (some .int)]
def wsX7_landing : List Cond := .code yX7_landing cX7_landing 8 (some .int) :: ((wsX7_landing_r1 ++ wsX7_landing_r2) ++ wsX70)
def wsX7_landingAnew_r1 : List Cond := [Cond.methodLink RX7 101 yX7_isPlace, Cond.static yX7_isPlace, Cond.initialized RX7, Cond.code yX7_isPlace cX7_isPlace 1 (some .boolean), Cond.methodLink RX7 81 yX7_in, Cond.static yX7_in, Cond.code yX7_in cX7_in 3 (some .boolean), Cond.methodLink RX7 152 yX7_isOn, Cond.static yX7_isOn, Cond.code yX7_isOn cX7_isOn 1 (some .boolean), Cond.methodLink RX7 88 yX7_goesWell, Cond.instanceMethod yX7_goesWell, Cond.selects RX7 yX7_goesWell yX7_goesWell, Cond.code yX7_goesWell cX7_goesWell 2 (some .boolean), Cond.fieldLink RX7 78 "SkipRaysModel" "thrown" "I", Cond.methodLink RX7 155 yX7_landed, Cond.instanceMethod yX7_landed, Cond.selects RX7 yX7_landed yX7_landed, Cond.code yX7_landed cX7_landed 9 (some .int), Cond.methodLink RX7 141 yX7_layerOf, Cond.instanceMethod yX7_layerOf, Cond.selects RX7 yX7_layerOf yX7_layerOf, Cond.code yX7_layerOf cX7_layerOf 5 (some .int), Cond.methodLink RX7 121 yX7_on]
def wsX7_landingAnew_r2 : List Cond := [Cond.static yX7_on, Cond.code yX7_on cX7_on 3 (some .int), Cond.methodLink RX7 125 yX7_bends, Cond.instanceMethod yX7_bends, Cond.selects RX7 yX7_bends yX7_bends, Cond.code yX7_bends cX7_bends 5 (some .boolean), Cond.methodLink RX7 118 yX7_dense, Cond.instanceMethod yX7_dense, Cond.selects RX7 yX7_dense yX7_dense, Cond.code yX7_dense cX7_dense 5 (some .int), Cond.fieldLink RX7 114 "SkipRaysModel" "isCalm" "Z", Cond.fieldLink RX7 98 "SkipRaysModel" "flare" "I", Cond.fieldLink RX7 13 "SkipRaysModel" "cloud" "[I", Cond.fieldLink RX7 7 "SkipRaysModel" "sun" "I", Cond.fieldLink RX7 92 "SkipRaysModel" "storm" "I", Cond.methodLink RX7 110 yX7_lightOf, Cond.instanceMethod yX7_lightOf, Cond.selects RX7 yX7_lightOf yX7_lightOf, Cond.code yX7_lightOf cX7_lightOf 5 (some .int), Cond.fieldLink RX7 104 "SkipRaysModel" "hour" "I", Cond.methodLink RX7 145 yX7_lengthOf, Cond.static yX7_lengthOf, Cond.code yX7_lengthOf cX7_lengthOf 2 (some .int)]
def wsX7_landingAnew : List Cond := .code yX7_landingAnew cX7_landingAnew 8 (some .int) :: ((wsX7_landingAnew_r1 ++ wsX7_landingAnew_r2) ++ wsX70)
def wsX7_pathsOf_r1 : List Cond := [Cond.methodLink RX7 159 yX7_followBy, Cond.instanceMethod yX7_followBy, Cond.selects RX7 yX7_followBy yX7_followBy, Cond.initialized RX7, Cond.code yX7_followBy cX7_followBy 6 (some .boolean), Cond.methodLink RX7 148 yX7_follow, Cond.instanceMethod yX7_follow, Cond.selects RX7 yX7_follow yX7_follow, Cond.code yX7_follow cX7_follow 11 (some .boolean), Cond.fieldLink RX7 129 "SkipRaysModel" "legs" "I", Cond.fieldLink RX7 132 "SkipRaysModel" "byE" "I", Cond.fieldLink RX7 135 "SkipRaysModel" "left" "I", Cond.fieldLink RX7 138 "SkipRaysModel" "delay" "I", Cond.fieldLink RX7 20 "SkipRaysModel" "isSea" "[Z", Cond.methodLink RX7 141 yX7_layerOf, Cond.instanceMethod yX7_layerOf, Cond.selects RX7 yX7_layerOf yX7_layerOf, Cond.code yX7_layerOf cX7_layerOf 5 (some .int), Cond.methodLink RX7 121 yX7_on, Cond.static yX7_on, Cond.code yX7_on cX7_on 3 (some .int), Cond.methodLink RX7 125 yX7_bends, Cond.instanceMethod yX7_bends, Cond.selects RX7 yX7_bends yX7_bends]
def wsX7_pathsOf_r2 : List Cond := [Cond.code yX7_bends cX7_bends 5 (some .boolean), Cond.methodLink RX7 118 yX7_dense, Cond.instanceMethod yX7_dense, Cond.selects RX7 yX7_dense yX7_dense, Cond.code yX7_dense cX7_dense 5 (some .int), Cond.fieldLink RX7 114 "SkipRaysModel" "isCalm" "Z", Cond.fieldLink RX7 98 "SkipRaysModel" "flare" "I", Cond.fieldLink RX7 13 "SkipRaysModel" "cloud" "[I", Cond.fieldLink RX7 7 "SkipRaysModel" "sun" "I", Cond.fieldLink RX7 92 "SkipRaysModel" "storm" "I", Cond.methodLink RX7 110 yX7_lightOf, Cond.instanceMethod yX7_lightOf, Cond.selects RX7 yX7_lightOf yX7_lightOf, Cond.code yX7_lightOf cX7_lightOf 5 (some .int), Cond.fieldLink RX7 104 "SkipRaysModel" "hour" "I", Cond.methodLink RX7 145 yX7_lengthOf, Cond.static yX7_lengthOf, Cond.code yX7_lengthOf cX7_lengthOf 2 (some .int)]
def wsX7_pathsOf : List Cond := .code yX7_pathsOf cX7_pathsOf 7 (some .int) :: ((wsX7_pathsOf_r1 ++ wsX7_pathsOf_r2) ++ wsX70)
def wsX7_paths_r1 : List Cond := [Cond.methodLink RX7 101 yX7_isPlace, Cond.static yX7_isPlace, Cond.initialized RX7, Cond.code yX7_isPlace cX7_isPlace 1 (some .boolean), Cond.methodLink RX7 81 yX7_in, Cond.static yX7_in, Cond.code yX7_in cX7_in 3 (some .boolean), Cond.methodLink RX7 152 yX7_isOn, Cond.static yX7_isOn, Cond.code yX7_isOn cX7_isOn 1 (some .boolean), Cond.methodLink RX7 88 yX7_goesWell, Cond.instanceMethod yX7_goesWell, Cond.selects RX7 yX7_goesWell yX7_goesWell, Cond.code yX7_goesWell cX7_goesWell 2 (some .boolean), Cond.fieldLink RX7 78 "SkipRaysModel" "thrown" "I", Cond.methodLink RX7 163 yX7_pathsOf, Cond.instanceMethod yX7_pathsOf, Cond.selects RX7 yX7_pathsOf yX7_pathsOf, Cond.code yX7_pathsOf cX7_pathsOf 7 (some .int), Cond.methodLink RX7 159 yX7_followBy, Cond.instanceMethod yX7_followBy, Cond.selects RX7 yX7_followBy yX7_followBy, Cond.code yX7_followBy cX7_followBy 6 (some .boolean), Cond.methodLink RX7 148 yX7_follow]
def wsX7_paths_r2 : List Cond := [Cond.instanceMethod yX7_follow, Cond.selects RX7 yX7_follow yX7_follow, Cond.code yX7_follow cX7_follow 11 (some .boolean), Cond.fieldLink RX7 129 "SkipRaysModel" "legs" "I", Cond.fieldLink RX7 132 "SkipRaysModel" "byE" "I", Cond.fieldLink RX7 135 "SkipRaysModel" "left" "I", Cond.fieldLink RX7 138 "SkipRaysModel" "delay" "I", Cond.fieldLink RX7 20 "SkipRaysModel" "isSea" "[Z", Cond.methodLink RX7 141 yX7_layerOf, Cond.instanceMethod yX7_layerOf, Cond.selects RX7 yX7_layerOf yX7_layerOf, Cond.code yX7_layerOf cX7_layerOf 5 (some .int), Cond.methodLink RX7 121 yX7_on, Cond.static yX7_on, Cond.code yX7_on cX7_on 3 (some .int), Cond.methodLink RX7 125 yX7_bends, Cond.instanceMethod yX7_bends, Cond.selects RX7 yX7_bends yX7_bends, Cond.code yX7_bends cX7_bends 5 (some .boolean), Cond.methodLink RX7 118 yX7_dense, Cond.instanceMethod yX7_dense, Cond.selects RX7 yX7_dense yX7_dense, Cond.code yX7_dense cX7_dense 5 (some .int), Cond.fieldLink RX7 114 "SkipRaysModel" "isCalm" "Z"]
def wsX7_paths_r3 : List Cond := [Cond.fieldLink RX7 98 "SkipRaysModel" "flare" "I", Cond.fieldLink RX7 13 "SkipRaysModel" "cloud" "[I", Cond.fieldLink RX7 7 "SkipRaysModel" "sun" "I", Cond.fieldLink RX7 92 "SkipRaysModel" "storm" "I", Cond.methodLink RX7 110 yX7_lightOf, Cond.instanceMethod yX7_lightOf, Cond.selects RX7 yX7_lightOf yX7_lightOf, Cond.code yX7_lightOf cX7_lightOf 5 (some .int), Cond.fieldLink RX7 104 "SkipRaysModel" "hour" "I", Cond.methodLink RX7 145 yX7_lengthOf, Cond.static yX7_lengthOf, Cond.code yX7_lengthOf cX7_lengthOf 2 (some .int)]
def wsX7_paths : List Cond := .code yX7_paths cX7_paths 6 (some .int) :: ((wsX7_paths_r1 ++ (wsX7_paths_r2 ++ wsX7_paths_r3)) ++ wsX70)
def wsX7_path_r1 : List Cond := [Cond.fieldLink RX7 129 "SkipRaysModel" "legs" "I", Cond.fieldLink RX7 132 "SkipRaysModel" "byE" "I", Cond.fieldLink RX7 135 "SkipRaysModel" "left" "I", Cond.fieldLink RX7 138 "SkipRaysModel" "delay" "I", Cond.methodLink RX7 101 yX7_isPlace, Cond.static yX7_isPlace, Cond.initialized RX7, Cond.code yX7_isPlace cX7_isPlace 1 (some .boolean), Cond.methodLink RX7 81 yX7_in, Cond.static yX7_in, Cond.code yX7_in cX7_in 3 (some .boolean), Cond.methodLink RX7 152 yX7_isOn, Cond.static yX7_isOn, Cond.code yX7_isOn cX7_isOn 1 (some .boolean), Cond.methodLink RX7 163 yX7_pathsOf, Cond.instanceMethod yX7_pathsOf, Cond.selects RX7 yX7_pathsOf yX7_pathsOf, Cond.code yX7_pathsOf cX7_pathsOf 7 (some .int), Cond.methodLink RX7 159 yX7_followBy, Cond.instanceMethod yX7_followBy, Cond.selects RX7 yX7_followBy yX7_followBy, Cond.code yX7_followBy cX7_followBy 6 (some .boolean), Cond.methodLink RX7 148 yX7_follow, Cond.instanceMethod yX7_follow]
def wsX7_path_r2 : List Cond := [Cond.selects RX7 yX7_follow yX7_follow, Cond.code yX7_follow cX7_follow 11 (some .boolean), Cond.fieldLink RX7 20 "SkipRaysModel" "isSea" "[Z", Cond.methodLink RX7 141 yX7_layerOf, Cond.instanceMethod yX7_layerOf, Cond.selects RX7 yX7_layerOf yX7_layerOf, Cond.code yX7_layerOf cX7_layerOf 5 (some .int), Cond.methodLink RX7 121 yX7_on, Cond.static yX7_on, Cond.code yX7_on cX7_on 3 (some .int), Cond.methodLink RX7 125 yX7_bends, Cond.instanceMethod yX7_bends, Cond.selects RX7 yX7_bends yX7_bends, Cond.code yX7_bends cX7_bends 5 (some .boolean), Cond.methodLink RX7 118 yX7_dense, Cond.instanceMethod yX7_dense, Cond.selects RX7 yX7_dense yX7_dense, Cond.code yX7_dense cX7_dense 5 (some .int), Cond.fieldLink RX7 114 "SkipRaysModel" "isCalm" "Z", Cond.fieldLink RX7 98 "SkipRaysModel" "flare" "I", Cond.fieldLink RX7 13 "SkipRaysModel" "cloud" "[I", Cond.fieldLink RX7 7 "SkipRaysModel" "sun" "I", Cond.fieldLink RX7 92 "SkipRaysModel" "storm" "I", Cond.methodLink RX7 110 yX7_lightOf]
def wsX7_path_r3 : List Cond := [Cond.instanceMethod yX7_lightOf, Cond.selects RX7 yX7_lightOf yX7_lightOf, Cond.code yX7_lightOf cX7_lightOf 5 (some .int), Cond.fieldLink RX7 104 "SkipRaysModel" "hour" "I", Cond.methodLink RX7 145 yX7_lengthOf, Cond.static yX7_lengthOf, Cond.code yX7_lengthOf cX7_lengthOf 2 (some .int), Cond.methodLink RX7 88 yX7_goesWell, Cond.instanceMethod yX7_goesWell, Cond.selects RX7 yX7_goesWell yX7_goesWell, Cond.code yX7_goesWell cX7_goesWell 2 (some .boolean), Cond.fieldLink RX7 78 "SkipRaysModel" "thrown" "I"]
def wsX7_path : List Cond := .code yX7_path cX7_path 12 (some .int) :: ((wsX7_path_r1 ++ (wsX7_path_r2 ++ wsX7_path_r3)) ++ wsX70)
def wsX7_explain_r1 : List Cond := [Cond.fieldLink RX7 138 "SkipRaysModel" "delay" "I", Cond.methodLink RX7 101 yX7_isPlace, Cond.static yX7_isPlace, Cond.initialized RX7, Cond.code yX7_isPlace cX7_isPlace 1 (some .boolean), Cond.methodLink RX7 81 yX7_in, Cond.static yX7_in, Cond.code yX7_in cX7_in 3 (some .boolean), Cond.methodLink RX7 152 yX7_isOn, Cond.static yX7_isOn, Cond.code yX7_isOn cX7_isOn 1 (some .boolean), Cond.methodLink RX7 88 yX7_goesWell, Cond.instanceMethod yX7_goesWell, Cond.selects RX7 yX7_goesWell yX7_goesWell, Cond.code yX7_goesWell cX7_goesWell 2 (some .boolean), Cond.fieldLink RX7 78 "SkipRaysModel" "thrown" "I", Cond.methodLink RX7 159 yX7_followBy, Cond.instanceMethod yX7_followBy, Cond.selects RX7 yX7_followBy yX7_followBy, Cond.code yX7_followBy cX7_followBy 6 (some .boolean), Cond.methodLink RX7 148 yX7_follow, Cond.instanceMethod yX7_follow, Cond.selects RX7 yX7_follow yX7_follow, Cond.code yX7_follow cX7_follow 11 (some .boolean)]
def wsX7_explain_r2 : List Cond := [Cond.fieldLink RX7 129 "SkipRaysModel" "legs" "I", Cond.fieldLink RX7 132 "SkipRaysModel" "byE" "I", Cond.fieldLink RX7 135 "SkipRaysModel" "left" "I", Cond.fieldLink RX7 20 "SkipRaysModel" "isSea" "[Z", Cond.methodLink RX7 141 yX7_layerOf, Cond.instanceMethod yX7_layerOf, Cond.selects RX7 yX7_layerOf yX7_layerOf, Cond.code yX7_layerOf cX7_layerOf 5 (some .int), Cond.methodLink RX7 121 yX7_on, Cond.static yX7_on, Cond.code yX7_on cX7_on 3 (some .int), Cond.methodLink RX7 125 yX7_bends, Cond.instanceMethod yX7_bends, Cond.selects RX7 yX7_bends yX7_bends, Cond.code yX7_bends cX7_bends 5 (some .boolean), Cond.methodLink RX7 118 yX7_dense, Cond.instanceMethod yX7_dense, Cond.selects RX7 yX7_dense yX7_dense, Cond.code yX7_dense cX7_dense 5 (some .int), Cond.fieldLink RX7 114 "SkipRaysModel" "isCalm" "Z", Cond.fieldLink RX7 98 "SkipRaysModel" "flare" "I", Cond.fieldLink RX7 13 "SkipRaysModel" "cloud" "[I", Cond.fieldLink RX7 7 "SkipRaysModel" "sun" "I", Cond.fieldLink RX7 92 "SkipRaysModel" "storm" "I"]
def wsX7_explain_r3 : List Cond := [Cond.methodLink RX7 110 yX7_lightOf, Cond.instanceMethod yX7_lightOf, Cond.selects RX7 yX7_lightOf yX7_lightOf, Cond.code yX7_lightOf cX7_lightOf 5 (some .int), Cond.fieldLink RX7 104 "SkipRaysModel" "hour" "I", Cond.methodLink RX7 145 yX7_lengthOf, Cond.static yX7_lengthOf, Cond.code yX7_lengthOf cX7_lengthOf 2 (some .int)]
def wsX7_explain : List Cond := .code yX7_explain cX7_explain 13 (some .int) :: ((wsX7_explain_r1 ++ (wsX7_explain_r2 ++ wsX7_explain_r3)) ++ wsX70)
def wsX7_usable_r1 : List Cond := [Cond.methodLink RX7 101 yX7_isPlace, Cond.static yX7_isPlace, Cond.initialized RX7, Cond.code yX7_isPlace cX7_isPlace 1 (some .boolean), Cond.methodLink RX7 81 yX7_in, Cond.static yX7_in, Cond.code yX7_in cX7_in 3 (some .boolean), Cond.methodLink RX7 88 yX7_goesWell, Cond.instanceMethod yX7_goesWell, Cond.selects RX7 yX7_goesWell yX7_goesWell, Cond.code yX7_goesWell cX7_goesWell 2 (some .boolean), Cond.fieldLink RX7 78 "SkipRaysModel" "thrown" "I", Cond.methodLink RX7 163 yX7_pathsOf, Cond.instanceMethod yX7_pathsOf, Cond.selects RX7 yX7_pathsOf yX7_pathsOf, Cond.code yX7_pathsOf cX7_pathsOf 7 (some .int), Cond.methodLink RX7 159 yX7_followBy, Cond.instanceMethod yX7_followBy, Cond.selects RX7 yX7_followBy yX7_followBy, Cond.code yX7_followBy cX7_followBy 6 (some .boolean), Cond.methodLink RX7 148 yX7_follow, Cond.instanceMethod yX7_follow, Cond.selects RX7 yX7_follow yX7_follow, Cond.code yX7_follow cX7_follow 11 (some .boolean)]
def wsX7_usable_r2 : List Cond := [Cond.fieldLink RX7 129 "SkipRaysModel" "legs" "I", Cond.fieldLink RX7 132 "SkipRaysModel" "byE" "I", Cond.fieldLink RX7 135 "SkipRaysModel" "left" "I", Cond.fieldLink RX7 138 "SkipRaysModel" "delay" "I", Cond.fieldLink RX7 20 "SkipRaysModel" "isSea" "[Z", Cond.methodLink RX7 141 yX7_layerOf, Cond.instanceMethod yX7_layerOf, Cond.selects RX7 yX7_layerOf yX7_layerOf, Cond.code yX7_layerOf cX7_layerOf 5 (some .int), Cond.methodLink RX7 121 yX7_on, Cond.static yX7_on, Cond.code yX7_on cX7_on 3 (some .int), Cond.methodLink RX7 125 yX7_bends, Cond.instanceMethod yX7_bends, Cond.selects RX7 yX7_bends yX7_bends, Cond.code yX7_bends cX7_bends 5 (some .boolean), Cond.methodLink RX7 118 yX7_dense, Cond.instanceMethod yX7_dense, Cond.selects RX7 yX7_dense yX7_dense, Cond.code yX7_dense cX7_dense 5 (some .int), Cond.fieldLink RX7 114 "SkipRaysModel" "isCalm" "Z", Cond.fieldLink RX7 98 "SkipRaysModel" "flare" "I", Cond.fieldLink RX7 13 "SkipRaysModel" "cloud" "[I", Cond.fieldLink RX7 7 "SkipRaysModel" "sun" "I"]
def wsX7_usable_r3 : List Cond := [Cond.fieldLink RX7 92 "SkipRaysModel" "storm" "I", Cond.methodLink RX7 110 yX7_lightOf, Cond.instanceMethod yX7_lightOf, Cond.selects RX7 yX7_lightOf yX7_lightOf, Cond.code yX7_lightOf cX7_lightOf 5 (some .int), Cond.fieldLink RX7 104 "SkipRaysModel" "hour" "I", Cond.methodLink RX7 145 yX7_lengthOf, Cond.static yX7_lengthOf, Cond.code yX7_lengthOf cX7_lengthOf 2 (some .int)]
def wsX7_usable : List Cond := .code yX7_usable cX7_usable 8 (some .int) :: ((wsX7_usable_r1 ++ (wsX7_usable_r2 ++ wsX7_usable_r3)) ++ wsX70)
def wsX7_skipped_r1 : List Cond := [Cond.methodLink RX7 101 yX7_isPlace, Cond.static yX7_isPlace, Cond.initialized RX7, Cond.code yX7_isPlace cX7_isPlace 1 (some .boolean), Cond.methodLink RX7 81 yX7_in, Cond.static yX7_in, Cond.code yX7_in cX7_in 3 (some .boolean), Cond.methodLink RX7 152 yX7_isOn, Cond.static yX7_isOn, Cond.code yX7_isOn cX7_isOn 1 (some .boolean), Cond.methodLink RX7 88 yX7_goesWell, Cond.instanceMethod yX7_goesWell, Cond.selects RX7 yX7_goesWell yX7_goesWell, Cond.code yX7_goesWell cX7_goesWell 2 (some .boolean), Cond.fieldLink RX7 78 "SkipRaysModel" "thrown" "I", Cond.methodLink RX7 141 yX7_layerOf, Cond.instanceMethod yX7_layerOf, Cond.selects RX7 yX7_layerOf yX7_layerOf, Cond.code yX7_layerOf cX7_layerOf 5 (some .int), Cond.methodLink RX7 121 yX7_on, Cond.static yX7_on, Cond.code yX7_on cX7_on 3 (some .int), Cond.methodLink RX7 125 yX7_bends, Cond.instanceMethod yX7_bends]
def wsX7_skipped_r2 : List Cond := [Cond.selects RX7 yX7_bends yX7_bends, Cond.code yX7_bends cX7_bends 5 (some .boolean), Cond.methodLink RX7 118 yX7_dense, Cond.instanceMethod yX7_dense, Cond.selects RX7 yX7_dense yX7_dense, Cond.code yX7_dense cX7_dense 5 (some .int), Cond.fieldLink RX7 114 "SkipRaysModel" "isCalm" "Z", Cond.fieldLink RX7 98 "SkipRaysModel" "flare" "I", Cond.fieldLink RX7 13 "SkipRaysModel" "cloud" "[I", Cond.fieldLink RX7 7 "SkipRaysModel" "sun" "I", Cond.fieldLink RX7 92 "SkipRaysModel" "storm" "I", Cond.methodLink RX7 110 yX7_lightOf, Cond.instanceMethod yX7_lightOf, Cond.selects RX7 yX7_lightOf yX7_lightOf, Cond.code yX7_lightOf cX7_lightOf 5 (some .int), Cond.fieldLink RX7 104 "SkipRaysModel" "hour" "I", Cond.methodLink RX7 145 yX7_lengthOf, Cond.static yX7_lengthOf, Cond.code yX7_lengthOf cX7_lengthOf 2 (some .int)]
def wsX7_skipped : List Cond := .code yX7_skipped cX7_skipped 9 (some .int) :: ((wsX7_skipped_r1 ++ wsX7_skipped_r2) ++ wsX70)
def wsX7_begins : List Cond := .code yX7_begins cX7_begins 7 (some .int) :: ([])
def wsX7_signalOf_r1 : List Cond := [Cond.fieldLink RX7 135 "SkipRaysModel" "left" "I", Cond.fieldLink RX7 24 "SkipRaysModel" "noise" "[I", Cond.methodLink RX7 167 yX7_begins, Cond.static yX7_begins, Cond.initialized RX7, Cond.code yX7_begins cX7_begins 7 (some .int), Cond.methodLink RX7 159 yX7_followBy, Cond.instanceMethod yX7_followBy, Cond.selects RX7 yX7_followBy yX7_followBy, Cond.code yX7_followBy cX7_followBy 6 (some .boolean), Cond.methodLink RX7 148 yX7_follow, Cond.instanceMethod yX7_follow, Cond.selects RX7 yX7_follow yX7_follow, Cond.code yX7_follow cX7_follow 11 (some .boolean), Cond.fieldLink RX7 129 "SkipRaysModel" "legs" "I", Cond.fieldLink RX7 132 "SkipRaysModel" "byE" "I", Cond.fieldLink RX7 138 "SkipRaysModel" "delay" "I", Cond.fieldLink RX7 20 "SkipRaysModel" "isSea" "[Z", Cond.methodLink RX7 141 yX7_layerOf, Cond.instanceMethod yX7_layerOf, Cond.selects RX7 yX7_layerOf yX7_layerOf, Cond.code yX7_layerOf cX7_layerOf 5 (some .int), Cond.methodLink RX7 121 yX7_on, Cond.static yX7_on]
def wsX7_signalOf_r2 : List Cond := [Cond.code yX7_on cX7_on 3 (some .int), Cond.methodLink RX7 125 yX7_bends, Cond.instanceMethod yX7_bends, Cond.selects RX7 yX7_bends yX7_bends, Cond.code yX7_bends cX7_bends 5 (some .boolean), Cond.methodLink RX7 118 yX7_dense, Cond.instanceMethod yX7_dense, Cond.selects RX7 yX7_dense yX7_dense, Cond.code yX7_dense cX7_dense 5 (some .int), Cond.fieldLink RX7 114 "SkipRaysModel" "isCalm" "Z", Cond.fieldLink RX7 98 "SkipRaysModel" "flare" "I", Cond.fieldLink RX7 13 "SkipRaysModel" "cloud" "[I", Cond.fieldLink RX7 7 "SkipRaysModel" "sun" "I", Cond.fieldLink RX7 92 "SkipRaysModel" "storm" "I", Cond.methodLink RX7 110 yX7_lightOf, Cond.instanceMethod yX7_lightOf, Cond.selects RX7 yX7_lightOf yX7_lightOf, Cond.code yX7_lightOf cX7_lightOf 5 (some .int), Cond.fieldLink RX7 104 "SkipRaysModel" "hour" "I", Cond.methodLink RX7 145 yX7_lengthOf, Cond.static yX7_lengthOf, Cond.code yX7_lengthOf cX7_lengthOf 2 (some .int)]
def wsX7_signalOf : List Cond := .code yX7_signalOf cX7_signalOf 10 (some .int) :: ((wsX7_signalOf_r1 ++ wsX7_signalOf_r2) ++ wsX70)
def wsX7_signalBy_r1 : List Cond := [Cond.fieldLink RX7 27 "SkipRaysModel" "place" "[I", Cond.fieldLink RX7 30 "SkipRaysModel" "power" "[I", Cond.fieldLink RX7 33 "SkipRaysModel" "antenna" "[I", Cond.fieldLink RX7 36 "SkipRaysModel" "heading" "[I", Cond.methodLink RX7 170 yX7_signalOf, Cond.instanceMethod yX7_signalOf, Cond.selects RX7 yX7_signalOf yX7_signalOf, Cond.initialized RX7, Cond.code yX7_signalOf cX7_signalOf 10 (some .int), Cond.fieldLink RX7 135 "SkipRaysModel" "left" "I", Cond.fieldLink RX7 24 "SkipRaysModel" "noise" "[I", Cond.methodLink RX7 167 yX7_begins, Cond.static yX7_begins, Cond.code yX7_begins cX7_begins 7 (some .int), Cond.methodLink RX7 159 yX7_followBy, Cond.instanceMethod yX7_followBy, Cond.selects RX7 yX7_followBy yX7_followBy, Cond.code yX7_followBy cX7_followBy 6 (some .boolean), Cond.methodLink RX7 148 yX7_follow, Cond.instanceMethod yX7_follow, Cond.selects RX7 yX7_follow yX7_follow, Cond.code yX7_follow cX7_follow 11 (some .boolean), Cond.fieldLink RX7 129 "SkipRaysModel" "legs" "I", Cond.fieldLink RX7 132 "SkipRaysModel" "byE" "I"]
def wsX7_signalBy_r2 : List Cond := [Cond.fieldLink RX7 138 "SkipRaysModel" "delay" "I", Cond.fieldLink RX7 20 "SkipRaysModel" "isSea" "[Z", Cond.methodLink RX7 141 yX7_layerOf, Cond.instanceMethod yX7_layerOf, Cond.selects RX7 yX7_layerOf yX7_layerOf, Cond.code yX7_layerOf cX7_layerOf 5 (some .int), Cond.methodLink RX7 121 yX7_on, Cond.static yX7_on, Cond.code yX7_on cX7_on 3 (some .int), Cond.methodLink RX7 125 yX7_bends, Cond.instanceMethod yX7_bends, Cond.selects RX7 yX7_bends yX7_bends, Cond.code yX7_bends cX7_bends 5 (some .boolean), Cond.methodLink RX7 118 yX7_dense, Cond.instanceMethod yX7_dense, Cond.selects RX7 yX7_dense yX7_dense, Cond.code yX7_dense cX7_dense 5 (some .int), Cond.fieldLink RX7 114 "SkipRaysModel" "isCalm" "Z", Cond.fieldLink RX7 98 "SkipRaysModel" "flare" "I", Cond.fieldLink RX7 13 "SkipRaysModel" "cloud" "[I", Cond.fieldLink RX7 7 "SkipRaysModel" "sun" "I", Cond.fieldLink RX7 92 "SkipRaysModel" "storm" "I", Cond.methodLink RX7 110 yX7_lightOf, Cond.instanceMethod yX7_lightOf]
def wsX7_signalBy_r3 : List Cond := [Cond.selects RX7 yX7_lightOf yX7_lightOf, Cond.code yX7_lightOf cX7_lightOf 5 (some .int), Cond.fieldLink RX7 104 "SkipRaysModel" "hour" "I", Cond.methodLink RX7 145 yX7_lengthOf, Cond.static yX7_lengthOf, Cond.code yX7_lengthOf cX7_lengthOf 2 (some .int)]
def wsX7_signalBy : List Cond := .code yX7_signalBy cX7_signalBy 4 (some .int) :: ((wsX7_signalBy_r1 ++ (wsX7_signalBy_r2 ++ wsX7_signalBy_r3)) ++ wsX70)
def wsX7_station : List Cond := .code yX7_station cX7_station 7 (some .int) :: ([.fieldLink RX7 85 "SkipRaysModel" "stations" "I", .fieldLink RX7 27 "SkipRaysModel" "place" "[I", .fieldLink RX7 30 "SkipRaysModel" "power" "[I", .fieldLink RX7 33 "SkipRaysModel" "antenna" "[I", .fieldLink RX7 36 "SkipRaysModel" "heading" "[I", .methodLink RX7 101 yX7_isPlace, .static yX7_isPlace, .initialized RX7, .code yX7_isPlace cX7_isPlace 1 (some .boolean), .methodLink RX7 81 yX7_in, .static yX7_in, .code yX7_in cX7_in 3 (some .boolean), .methodLink RX7 88 yX7_goesWell, .instanceMethod yX7_goesWell, .selects RX7 yX7_goesWell yX7_goesWell, .code yX7_goesWell cX7_goesWell 2 (some .boolean), .fieldLink RX7 78 "SkipRaysModel" "thrown" "I"] ++ wsX70)
def wsX7_beacon : List Cond := .code yX7_beacon cX7_beacon 6 (some .int) :: ([.fieldLink RX7 174 "SkipRaysModel" "beacons" "I", .fieldLink RX7 39 "SkipRaysModel" "beaconPlace" "[I", .fieldLink RX7 42 "SkipRaysModel" "beaconOn" "[I", .fieldLink RX7 45 "SkipRaysModel" "beaconPower" "[I", .methodLink RX7 101 yX7_isPlace, .static yX7_isPlace, .initialized RX7, .code yX7_isPlace cX7_isPlace 1 (some .boolean), .methodLink RX7 81 yX7_in, .static yX7_in, .code yX7_in cX7_in 3 (some .boolean), .methodLink RX7 152 yX7_isOn, .static yX7_isOn, .code yX7_isOn cX7_isOn 1 (some .boolean), .methodLink RX7 88 yX7_goesWell, .instanceMethod yX7_goesWell, .selects RX7 yX7_goesWell yX7_goesWell, .code yX7_goesWell cX7_goesWell 2 (some .boolean), .fieldLink RX7 78 "SkipRaysModel" "thrown" "I"] ++ wsX70)
def wsX7_call_r1 : List Cond := [Cond.fieldLink RX7 180 "SkipRaysModel" "contacts" "I", Cond.fieldLink RX7 48 "SkipRaysModel" "caller" "[I", Cond.fieldLink RX7 51 "SkipRaysModel" "called" "[I", Cond.fieldLink RX7 54 "SkipRaysModel" "calledOn" "[I", Cond.fieldLink RX7 57 "SkipRaysModel" "mode" "[I", Cond.fieldLink RX7 60 "SkipRaysModel" "calledAt" "[I", Cond.fieldLink RX7 104 "SkipRaysModel" "hour" "I", Cond.methodLink RX7 177 yX7_isStation, Cond.instanceMethod yX7_isStation, Cond.selects RX7 yX7_isStation yX7_isStation, Cond.initialized RX7, Cond.code yX7_isStation cX7_isStation 2 (some .boolean), Cond.fieldLink RX7 85 "SkipRaysModel" "stations" "I", Cond.methodLink RX7 81 yX7_in, Cond.static yX7_in, Cond.code yX7_in cX7_in 3 (some .boolean), Cond.methodLink RX7 152 yX7_isOn, Cond.static yX7_isOn, Cond.code yX7_isOn cX7_isOn 1 (some .boolean), Cond.methodLink RX7 88 yX7_goesWell, Cond.instanceMethod yX7_goesWell, Cond.selects RX7 yX7_goesWell yX7_goesWell, Cond.code yX7_goesWell cX7_goesWell 2 (some .boolean), Cond.fieldLink RX7 78 "SkipRaysModel" "thrown" "I"]
def wsX7_call_r2 : List Cond := [Cond.methodLink RX7 183 yX7_signalBy, Cond.instanceMethod yX7_signalBy, Cond.selects RX7 yX7_signalBy yX7_signalBy, Cond.code yX7_signalBy cX7_signalBy 4 (some .int), Cond.fieldLink RX7 27 "SkipRaysModel" "place" "[I", Cond.fieldLink RX7 30 "SkipRaysModel" "power" "[I", Cond.fieldLink RX7 33 "SkipRaysModel" "antenna" "[I", Cond.fieldLink RX7 36 "SkipRaysModel" "heading" "[I", Cond.methodLink RX7 170 yX7_signalOf, Cond.instanceMethod yX7_signalOf, Cond.selects RX7 yX7_signalOf yX7_signalOf, Cond.code yX7_signalOf cX7_signalOf 10 (some .int), Cond.fieldLink RX7 135 "SkipRaysModel" "left" "I", Cond.fieldLink RX7 24 "SkipRaysModel" "noise" "[I", Cond.methodLink RX7 167 yX7_begins, Cond.static yX7_begins, Cond.code yX7_begins cX7_begins 7 (some .int), Cond.methodLink RX7 159 yX7_followBy, Cond.instanceMethod yX7_followBy, Cond.selects RX7 yX7_followBy yX7_followBy, Cond.code yX7_followBy cX7_followBy 6 (some .boolean), Cond.methodLink RX7 148 yX7_follow, Cond.instanceMethod yX7_follow, Cond.selects RX7 yX7_follow yX7_follow]
def wsX7_call_r3 : List Cond := [Cond.code yX7_follow cX7_follow 11 (some .boolean), Cond.fieldLink RX7 129 "SkipRaysModel" "legs" "I", Cond.fieldLink RX7 132 "SkipRaysModel" "byE" "I", Cond.fieldLink RX7 138 "SkipRaysModel" "delay" "I", Cond.fieldLink RX7 20 "SkipRaysModel" "isSea" "[Z", Cond.methodLink RX7 141 yX7_layerOf, Cond.instanceMethod yX7_layerOf, Cond.selects RX7 yX7_layerOf yX7_layerOf, Cond.code yX7_layerOf cX7_layerOf 5 (some .int), Cond.methodLink RX7 121 yX7_on, Cond.static yX7_on, Cond.code yX7_on cX7_on 3 (some .int), Cond.methodLink RX7 125 yX7_bends, Cond.instanceMethod yX7_bends, Cond.selects RX7 yX7_bends yX7_bends, Cond.code yX7_bends cX7_bends 5 (some .boolean), Cond.methodLink RX7 118 yX7_dense, Cond.instanceMethod yX7_dense, Cond.selects RX7 yX7_dense yX7_dense, Cond.code yX7_dense cX7_dense 5 (some .int), Cond.fieldLink RX7 114 "SkipRaysModel" "isCalm" "Z", Cond.fieldLink RX7 98 "SkipRaysModel" "flare" "I", Cond.fieldLink RX7 13 "SkipRaysModel" "cloud" "[I", Cond.fieldLink RX7 7 "SkipRaysModel" "sun" "I"]
def wsX7_call_r4 : List Cond := [Cond.fieldLink RX7 92 "SkipRaysModel" "storm" "I", Cond.methodLink RX7 110 yX7_lightOf, Cond.instanceMethod yX7_lightOf, Cond.selects RX7 yX7_lightOf yX7_lightOf, Cond.code yX7_lightOf cX7_lightOf 5 (some .int), Cond.methodLink RX7 145 yX7_lengthOf, Cond.static yX7_lengthOf, Cond.code yX7_lengthOf cX7_lengthOf 2 (some .int)]
def wsX7_call : List Cond := .code yX7_call cX7_call 9 (some .boolean) :: ((wsX7_call_r1 ++ (wsX7_call_r2 ++ (wsX7_call_r3 ++ wsX7_call_r4))) ++ wsX70)
def wsX7_log : List Cond := .code yX7_log cX7_log 9 (some .int) :: ([.fieldLink RX7 187 "SkipRaysModel" "entries" "I", .fieldLink RX7 75 "SkipRaysModel" "pair" "[I", .fieldLink RX7 63 "SkipRaysModel" "logger" "[I", .fieldLink RX7 66 "SkipRaysModel" "noted" "[I", .fieldLink RX7 69 "SkipRaysModel" "loggedOn" "[I", .fieldLink RX7 104 "SkipRaysModel" "hour" "I", .fieldLink RX7 72 "SkipRaysModel" "loggedAt" "[I", .methodLink RX7 177 yX7_isStation, .instanceMethod yX7_isStation, .selects RX7 yX7_isStation yX7_isStation, .initialized RX7, .code yX7_isStation cX7_isStation 2 (some .boolean), .fieldLink RX7 85 "SkipRaysModel" "stations" "I", .methodLink RX7 81 yX7_in, .static yX7_in, .code yX7_in cX7_in 3 (some .boolean), .methodLink RX7 152 yX7_isOn, .static yX7_isOn, .code yX7_isOn cX7_isOn 1 (some .boolean), .methodLink RX7 88 yX7_goesWell, .instanceMethod yX7_goesWell, .selects RX7 yX7_goesWell yX7_goesWell, .code yX7_goesWell cX7_goesWell 2 (some .boolean), .fieldLink RX7 78 "SkipRaysModel" "thrown" "I"] ++ wsX70)
def wsX7_listen_r1 : List Cond := [Cond.fieldLink RX7 174 "SkipRaysModel" "beacons" "I", Cond.fieldLink RX7 39 "SkipRaysModel" "beaconPlace" "[I", Cond.fieldLink RX7 45 "SkipRaysModel" "beaconPower" "[I", Cond.fieldLink RX7 42 "SkipRaysModel" "beaconOn" "[I", Cond.fieldLink RX7 114 "SkipRaysModel" "isCalm" "Z", Cond.fieldLink RX7 190 "SkipRaysModel" "made" "I", Cond.fieldLink RX7 193 "SkipRaysModel" "right" "I", Cond.methodLink RX7 101 yX7_isPlace, Cond.static yX7_isPlace, Cond.initialized RX7, Cond.code yX7_isPlace cX7_isPlace 1 (some .boolean), Cond.methodLink RX7 81 yX7_in, Cond.static yX7_in, Cond.code yX7_in cX7_in 3 (some .boolean), Cond.methodLink RX7 88 yX7_goesWell, Cond.instanceMethod yX7_goesWell, Cond.selects RX7 yX7_goesWell yX7_goesWell, Cond.code yX7_goesWell cX7_goesWell 2 (some .boolean), Cond.fieldLink RX7 78 "SkipRaysModel" "thrown" "I", Cond.methodLink RX7 170 yX7_signalOf, Cond.instanceMethod yX7_signalOf, Cond.selects RX7 yX7_signalOf yX7_signalOf, Cond.code yX7_signalOf cX7_signalOf 10 (some .int), Cond.fieldLink RX7 135 "SkipRaysModel" "left" "I"]
def wsX7_listen_r2 : List Cond := [Cond.fieldLink RX7 24 "SkipRaysModel" "noise" "[I", Cond.methodLink RX7 167 yX7_begins, Cond.static yX7_begins, Cond.code yX7_begins cX7_begins 7 (some .int), Cond.methodLink RX7 159 yX7_followBy, Cond.instanceMethod yX7_followBy, Cond.selects RX7 yX7_followBy yX7_followBy, Cond.code yX7_followBy cX7_followBy 6 (some .boolean), Cond.methodLink RX7 148 yX7_follow, Cond.instanceMethod yX7_follow, Cond.selects RX7 yX7_follow yX7_follow, Cond.code yX7_follow cX7_follow 11 (some .boolean), Cond.fieldLink RX7 129 "SkipRaysModel" "legs" "I", Cond.fieldLink RX7 132 "SkipRaysModel" "byE" "I", Cond.fieldLink RX7 138 "SkipRaysModel" "delay" "I", Cond.fieldLink RX7 20 "SkipRaysModel" "isSea" "[Z", Cond.methodLink RX7 141 yX7_layerOf, Cond.instanceMethod yX7_layerOf, Cond.selects RX7 yX7_layerOf yX7_layerOf, Cond.code yX7_layerOf cX7_layerOf 5 (some .int), Cond.methodLink RX7 121 yX7_on, Cond.static yX7_on, Cond.code yX7_on cX7_on 3 (some .int), Cond.methodLink RX7 125 yX7_bends]
def wsX7_listen_r3 : List Cond := [Cond.instanceMethod yX7_bends, Cond.selects RX7 yX7_bends yX7_bends, Cond.code yX7_bends cX7_bends 5 (some .boolean), Cond.methodLink RX7 118 yX7_dense, Cond.instanceMethod yX7_dense, Cond.selects RX7 yX7_dense yX7_dense, Cond.code yX7_dense cX7_dense 5 (some .int), Cond.fieldLink RX7 98 "SkipRaysModel" "flare" "I", Cond.fieldLink RX7 13 "SkipRaysModel" "cloud" "[I", Cond.fieldLink RX7 7 "SkipRaysModel" "sun" "I", Cond.fieldLink RX7 92 "SkipRaysModel" "storm" "I", Cond.methodLink RX7 110 yX7_lightOf, Cond.instanceMethod yX7_lightOf, Cond.selects RX7 yX7_lightOf yX7_lightOf, Cond.code yX7_lightOf cX7_lightOf 5 (some .int), Cond.fieldLink RX7 104 "SkipRaysModel" "hour" "I", Cond.methodLink RX7 145 yX7_lengthOf, Cond.static yX7_lengthOf, Cond.code yX7_lengthOf cX7_lengthOf 2 (some .int)]
def wsX7_listen : List Cond := .code yX7_listen cX7_listen 6 (some .int) :: ((wsX7_listen_r1 ++ (wsX7_listen_r2 ++ wsX7_listen_r3)) ++ wsX70)
def wsX7_hour : List Cond := .code yX7_hour cX7_hour 1 (some .int) :: ([.fieldLink RX7 78 "SkipRaysModel" "thrown" "I", .fieldLink RX7 104 "SkipRaysModel" "hour" "I"] ++ wsX70)
def wsX7_light : List Cond := .code yX7_light cX7_light 4 (some .int) :: ([.methodLink RX7 101 yX7_isPlace, .static yX7_isPlace, .initialized RX7, .code yX7_isPlace cX7_isPlace 1 (some .boolean), .methodLink RX7 81 yX7_in, .static yX7_in, .code yX7_in cX7_in 3 (some .boolean), .methodLink RX7 88 yX7_goesWell, .instanceMethod yX7_goesWell, .selects RX7 yX7_goesWell yX7_goesWell, .code yX7_goesWell cX7_goesWell 2 (some .boolean), .fieldLink RX7 78 "SkipRaysModel" "thrown" "I", .methodLink RX7 110 yX7_lightOf, .instanceMethod yX7_lightOf, .selects RX7 yX7_lightOf yX7_lightOf, .code yX7_lightOf cX7_lightOf 5 (some .int), .fieldLink RX7 104 "SkipRaysModel" "hour" "I"] ++ wsX70)
def wsX7_density_r1 : List Cond := [Cond.methodLink RX7 101 yX7_isPlace, Cond.static yX7_isPlace, Cond.initialized RX7, Cond.code yX7_isPlace cX7_isPlace 1 (some .boolean), Cond.methodLink RX7 81 yX7_in, Cond.static yX7_in, Cond.code yX7_in cX7_in 3 (some .boolean), Cond.methodLink RX7 88 yX7_goesWell, Cond.instanceMethod yX7_goesWell, Cond.selects RX7 yX7_goesWell yX7_goesWell, Cond.code yX7_goesWell cX7_goesWell 2 (some .boolean), Cond.fieldLink RX7 78 "SkipRaysModel" "thrown" "I", Cond.methodLink RX7 118 yX7_dense, Cond.instanceMethod yX7_dense, Cond.selects RX7 yX7_dense yX7_dense, Cond.code yX7_dense cX7_dense 5 (some .int), Cond.fieldLink RX7 114 "SkipRaysModel" "isCalm" "Z", Cond.fieldLink RX7 98 "SkipRaysModel" "flare" "I", Cond.fieldLink RX7 13 "SkipRaysModel" "cloud" "[I", Cond.fieldLink RX7 7 "SkipRaysModel" "sun" "I", Cond.fieldLink RX7 92 "SkipRaysModel" "storm" "I", Cond.methodLink RX7 110 yX7_lightOf, Cond.instanceMethod yX7_lightOf, Cond.selects RX7 yX7_lightOf yX7_lightOf]
def wsX7_density_r2 : List Cond := [Cond.code yX7_lightOf cX7_lightOf 5 (some .int), Cond.fieldLink RX7 104 "SkipRaysModel" "hour" "I"]
def wsX7_density : List Cond := .code yX7_density cX7_density 4 (some .int) :: ((wsX7_density_r1 ++ wsX7_density_r2) ++ wsX70)
def wsX7_signal_r1 : List Cond := [Cond.methodLink RX7 177 yX7_isStation, Cond.instanceMethod yX7_isStation, Cond.selects RX7 yX7_isStation yX7_isStation, Cond.initialized RX7, Cond.code yX7_isStation cX7_isStation 2 (some .boolean), Cond.fieldLink RX7 85 "SkipRaysModel" "stations" "I", Cond.methodLink RX7 81 yX7_in, Cond.static yX7_in, Cond.code yX7_in cX7_in 3 (some .boolean), Cond.methodLink RX7 152 yX7_isOn, Cond.static yX7_isOn, Cond.code yX7_isOn cX7_isOn 1 (some .boolean), Cond.methodLink RX7 88 yX7_goesWell, Cond.instanceMethod yX7_goesWell, Cond.selects RX7 yX7_goesWell yX7_goesWell, Cond.code yX7_goesWell cX7_goesWell 2 (some .boolean), Cond.fieldLink RX7 78 "SkipRaysModel" "thrown" "I", Cond.methodLink RX7 183 yX7_signalBy, Cond.instanceMethod yX7_signalBy, Cond.selects RX7 yX7_signalBy yX7_signalBy, Cond.code yX7_signalBy cX7_signalBy 4 (some .int), Cond.fieldLink RX7 27 "SkipRaysModel" "place" "[I", Cond.fieldLink RX7 30 "SkipRaysModel" "power" "[I", Cond.fieldLink RX7 33 "SkipRaysModel" "antenna" "[I"]
def wsX7_signal_r2 : List Cond := [Cond.fieldLink RX7 36 "SkipRaysModel" "heading" "[I", Cond.methodLink RX7 170 yX7_signalOf, Cond.instanceMethod yX7_signalOf, Cond.selects RX7 yX7_signalOf yX7_signalOf, Cond.code yX7_signalOf cX7_signalOf 10 (some .int), Cond.fieldLink RX7 135 "SkipRaysModel" "left" "I", Cond.fieldLink RX7 24 "SkipRaysModel" "noise" "[I", Cond.methodLink RX7 167 yX7_begins, Cond.static yX7_begins, Cond.code yX7_begins cX7_begins 7 (some .int), Cond.methodLink RX7 159 yX7_followBy, Cond.instanceMethod yX7_followBy, Cond.selects RX7 yX7_followBy yX7_followBy, Cond.code yX7_followBy cX7_followBy 6 (some .boolean), Cond.methodLink RX7 148 yX7_follow, Cond.instanceMethod yX7_follow, Cond.selects RX7 yX7_follow yX7_follow, Cond.code yX7_follow cX7_follow 11 (some .boolean), Cond.fieldLink RX7 129 "SkipRaysModel" "legs" "I", Cond.fieldLink RX7 132 "SkipRaysModel" "byE" "I", Cond.fieldLink RX7 138 "SkipRaysModel" "delay" "I", Cond.fieldLink RX7 20 "SkipRaysModel" "isSea" "[Z", Cond.methodLink RX7 141 yX7_layerOf, Cond.instanceMethod yX7_layerOf]
def wsX7_signal_r3 : List Cond := [Cond.selects RX7 yX7_layerOf yX7_layerOf, Cond.code yX7_layerOf cX7_layerOf 5 (some .int), Cond.methodLink RX7 121 yX7_on, Cond.static yX7_on, Cond.code yX7_on cX7_on 3 (some .int), Cond.methodLink RX7 125 yX7_bends, Cond.instanceMethod yX7_bends, Cond.selects RX7 yX7_bends yX7_bends, Cond.code yX7_bends cX7_bends 5 (some .boolean), Cond.methodLink RX7 118 yX7_dense, Cond.instanceMethod yX7_dense, Cond.selects RX7 yX7_dense yX7_dense, Cond.code yX7_dense cX7_dense 5 (some .int), Cond.fieldLink RX7 114 "SkipRaysModel" "isCalm" "Z", Cond.fieldLink RX7 98 "SkipRaysModel" "flare" "I", Cond.fieldLink RX7 13 "SkipRaysModel" "cloud" "[I", Cond.fieldLink RX7 7 "SkipRaysModel" "sun" "I", Cond.fieldLink RX7 92 "SkipRaysModel" "storm" "I", Cond.methodLink RX7 110 yX7_lightOf, Cond.instanceMethod yX7_lightOf, Cond.selects RX7 yX7_lightOf yX7_lightOf, Cond.code yX7_lightOf cX7_lightOf 5 (some .int), Cond.fieldLink RX7 104 "SkipRaysModel" "hour" "I", Cond.methodLink RX7 145 yX7_lengthOf]
def wsX7_signal_r4 : List Cond := [Cond.static yX7_lengthOf, Cond.code yX7_lengthOf cX7_lengthOf 2 (some .int)]
def wsX7_signal : List Cond := .code yX7_signal cX7_signal 5 (some .int) :: ((wsX7_signal_r1 ++ (wsX7_signal_r2 ++ (wsX7_signal_r3 ++ wsX7_signal_r4))) ++ wsX70)
def wsX7_contactOf : List Cond := .code yX7_contactOf cX7_contactOf 4 (some .int) :: ([.fieldLink RX7 180 "SkipRaysModel" "contacts" "I", .fieldLink RX7 48 "SkipRaysModel" "caller" "[I", .fieldLink RX7 51 "SkipRaysModel" "called" "[I", .fieldLink RX7 54 "SkipRaysModel" "calledOn" "[I", .fieldLink RX7 57 "SkipRaysModel" "mode" "[I", .fieldLink RX7 60 "SkipRaysModel" "calledAt" "[I", .methodLink RX7 81 yX7_in, .static yX7_in, .initialized RX7, .code yX7_in cX7_in 3 (some .boolean), .methodLink RX7 88 yX7_goesWell, .instanceMethod yX7_goesWell, .selects RX7 yX7_goesWell yX7_goesWell, .code yX7_goesWell cX7_goesWell 2 (some .boolean), .fieldLink RX7 78 "SkipRaysModel" "thrown" "I"] ++ wsX70)
def wsX7_counts : List Cond := .code yX7_counts cX7_counts 6 (some .boolean) :: ([.fieldLink RX7 180 "SkipRaysModel" "contacts" "I", .fieldLink RX7 75 "SkipRaysModel" "pair" "[I", .fieldLink RX7 48 "SkipRaysModel" "caller" "[I", .fieldLink RX7 63 "SkipRaysModel" "logger" "[I", .fieldLink RX7 51 "SkipRaysModel" "called" "[I", .fieldLink RX7 66 "SkipRaysModel" "noted" "[I", .fieldLink RX7 60 "SkipRaysModel" "calledAt" "[I", .fieldLink RX7 72 "SkipRaysModel" "loggedAt" "[I", .fieldLink RX7 54 "SkipRaysModel" "calledOn" "[I", .fieldLink RX7 69 "SkipRaysModel" "loggedOn" "[I"] ++ wsX70)
def wsX7_entryOf : List Cond := .code yX7_entryOf cX7_entryOf 4 (some .int) :: ([.fieldLink RX7 187 "SkipRaysModel" "entries" "I", .fieldLink RX7 63 "SkipRaysModel" "logger" "[I", .fieldLink RX7 66 "SkipRaysModel" "noted" "[I", .fieldLink RX7 69 "SkipRaysModel" "loggedOn" "[I", .fieldLink RX7 72 "SkipRaysModel" "loggedAt" "[I", .fieldLink RX7 75 "SkipRaysModel" "pair" "[I", .methodLink RX7 81 yX7_in, .static yX7_in, .initialized RX7, .code yX7_in cX7_in 3 (some .boolean), .methodLink RX7 88 yX7_goesWell, .instanceMethod yX7_goesWell, .selects RX7 yX7_goesWell yX7_goesWell, .code yX7_goesWell cX7_goesWell 2 (some .boolean), .fieldLink RX7 78 "SkipRaysModel" "thrown" "I", .methodLink RX7 196 yX7_counts, .instanceMethod yX7_counts, .selects RX7 yX7_counts yX7_counts, .code yX7_counts cX7_counts 6 (some .boolean), .fieldLink RX7 180 "SkipRaysModel" "contacts" "I", .fieldLink RX7 48 "SkipRaysModel" "caller" "[I", .fieldLink RX7 51 "SkipRaysModel" "called" "[I", .fieldLink RX7 60 "SkipRaysModel" "calledAt" "[I", .fieldLink RX7 54 "SkipRaysModel" "calledOn" "[I"] ++ wsX70)
def wsX7_score_r1 : List Cond := [Cond.fieldLink RX7 187 "SkipRaysModel" "entries" "I", Cond.fieldLink RX7 63 "SkipRaysModel" "logger" "[I", Cond.fieldLink RX7 27 "SkipRaysModel" "place" "[I", Cond.fieldLink RX7 66 "SkipRaysModel" "noted" "[I", Cond.fieldLink RX7 75 "SkipRaysModel" "pair" "[I", Cond.fieldLink RX7 104 "SkipRaysModel" "hour" "I", Cond.fieldLink RX7 72 "SkipRaysModel" "loggedAt" "[I", Cond.methodLink RX7 177 yX7_isStation, Cond.instanceMethod yX7_isStation, Cond.selects RX7 yX7_isStation yX7_isStation, Cond.initialized RX7, Cond.code yX7_isStation cX7_isStation 2 (some .boolean), Cond.fieldLink RX7 85 "SkipRaysModel" "stations" "I", Cond.methodLink RX7 81 yX7_in, Cond.static yX7_in, Cond.code yX7_in cX7_in 3 (some .boolean), Cond.methodLink RX7 88 yX7_goesWell, Cond.instanceMethod yX7_goesWell, Cond.selects RX7 yX7_goesWell yX7_goesWell, Cond.code yX7_goesWell cX7_goesWell 2 (some .boolean), Cond.fieldLink RX7 78 "SkipRaysModel" "thrown" "I", Cond.methodLink RX7 196 yX7_counts, Cond.instanceMethod yX7_counts, Cond.selects RX7 yX7_counts yX7_counts]
def wsX7_score_r2 : List Cond := [Cond.code yX7_counts cX7_counts 6 (some .boolean), Cond.fieldLink RX7 180 "SkipRaysModel" "contacts" "I", Cond.fieldLink RX7 48 "SkipRaysModel" "caller" "[I", Cond.fieldLink RX7 51 "SkipRaysModel" "called" "[I", Cond.fieldLink RX7 60 "SkipRaysModel" "calledAt" "[I", Cond.fieldLink RX7 54 "SkipRaysModel" "calledOn" "[I", Cond.fieldLink RX7 69 "SkipRaysModel" "loggedOn" "[I", Cond.methodLink RX7 199 yX7_gap, Cond.static yX7_gap, Cond.code yX7_gap cX7_gap 3 (some .int)]
def wsX7_score : List Cond := .code yX7_score cX7_score 7 (some .int) :: ((wsX7_score_r1 ++ wsX7_score_r2) ++ wsX70)
def wsX7_forecasts : List Cond := .code yX7_forecasts cX7_forecasts 2 (some .int) :: ([.fieldLink RX7 78 "SkipRaysModel" "thrown" "I", .fieldLink RX7 193 "SkipRaysModel" "right" "I", .fieldLink RX7 190 "SkipRaysModel" "made" "I"] ++ wsX70)
def wsX7_count : List Cond := .code yX7_count cX7_count 4 (some .int) :: ([.fieldLink RX7 187 "SkipRaysModel" "entries" "I", .fieldLink RX7 75 "SkipRaysModel" "pair" "[I", .fieldLink RX7 85 "SkipRaysModel" "stations" "I", .fieldLink RX7 174 "SkipRaysModel" "beacons" "I", .fieldLink RX7 180 "SkipRaysModel" "contacts" "I", .methodLink RX7 81 yX7_in, .static yX7_in, .initialized RX7, .code yX7_in cX7_in 3 (some .boolean), .methodLink RX7 88 yX7_goesWell, .instanceMethod yX7_goesWell, .selects RX7 yX7_goesWell yX7_goesWell, .code yX7_goesWell cX7_goesWell 2 (some .boolean), .fieldLink RX7 78 "SkipRaysModel" "thrown" "I"] ++ wsX70)
def wsJ9_abs_0f7a4 : List Cond := .code yJ9_abs_0f7a4 cJ9_abs_0f7a4 1 (some .int) :: ([])
def wsJ9_max_7cf53 : List Cond := .code yJ9_max_7cf53 cJ9_max_7cf53 2 (some .int) :: ([])
def wsJ9_min_7cf53 : List Cond := .code yJ9_min_7cf53 cJ9_min_7cf53 2 (some .int) :: ([])
def wsL_sun_r1 : List Cond := [Cond.classLink RL 13 "java/lang/IllegalArgumentException", Cond.methodLink RL 7 yX6_sun, Cond.instanceMethod yX6_sun, Cond.selects RX6 yX6_sun yX6_sun, Cond.initialized RX6, Cond.code yX6_sun cX6_sun 3 (some .int), Cond.fieldLink RX6 12 "SkipRays" "air" "LSkipRays$Air;", Cond.fieldLink RX6 16 "SkipRays" "calm" "LSkipRays$Air;", Cond.methodLink RX6 59 yX6_needRange, Cond.static yX6_needRange, Cond.code yX6_needRange cX6_needRange 3 none, Cond.classLink RX6 274 "java/lang/IllegalArgumentException", Cond.initialized "java/lang/IllegalArgumentException", Cond.methodLink RX6 67 yX0_shineFrom, Cond.instanceMethod yX0_shineFrom, Cond.selects RX0 yX0_shineFrom yX0_shineFrom, Cond.initialized RX0, Cond.code yX0_shineFrom cX0_shineFrom 2 none, Cond.fieldLink RX0 9 "SkipRays$Air" "sunLevel" "I", Cond.methodLink RX0 27 yX0_settle, Cond.instanceMethod yX0_settle, Cond.selects RX0 yX0_settle yX0_settle, Cond.code yX0_settle cX0_settle 5 none, Cond.fieldLink RX0 42 "SkipRays$Air" "hourNow" "I"]
def wsL_sun_r2 : List Cond := [Cond.fieldLink RX0 36 "SkipRays$Air" "flareSize" "I", Cond.fieldLink RX0 24 "SkipRays$Air" "densities" "[[I", Cond.fieldLink RX0 15 "SkipRays$Air" "cloudStrength" "[I", Cond.fieldLink RX0 30 "SkipRays$Air" "stormStrength" "I", Cond.methodLink RX0 45 Lib.Math.max.name, Cond.static Lib.Math.max.name, Cond.initialized "java/lang/Math", Cond.code Lib.Math.max.name Lib.Math.max.code 2 (some .int), Cond.static yX6_lightIn, Cond.code yX6_lightIn cX6_lightIn 3 (some .int), Cond.methodLink RX6 211 Lib.Math.abs.name, Cond.static Lib.Math.abs.name, Cond.code Lib.Math.abs.name Lib.Math.abs.code 1 (some .int), Cond.methodLink RX6 226 Lib.Math.max.name]
def wsL_sun : List Cond := .codeWith yL_sun cL_sun 4 (some .int) [(0, 9, 12, 13)] :: ((wsL_sun_r1 ++ wsL_sun_r2) ++ wsX60 ++ wsX00 ++ (vx_atS RX6 278 "java/lang/IllegalArgumentException" ["java/lang/RuntimeException", "java/lang/Exception"]).filter goodWord)
def wsL_storm_r1 : List Cond := [Cond.classLink RL 13 "java/lang/IllegalArgumentException", Cond.methodLink RL 15 yX6_storm, Cond.instanceMethod yX6_storm, Cond.selects RX6 yX6_storm yX6_storm, Cond.initialized RX6, Cond.code yX6_storm cX6_storm 3 none, Cond.fieldLink RX6 12 "SkipRays" "air" "LSkipRays$Air;", Cond.methodLink RX6 59 yX6_needRange, Cond.static yX6_needRange, Cond.code yX6_needRange cX6_needRange 3 none, Cond.classLink RX6 274 "java/lang/IllegalArgumentException", Cond.initialized "java/lang/IllegalArgumentException", Cond.methodLink RX6 70 yX0_beginStorm, Cond.instanceMethod yX0_beginStorm, Cond.selects RX0 yX0_beginStorm yX0_beginStorm, Cond.initialized RX0, Cond.code yX0_beginStorm cX0_beginStorm 3 none, Cond.fieldLink RX0 30 "SkipRays$Air" "stormStrength" "I", Cond.fieldLink RX0 33 "SkipRays$Air" "stormHours" "I", Cond.methodLink RX0 27 yX0_settle, Cond.instanceMethod yX0_settle, Cond.selects RX0 yX0_settle yX0_settle, Cond.code yX0_settle cX0_settle 5 none, Cond.fieldLink RX0 42 "SkipRays$Air" "hourNow" "I"]
def wsL_storm_r2 : List Cond := [Cond.fieldLink RX0 36 "SkipRays$Air" "flareSize" "I", Cond.fieldLink RX0 9 "SkipRays$Air" "sunLevel" "I", Cond.fieldLink RX0 24 "SkipRays$Air" "densities" "[[I", Cond.fieldLink RX0 15 "SkipRays$Air" "cloudStrength" "[I", Cond.methodLink RX0 45 Lib.Math.max.name, Cond.static Lib.Math.max.name, Cond.initialized "java/lang/Math", Cond.code Lib.Math.max.name Lib.Math.max.code 2 (some .int), Cond.static yX6_lightIn, Cond.code yX6_lightIn cX6_lightIn 3 (some .int), Cond.methodLink RX6 211 Lib.Math.abs.name, Cond.static Lib.Math.abs.name, Cond.code Lib.Math.abs.name Lib.Math.abs.code 1 (some .int), Cond.methodLink RX6 226 Lib.Math.max.name]
def wsL_storm : List Cond := .codeWith yL_storm cL_storm 4 (some .int) [(0, 6, 9, 13)] :: ((wsL_storm_r1 ++ wsL_storm_r2) ++ wsX60 ++ wsX00 ++ (vx_atS RX6 278 "java/lang/IllegalArgumentException" ["java/lang/RuntimeException", "java/lang/Exception"]).filter goodWord)
def wsL_flare_r1 : List Cond := [Cond.classLink RL 13 "java/lang/IllegalArgumentException", Cond.methodLink RL 19 yX6_flare, Cond.instanceMethod yX6_flare, Cond.selects RX6 yX6_flare yX6_flare, Cond.initialized RX6, Cond.code yX6_flare cX6_flare 3 (some .int), Cond.fieldLink RX6 12 "SkipRays" "air" "LSkipRays$Air;", Cond.methodLink RX6 59 yX6_needRange, Cond.static yX6_needRange, Cond.code yX6_needRange cX6_needRange 3 none, Cond.classLink RX6 274 "java/lang/IllegalArgumentException", Cond.initialized "java/lang/IllegalArgumentException", Cond.methodLink RX6 77 yX0_burst, Cond.instanceMethod yX0_burst, Cond.selects RX0 yX0_burst yX0_burst, Cond.initialized RX0, Cond.code yX0_burst cX0_burst 2 none, Cond.fieldLink RX0 36 "SkipRays$Air" "flareSize" "I", Cond.methodLink RX0 27 yX0_settle, Cond.instanceMethod yX0_settle, Cond.selects RX0 yX0_settle yX0_settle, Cond.code yX0_settle cX0_settle 5 none, Cond.fieldLink RX0 42 "SkipRays$Air" "hourNow" "I", Cond.fieldLink RX0 9 "SkipRays$Air" "sunLevel" "I"]
def wsL_flare_r2 : List Cond := [Cond.fieldLink RX0 24 "SkipRays$Air" "densities" "[[I", Cond.fieldLink RX0 15 "SkipRays$Air" "cloudStrength" "[I", Cond.fieldLink RX0 30 "SkipRays$Air" "stormStrength" "I", Cond.methodLink RX0 45 Lib.Math.max.name, Cond.static Lib.Math.max.name, Cond.initialized "java/lang/Math", Cond.code Lib.Math.max.name Lib.Math.max.code 2 (some .int), Cond.static yX6_lightIn, Cond.code yX6_lightIn cX6_lightIn 3 (some .int), Cond.methodLink RX6 211 Lib.Math.abs.name, Cond.static Lib.Math.abs.name, Cond.code Lib.Math.abs.name Lib.Math.abs.code 1 (some .int), Cond.methodLink RX6 226 Lib.Math.max.name]
def wsL_flare : List Cond := .codeWith yL_flare cL_flare 4 (some .int) [(0, 9, 12, 13)] :: ((wsL_flare_r1 ++ wsL_flare_r2) ++ wsX60 ++ wsX00 ++ (vx_atS RX6 278 "java/lang/IllegalArgumentException" ["java/lang/RuntimeException", "java/lang/Exception"]).filter goodWord)
def wsL_cloud_r1 : List Cond := [Cond.classLink RL 26 "java/lang/IndexOutOfBoundsException", Cond.classLink RL 13 "java/lang/IllegalArgumentException", Cond.methodLink RL 22 yX6_cloud, Cond.instanceMethod yX6_cloud, Cond.selects RX6 yX6_cloud yX6_cloud, Cond.initialized RX6, Cond.code yX6_cloud cX6_cloud 4 none, Cond.fieldLink RX6 12 "SkipRays" "air" "LSkipRays$Air;", Cond.methodLink RX6 80 yX6_needPlace, Cond.static yX6_needPlace, Cond.code yX6_needPlace cX6_needPlace 1 none, Cond.classLink RX6 203 "java/lang/IndexOutOfBoundsException", Cond.initialized "java/lang/IndexOutOfBoundsException", Cond.methodLink RX6 59 yX6_needRange, Cond.static yX6_needRange, Cond.code yX6_needRange cX6_needRange 3 none, Cond.classLink RX6 274 "java/lang/IllegalArgumentException", Cond.initialized "java/lang/IllegalArgumentException", Cond.methodLink RX6 83 yX0_coverPlace, Cond.instanceMethod yX0_coverPlace, Cond.selects RX0 yX0_coverPlace yX0_coverPlace, Cond.initialized RX0, Cond.code yX0_coverPlace cX0_coverPlace 4 none, Cond.fieldLink RX0 15 "SkipRays$Air" "cloudStrength" "[I"]
def wsL_cloud_r2 : List Cond := [Cond.fieldLink RX0 19 "SkipRays$Air" "cloudHours" "[I", Cond.methodLink RX0 27 yX0_settle, Cond.instanceMethod yX0_settle, Cond.selects RX0 yX0_settle yX0_settle, Cond.code yX0_settle cX0_settle 5 none, Cond.fieldLink RX0 42 "SkipRays$Air" "hourNow" "I", Cond.fieldLink RX0 36 "SkipRays$Air" "flareSize" "I", Cond.fieldLink RX0 9 "SkipRays$Air" "sunLevel" "I", Cond.fieldLink RX0 24 "SkipRays$Air" "densities" "[[I", Cond.fieldLink RX0 30 "SkipRays$Air" "stormStrength" "I", Cond.methodLink RX0 45 Lib.Math.max.name, Cond.static Lib.Math.max.name, Cond.initialized "java/lang/Math", Cond.code Lib.Math.max.name Lib.Math.max.code 2 (some .int), Cond.static yX6_lightIn, Cond.code yX6_lightIn cX6_lightIn 3 (some .int), Cond.methodLink RX6 211 Lib.Math.abs.name, Cond.static Lib.Math.abs.name, Cond.code Lib.Math.abs.name Lib.Math.abs.code 1 (some .int), Cond.methodLink RX6 226 Lib.Math.max.name]
def wsL_cloud : List Cond := .codeWith yL_cloud cL_cloud 5 (some .int) [(0, 7, 10, 26), (0, 7, 14, 13)] :: ((wsL_cloud_r1 ++ wsL_cloud_r2) ++ wsX60 ++ wsX00 ++ (vx_atS RX6 207 "java/lang/IndexOutOfBoundsException" ["java/lang/RuntimeException", "java/lang/Exception"]).filter goodWord ++ (vx_atS RX6 278 "java/lang/IllegalArgumentException" ["java/lang/RuntimeException", "java/lang/Exception"]).filter goodWord)
def wsL_sea : List Cond := .codeWith yL_sea cL_sea 5 (some .int) [(0, 17, 20, 26)] :: ([.classLink RL 26 "java/lang/IndexOutOfBoundsException", .methodLink RL 28 yX6_sea, .instanceMethod yX6_sea, .selects RX6 yX6_sea yX6_sea, .initialized RX6, .code yX6_sea cX6_sea 4 (some .boolean), .fieldLink RX6 22 "SkipRays" "ground" "LSkipRays$Ground;", .methodLink RX6 80 yX6_needPlace, .static yX6_needPlace, .code yX6_needPlace cX6_needPlace 1 none, .classLink RX6 203 "java/lang/IndexOutOfBoundsException", .initialized "java/lang/IndexOutOfBoundsException"] ++ wsX60 ++ wsX30 ++ (vx_atS RX6 207 "java/lang/IndexOutOfBoundsException" ["java/lang/RuntimeException", "java/lang/Exception"]).filter goodWord)
def wsL_noise : List Cond := .codeWith yL_noise cL_noise 5 (some .int) [(0, 10, 13, 26), (0, 10, 17, 13)] :: ([.classLink RL 26 "java/lang/IndexOutOfBoundsException", .classLink RL 13 "java/lang/IllegalArgumentException", .methodLink RL 32 yX6_noise, .instanceMethod yX6_noise, .selects RX6 yX6_noise yX6_noise, .initialized RX6, .code yX6_noise cX6_noise 4 (some .int), .fieldLink RX6 22 "SkipRays" "ground" "LSkipRays$Ground;", .methodLink RX6 80 yX6_needPlace, .static yX6_needPlace, .code yX6_needPlace cX6_needPlace 1 none, .classLink RX6 203 "java/lang/IndexOutOfBoundsException", .initialized "java/lang/IndexOutOfBoundsException", .methodLink RX6 59 yX6_needRange, .static yX6_needRange, .code yX6_needRange cX6_needRange 3 none, .classLink RX6 274 "java/lang/IllegalArgumentException", .initialized "java/lang/IllegalArgumentException"] ++ wsX60 ++ wsX30 ++ (vx_atS RX6 207 "java/lang/IndexOutOfBoundsException" ["java/lang/RuntimeException", "java/lang/Exception"]).filter goodWord ++ (vx_atS RX6 278 "java/lang/IllegalArgumentException" ["java/lang/RuntimeException", "java/lang/Exception"]).filter goodWord)
def wsL_pass_r1 : List Cond := [Cond.classLink RL 13 "java/lang/IllegalArgumentException", Cond.classLink RL 39 "java/lang/IllegalStateException", Cond.methodLink RL 36 yX6_pass, Cond.instanceMethod yX6_pass, Cond.selects RX6 yX6_pass yX6_pass, Cond.initialized RX6, Cond.code yX6_pass cX6_pass 2 (some .int), Cond.classLink RX6 97 "java/lang/IllegalStateException", Cond.initialized "java/lang/IllegalStateException", Cond.fieldLink RX6 12 "SkipRays" "air" "LSkipRays$Air;", Cond.fieldLink RX6 16 "SkipRays" "calm" "LSkipRays$Air;", Cond.methodLink RX6 59 yX6_needRange, Cond.static yX6_needRange, Cond.code yX6_needRange cX6_needRange 3 none, Cond.classLink RX6 274 "java/lang/IllegalArgumentException", Cond.initialized "java/lang/IllegalArgumentException", Cond.methodLink RX6 104 yX0_letGoBy, Cond.instanceMethod yX0_letGoBy, Cond.selects RX0 yX0_letGoBy yX0_letGoBy, Cond.initialized RX0, Cond.code yX0_letGoBy cX0_letGoBy 3 none, Cond.methodLink RX0 39 yX0_letOneGoBy, Cond.instanceMethod yX0_letOneGoBy, Cond.selects RX0 yX0_letOneGoBy yX0_letOneGoBy]
def wsL_pass_r2 : List Cond := [Cond.code yX0_letOneGoBy cX0_letOneGoBy 2 none, Cond.fieldLink RX0 42 "SkipRays$Air" "hourNow" "I", Cond.fieldLink RX0 36 "SkipRays$Air" "flareSize" "I", Cond.fieldLink RX0 33 "SkipRays$Air" "stormHours" "I", Cond.methodLink RX0 45 Lib.Math.max.name, Cond.static Lib.Math.max.name, Cond.initialized "java/lang/Math", Cond.code Lib.Math.max.name Lib.Math.max.code 2 (some .int), Cond.fieldLink RX0 30 "SkipRays$Air" "stormStrength" "I", Cond.fieldLink RX0 19 "SkipRays$Air" "cloudHours" "[I", Cond.fieldLink RX0 15 "SkipRays$Air" "cloudStrength" "[I", Cond.methodLink RX0 27 yX0_settle, Cond.instanceMethod yX0_settle, Cond.selects RX0 yX0_settle yX0_settle, Cond.code yX0_settle cX0_settle 5 none, Cond.fieldLink RX0 9 "SkipRays$Air" "sunLevel" "I", Cond.fieldLink RX0 24 "SkipRays$Air" "densities" "[[I", Cond.static yX6_lightIn, Cond.code yX6_lightIn cX6_lightIn 3 (some .int), Cond.methodLink RX6 211 Lib.Math.abs.name, Cond.static Lib.Math.abs.name, Cond.code Lib.Math.abs.name Lib.Math.abs.code 1 (some .int), Cond.methodLink RX6 226 Lib.Math.max.name]
def wsL_pass : List Cond := .codeWith yL_pass cL_pass 4 (some .int) [(0, 9, 12, 13), (0, 9, 15, 39)] :: ((wsL_pass_r1 ++ wsL_pass_r2) ++ wsX60 ++ wsX00 ++ (vx_atS RX6 101 "java/lang/IllegalStateException" ["java/lang/RuntimeException", "java/lang/Exception"]).filter goodWord ++ (vx_atS RX6 278 "java/lang/IllegalArgumentException" ["java/lang/RuntimeException", "java/lang/Exception"]).filter goodWord)
def wsL_station_r1 : List Cond := [Cond.classLink RL 26 "java/lang/IndexOutOfBoundsException", Cond.classLink RL 13 "java/lang/IllegalArgumentException", Cond.classLink RL 39 "java/lang/IllegalStateException", Cond.methodLink RL 41 yX6_station, Cond.instanceMethod yX6_station, Cond.selects RX6 yX6_station yX6_station, Cond.initialized RX6, Cond.code yX6_station cX6_station 5 (some .int), Cond.classLink RX6 97 "java/lang/IllegalStateException", Cond.initialized "java/lang/IllegalStateException", Cond.fieldLink RX6 38 "SkipRays" "stations" "LSkipRays$Senders;", Cond.methodLink RX6 80 yX6_needPlace, Cond.static yX6_needPlace, Cond.code yX6_needPlace cX6_needPlace 1 none, Cond.classLink RX6 203 "java/lang/IndexOutOfBoundsException", Cond.initialized "java/lang/IndexOutOfBoundsException", Cond.methodLink RX6 59 yX6_needRange, Cond.static yX6_needRange, Cond.code yX6_needRange cX6_needRange 3 none, Cond.classLink RX6 274 "java/lang/IllegalArgumentException", Cond.initialized "java/lang/IllegalArgumentException", Cond.methodLink RX6 107 yX5_isFull, Cond.instanceMethod yX5_isFull, Cond.selects RX5 yX5_isFull yX5_isFull]
def wsL_station_r2 : List Cond := [Cond.initialized RX5, Cond.code yX5_isFull cX5_isFull 1 (some .boolean), Cond.fieldLink RX5 27 "SkipRays$Senders" "made" "I", Cond.fieldLink RX5 9 "SkipRays$Senders" "place" "[I", Cond.methodLink RX6 113 yX5_add, Cond.instanceMethod yX5_add, Cond.selects RX5 yX5_add yX5_add, Cond.code yX5_add cX5_add 7 (some .int), Cond.fieldLink RX5 15 "SkipRays$Senders" "power" "[I", Cond.fieldLink RX5 18 "SkipRays$Senders" "antenna" "[I", Cond.fieldLink RX5 21 "SkipRays$Senders" "heading" "[I", Cond.fieldLink RX5 24 "SkipRays$Senders" "frequency" "[I"]
def wsL_station : List Cond := .codeWith yL_station cL_station 7 (some .int) [(0, 14, 17, 26), (0, 14, 21, 13), (0, 14, 25, 39)] :: ((wsL_station_r1 ++ wsL_station_r2) ++ wsX60 ++ wsX50 ++ (vx_atS RX6 101 "java/lang/IllegalStateException" ["java/lang/RuntimeException", "java/lang/Exception"]).filter goodWord ++ (vx_atS RX6 207 "java/lang/IndexOutOfBoundsException" ["java/lang/RuntimeException", "java/lang/Exception"]).filter goodWord ++ (vx_atS RX6 278 "java/lang/IllegalArgumentException" ["java/lang/RuntimeException", "java/lang/Exception"]).filter goodWord)
def wsL_beacon_r1 : List Cond := [Cond.classLink RL 26 "java/lang/IndexOutOfBoundsException", Cond.classLink RL 13 "java/lang/IllegalArgumentException", Cond.classLink RL 39 "java/lang/IllegalStateException", Cond.methodLink RL 45 yX6_beacon, Cond.instanceMethod yX6_beacon, Cond.selects RX6 yX6_beacon yX6_beacon, Cond.initialized RX6, Cond.code yX6_beacon cX6_beacon 4 (some .int), Cond.classLink RX6 97 "java/lang/IllegalStateException", Cond.initialized "java/lang/IllegalStateException", Cond.fieldLink RX6 42 "SkipRays" "beacons" "LSkipRays$Senders;", Cond.methodLink RX6 80 yX6_needPlace, Cond.static yX6_needPlace, Cond.code yX6_needPlace cX6_needPlace 1 none, Cond.classLink RX6 203 "java/lang/IndexOutOfBoundsException", Cond.initialized "java/lang/IndexOutOfBoundsException", Cond.methodLink RX6 117 yX6_needFrequency, Cond.static yX6_needFrequency, Cond.code yX6_needFrequency cX6_needFrequency 1 none, Cond.methodLink RX6 59 yX6_needRange, Cond.static yX6_needRange, Cond.code yX6_needRange cX6_needRange 3 none, Cond.classLink RX6 274 "java/lang/IllegalArgumentException", Cond.initialized "java/lang/IllegalArgumentException"]
def wsL_beacon_r2 : List Cond := [Cond.methodLink RX6 107 yX5_isFull, Cond.instanceMethod yX5_isFull, Cond.selects RX5 yX5_isFull yX5_isFull, Cond.initialized RX5, Cond.code yX5_isFull cX5_isFull 1 (some .boolean), Cond.fieldLink RX5 27 "SkipRays$Senders" "made" "I", Cond.fieldLink RX5 9 "SkipRays$Senders" "place" "[I", Cond.methodLink RX6 113 yX5_add, Cond.instanceMethod yX5_add, Cond.selects RX5 yX5_add yX5_add, Cond.code yX5_add cX5_add 7 (some .int), Cond.fieldLink RX5 15 "SkipRays$Senders" "power" "[I", Cond.fieldLink RX5 18 "SkipRays$Senders" "antenna" "[I", Cond.fieldLink RX5 21 "SkipRays$Senders" "heading" "[I", Cond.fieldLink RX5 24 "SkipRays$Senders" "frequency" "[I"]
def wsL_beacon : List Cond := .codeWith yL_beacon cL_beacon 6 (some .int) [(0, 12, 15, 26), (0, 12, 19, 13), (0, 12, 23, 39)] :: ((wsL_beacon_r1 ++ wsL_beacon_r2) ++ wsX60 ++ wsX50 ++ (vx_atS RX6 101 "java/lang/IllegalStateException" ["java/lang/RuntimeException", "java/lang/Exception"]).filter goodWord ++ (vx_atS RX6 207 "java/lang/IndexOutOfBoundsException" ["java/lang/RuntimeException", "java/lang/Exception"]).filter goodWord ++ (vx_atS RX6 278 "java/lang/IllegalArgumentException" ["java/lang/RuntimeException", "java/lang/Exception"]).filter goodWord)
def wsL_call_r1 : List Cond := [Cond.classLink RL 26 "java/lang/IndexOutOfBoundsException", Cond.classLink RL 13 "java/lang/IllegalArgumentException", Cond.classLink RL 39 "java/lang/IllegalStateException", Cond.methodLink RL 49 yX6_call, Cond.instanceMethod yX6_call, Cond.selects RX6 yX6_call yX6_call, Cond.initialized RX6, Cond.code yX6_call cX6_call 6 (some .boolean), Cond.classLink RX6 97 "java/lang/IllegalStateException", Cond.initialized "java/lang/IllegalStateException", Cond.fieldLink RX6 48 "SkipRays" "contacts" "LSkipRays$Contacts;", Cond.fieldLink RX6 12 "SkipRays" "air" "LSkipRays$Air;", Cond.methodLink RX6 122 yX6_needStation, Cond.instanceMethod yX6_needStation, Cond.selects RX6 yX6_needStation yX6_needStation, Cond.code yX6_needStation cX6_needStation 2 none, Cond.classLink RX6 203 "java/lang/IndexOutOfBoundsException", Cond.initialized "java/lang/IndexOutOfBoundsException", Cond.fieldLink RX6 38 "SkipRays" "stations" "LSkipRays$Senders;", Cond.methodLink RX6 281 yX5_has, Cond.instanceMethod yX5_has, Cond.selects RX5 yX5_has yX5_has, Cond.initialized RX5, Cond.code yX5_has cX5_has 2 (some .boolean)]
def wsL_call_r2 : List Cond := [Cond.fieldLink RX5 27 "SkipRays$Senders" "made" "I", Cond.methodLink RX6 117 yX6_needFrequency, Cond.static yX6_needFrequency, Cond.code yX6_needFrequency cX6_needFrequency 1 none, Cond.methodLink RX6 59 yX6_needRange, Cond.static yX6_needRange, Cond.code yX6_needRange cX6_needRange 3 none, Cond.classLink RX6 274 "java/lang/IllegalArgumentException", Cond.initialized "java/lang/IllegalArgumentException", Cond.methodLink RX6 125 yX6_needDifferent, Cond.static yX6_needDifferent, Cond.code yX6_needDifferent cX6_needDifferent 2 none, Cond.methodLink RX6 128 yX1_isFull, Cond.instanceMethod yX1_isFull, Cond.selects RX1 yX1_isFull yX1_isFull, Cond.initialized RX1, Cond.code yX1_isFull cX1_isFull 1 (some .boolean), Cond.fieldLink RX1 27 "SkipRays$Contacts" "made" "I", Cond.methodLink RX6 131 yX6_neededFor, Cond.static yX6_neededFor, Cond.code yX6_neededFor cX6_neededFor 1 (some .int), Cond.methodLink RX6 135 yX6_signalBetween, Cond.instanceMethod yX6_signalBetween, Cond.selects RX6 yX6_signalBetween yX6_signalBetween]
def wsL_call_r3 : List Cond := [Cond.code yX6_signalBetween cX6_signalBetween 4 (some .int), Cond.methodLink RX6 154 yX6_signalAt, Cond.instanceMethod yX6_signalAt, Cond.selects RX6 yX6_signalAt yX6_signalAt, Cond.code yX6_signalAt cX6_signalAt 9 (some .int), Cond.fieldLink RX6 29 "SkipRays" "ray" "LSkipRays$Ray;", Cond.methodLink RX6 226 Lib.Math.max.name, Cond.static Lib.Math.max.name, Cond.initialized "java/lang/Math", Cond.code Lib.Math.max.name Lib.Math.max.code 2 (some .int), Cond.methodLink RX6 288 yX6_directionOf, Cond.static yX6_directionOf, Cond.code yX6_directionOf cX6_directionOf 1 (some .int), Cond.methodLink RX6 291 yX6_angleOf, Cond.static yX6_angleOf, Cond.code yX6_angleOf cX6_angleOf 1 (some .int), Cond.methodLink RX6 303 yX5_strengthAtFirst, Cond.instanceMethod yX5_strengthAtFirst, Cond.selects RX5 yX5_strengthAtFirst yX5_strengthAtFirst, Cond.code yX5_strengthAtFirst cX5_strengthAtFirst 4 (some .int), Cond.fieldLink RX5 15 "SkipRays$Senders" "power" "[I", Cond.fieldLink RX5 18 "SkipRays$Senders" "antenna" "[I", Cond.fieldLink RX5 21 "SkipRays$Senders" "heading" "[I", Cond.methodLink RX5 31 yX5_gain]
def wsL_call_r4 : List Cond := [Cond.static yX5_gain, Cond.code yX5_gain cX5_gain 2 (some .int), Cond.methodLink RX5 35 yX5_aside, Cond.static yX5_aside, Cond.code yX5_aside cX5_aside 2 (some .int), Cond.methodLink RX6 196 yX6_reaches, Cond.instanceMethod yX6_reaches, Cond.selects RX6 yX6_reaches yX6_reaches, Cond.code yX6_reaches cX6_reaches 8 (some .boolean), Cond.fieldLink RX6 22 "SkipRays" "ground" "LSkipRays$Ground;", Cond.methodLink RX6 294 yX4_leave, Cond.instanceMethod yX4_leave, Cond.selects RX4 yX4_leave yX4_leave, Cond.initialized RX4, Cond.code yX4_leave cX4_leave 6 none, Cond.fieldLink RX4 9 "SkipRays$Ray" "place" "I", Cond.fieldLink RX4 15 "SkipRays$Ray" "direction" "I", Cond.fieldLink RX4 18 "SkipRays$Ray" "angle" "I", Cond.fieldLink RX4 21 "SkipRays$Ray" "frequency" "I", Cond.fieldLink RX4 24 "SkipRays$Ray" "strength" "I", Cond.fieldLink RX4 27 "SkipRays$Ray" "legs" "I", Cond.fieldLink RX4 30 "SkipRays$Ray" "legsByE" "I", Cond.fieldLink RX4 33 "SkipRays$Ray" "delay" "I", Cond.methodLink RX6 297 yX4_goOn]
def wsL_call_r5 : List Cond := [Cond.instanceMethod yX4_goOn, Cond.selects RX4 yX4_goOn yX4_goOn, Cond.code yX4_goOn cX4_goOn 9 (some .boolean), Cond.methodLink RX4 36 yX0_bender, Cond.instanceMethod yX0_bender, Cond.selects RX0 yX0_bender yX0_bender, Cond.initialized RX0, Cond.code yX0_bender cX0_bender 7 (some .int), Cond.fieldLink RX0 24 "SkipRays$Air" "densities" "[[I", Cond.static yX6_lengthBy, Cond.code yX6_lengthBy cX6_lengthBy 2 (some .int), Cond.static yX6_ring, Cond.code yX6_ring cX6_ring 2 (some .int), Cond.static yX6_bends, Cond.code yX6_bends cX6_bends 3 (some .boolean), Cond.methodLink RX4 54 yX3_takes, Cond.instanceMethod yX3_takes, Cond.selects RX3 yX3_takes yX3_takes, Cond.initialized RX3, Cond.code yX3_takes cX3_takes 2 (some .int), Cond.fieldLink RX3 9 "SkipRays$Ground" "isSea" "[Z", Cond.methodLink RX6 309 yX6_noiseNow, Cond.instanceMethod yX6_noiseNow, Cond.selects RX6 yX6_noiseNow yX6_noiseNow]
def wsL_call_r6 : List Cond := [Cond.code yX6_noiseNow cX6_noiseNow 3 (some .int), Cond.methodLink RX6 164 yX6_lightIn, Cond.static yX6_lightIn, Cond.code yX6_lightIn cX6_lightIn 3 (some .int), Cond.methodLink RX6 211 Lib.Math.abs.name, Cond.static Lib.Math.abs.name, Cond.code Lib.Math.abs.name Lib.Math.abs.code 1 (some .int), Cond.methodLink RX6 139 yX1_add, Cond.instanceMethod yX1_add, Cond.selects RX1 yX1_add yX1_add, Cond.code yX1_add cX1_add 6 none, Cond.fieldLink RX1 9 "SkipRays$Contacts" "caller" "[I", Cond.fieldLink RX1 15 "SkipRays$Contacts" "called" "[I", Cond.fieldLink RX1 18 "SkipRays$Contacts" "frequency" "[I", Cond.fieldLink RX1 21 "SkipRays$Contacts" "mode" "[I", Cond.fieldLink RX1 24 "SkipRays$Contacts" "hourOf" "[I"]
def wsL_call : List Cond := .codeWith yL_call cL_call 7 (some .int) [(0, 21, 24, 26), (0, 21, 28, 13), (0, 21, 32, 39)] :: ((wsL_call_r1 ++ (wsL_call_r2 ++ (wsL_call_r3 ++ (wsL_call_r4 ++ (wsL_call_r5 ++ wsL_call_r6))))) ++ wsX60 ++ wsX00 ++ wsX50 ++ wsX10 ++ wsX40 ++ wsX30 ++ (vx_atS RX6 101 "java/lang/IllegalStateException" ["java/lang/RuntimeException", "java/lang/Exception"]).filter goodWord ++ (vx_atS RX6 207 "java/lang/IndexOutOfBoundsException" ["java/lang/RuntimeException", "java/lang/Exception"]).filter goodWord ++ (vx_atS RX6 278 "java/lang/IllegalArgumentException" ["java/lang/RuntimeException", "java/lang/Exception"]).filter goodWord)
def wsL_log_r1 : List Cond := [Cond.classLink RL 26 "java/lang/IndexOutOfBoundsException", Cond.classLink RL 13 "java/lang/IllegalArgumentException", Cond.classLink RL 39 "java/lang/IllegalStateException", Cond.methodLink RL 53 yX6_log, Cond.instanceMethod yX6_log, Cond.selects RX6 yX6_log yX6_log, Cond.initialized RX6, Cond.code yX6_log cX6_log 4 (some .int), Cond.classLink RX6 97 "java/lang/IllegalStateException", Cond.initialized "java/lang/IllegalStateException", Cond.fieldLink RX6 55 "SkipRays" "entries" "LSkipRays$Entries;", Cond.fieldLink RX6 12 "SkipRays" "air" "LSkipRays$Air;", Cond.methodLink RX6 122 yX6_needStation, Cond.instanceMethod yX6_needStation, Cond.selects RX6 yX6_needStation yX6_needStation, Cond.code yX6_needStation cX6_needStation 2 none, Cond.classLink RX6 203 "java/lang/IndexOutOfBoundsException", Cond.initialized "java/lang/IndexOutOfBoundsException", Cond.fieldLink RX6 38 "SkipRays" "stations" "LSkipRays$Senders;", Cond.methodLink RX6 281 yX5_has, Cond.instanceMethod yX5_has, Cond.selects RX5 yX5_has yX5_has, Cond.initialized RX5, Cond.code yX5_has cX5_has 2 (some .boolean)]
def wsL_log_r2 : List Cond := [Cond.fieldLink RX5 27 "SkipRays$Senders" "made" "I", Cond.methodLink RX6 117 yX6_needFrequency, Cond.static yX6_needFrequency, Cond.code yX6_needFrequency cX6_needFrequency 1 none, Cond.methodLink RX6 59 yX6_needRange, Cond.static yX6_needRange, Cond.code yX6_needRange cX6_needRange 3 none, Cond.classLink RX6 274 "java/lang/IllegalArgumentException", Cond.initialized "java/lang/IllegalArgumentException", Cond.methodLink RX6 125 yX6_needDifferent, Cond.static yX6_needDifferent, Cond.code yX6_needDifferent cX6_needDifferent 2 none, Cond.methodLink RX6 142 yX2_isFull, Cond.instanceMethod yX2_isFull, Cond.selects RX2 yX2_isFull yX2_isFull, Cond.initialized RX2, Cond.code yX2_isFull cX2_isFull 1 (some .boolean), Cond.fieldLink RX2 27 "SkipRays$Entries" "made" "I", Cond.methodLink RX6 145 yX2_add, Cond.instanceMethod yX2_add, Cond.selects RX2 yX2_add yX2_add, Cond.code yX2_add cX2_add 7 (some .int), Cond.fieldLink RX2 9 "SkipRays$Entries" "by" "[I", Cond.fieldLink RX2 15 "SkipRays$Entries" "noted" "[I"]
def wsL_log_r3 : List Cond := [Cond.fieldLink RX2 18 "SkipRays$Entries" "frequency" "[I", Cond.fieldLink RX2 21 "SkipRays$Entries" "hourOf" "[I", Cond.fieldLink RX2 24 "SkipRays$Entries" "pair" "[I", Cond.fieldLink RX2 35 "SkipRays$Entries" "paired" "I", Cond.methodLink RX2 31 yX2_partnerFor, Cond.instanceMethod yX2_partnerFor, Cond.selects RX2 yX2_partnerFor yX2_partnerFor, Cond.code yX2_partnerFor cX2_partnerFor 6 (some .int)]
def wsL_log : List Cond := .codeWith yL_log cL_log 6 (some .int) [(0, 12, 15, 26), (0, 12, 19, 13), (0, 12, 23, 39)] :: ((wsL_log_r1 ++ (wsL_log_r2 ++ wsL_log_r3)) ++ wsX60 ++ wsX00 ++ wsX50 ++ wsX20 ++ (vx_atS RX6 101 "java/lang/IllegalStateException" ["java/lang/RuntimeException", "java/lang/Exception"]).filter goodWord ++ (vx_atS RX6 207 "java/lang/IndexOutOfBoundsException" ["java/lang/RuntimeException", "java/lang/Exception"]).filter goodWord ++ (vx_atS RX6 278 "java/lang/IllegalArgumentException" ["java/lang/RuntimeException", "java/lang/Exception"]).filter goodWord)
def wsL_listen_r1 : List Cond := [Cond.classLink RL 26 "java/lang/IndexOutOfBoundsException", Cond.methodLink RL 56 yX6_listen, Cond.instanceMethod yX6_listen, Cond.selects RX6 yX6_listen yX6_listen, Cond.initialized RX6, Cond.code yX6_listen cX6_listen 7 (some .int), Cond.fieldLink RX6 42 "SkipRays" "beacons" "LSkipRays$Senders;", Cond.fieldLink RX6 12 "SkipRays" "air" "LSkipRays$Air;", Cond.fieldLink RX6 16 "SkipRays" "calm" "LSkipRays$Air;", Cond.fieldLink RX6 158 "SkipRays" "forecastsRight" "I", Cond.fieldLink RX6 161 "SkipRays" "forecastsMade" "I", Cond.methodLink RX6 80 yX6_needPlace, Cond.static yX6_needPlace, Cond.code yX6_needPlace cX6_needPlace 1 none, Cond.classLink RX6 203 "java/lang/IndexOutOfBoundsException", Cond.initialized "java/lang/IndexOutOfBoundsException", Cond.methodLink RX6 154 yX6_signalAt, Cond.instanceMethod yX6_signalAt, Cond.selects RX6 yX6_signalAt yX6_signalAt, Cond.code yX6_signalAt cX6_signalAt 9 (some .int), Cond.fieldLink RX6 29 "SkipRays" "ray" "LSkipRays$Ray;", Cond.methodLink RX6 226 Lib.Math.max.name, Cond.static Lib.Math.max.name, Cond.initialized "java/lang/Math"]
def wsL_listen_r2 : List Cond := [Cond.code Lib.Math.max.name Lib.Math.max.code 2 (some .int), Cond.methodLink RX6 288 yX6_directionOf, Cond.static yX6_directionOf, Cond.code yX6_directionOf cX6_directionOf 1 (some .int), Cond.methodLink RX6 291 yX6_angleOf, Cond.static yX6_angleOf, Cond.code yX6_angleOf cX6_angleOf 1 (some .int), Cond.methodLink RX6 303 yX5_strengthAtFirst, Cond.instanceMethod yX5_strengthAtFirst, Cond.selects RX5 yX5_strengthAtFirst yX5_strengthAtFirst, Cond.initialized RX5, Cond.code yX5_strengthAtFirst cX5_strengthAtFirst 4 (some .int), Cond.fieldLink RX5 15 "SkipRays$Senders" "power" "[I", Cond.fieldLink RX5 18 "SkipRays$Senders" "antenna" "[I", Cond.fieldLink RX5 21 "SkipRays$Senders" "heading" "[I", Cond.methodLink RX5 31 yX5_gain, Cond.static yX5_gain, Cond.code yX5_gain cX5_gain 2 (some .int), Cond.methodLink RX5 35 yX5_aside, Cond.static yX5_aside, Cond.code yX5_aside cX5_aside 2 (some .int), Cond.methodLink RX6 196 yX6_reaches, Cond.instanceMethod yX6_reaches, Cond.selects RX6 yX6_reaches yX6_reaches]
def wsL_listen_r3 : List Cond := [Cond.code yX6_reaches cX6_reaches 8 (some .boolean), Cond.fieldLink RX6 22 "SkipRays" "ground" "LSkipRays$Ground;", Cond.methodLink RX6 294 yX4_leave, Cond.instanceMethod yX4_leave, Cond.selects RX4 yX4_leave yX4_leave, Cond.initialized RX4, Cond.code yX4_leave cX4_leave 6 none, Cond.fieldLink RX4 9 "SkipRays$Ray" "place" "I", Cond.fieldLink RX4 15 "SkipRays$Ray" "direction" "I", Cond.fieldLink RX4 18 "SkipRays$Ray" "angle" "I", Cond.fieldLink RX4 21 "SkipRays$Ray" "frequency" "I", Cond.fieldLink RX4 24 "SkipRays$Ray" "strength" "I", Cond.fieldLink RX4 27 "SkipRays$Ray" "legs" "I", Cond.fieldLink RX4 30 "SkipRays$Ray" "legsByE" "I", Cond.fieldLink RX4 33 "SkipRays$Ray" "delay" "I", Cond.methodLink RX6 297 yX4_goOn, Cond.instanceMethod yX4_goOn, Cond.selects RX4 yX4_goOn yX4_goOn, Cond.code yX4_goOn cX4_goOn 9 (some .boolean), Cond.methodLink RX4 36 yX0_bender, Cond.instanceMethod yX0_bender, Cond.selects RX0 yX0_bender yX0_bender, Cond.initialized RX0, Cond.code yX0_bender cX0_bender 7 (some .int)]
def wsL_listen_r4 : List Cond := [Cond.fieldLink RX0 24 "SkipRays$Air" "densities" "[[I", Cond.static yX6_lengthBy, Cond.code yX6_lengthBy cX6_lengthBy 2 (some .int), Cond.static yX6_ring, Cond.code yX6_ring cX6_ring 2 (some .int), Cond.static yX6_bends, Cond.code yX6_bends cX6_bends 3 (some .boolean), Cond.methodLink RX4 54 yX3_takes, Cond.instanceMethod yX3_takes, Cond.selects RX3 yX3_takes yX3_takes, Cond.initialized RX3, Cond.code yX3_takes cX3_takes 2 (some .int), Cond.fieldLink RX3 9 "SkipRays$Ground" "isSea" "[Z", Cond.methodLink RX6 309 yX6_noiseNow, Cond.instanceMethod yX6_noiseNow, Cond.selects RX6 yX6_noiseNow yX6_noiseNow, Cond.code yX6_noiseNow cX6_noiseNow 3 (some .int), Cond.methodLink RX6 164 yX6_lightIn, Cond.static yX6_lightIn, Cond.code yX6_lightIn cX6_lightIn 3 (some .int), Cond.methodLink RX6 211 Lib.Math.abs.name, Cond.static Lib.Math.abs.name, Cond.code Lib.Math.abs.name Lib.Math.abs.code 1 (some .int)]
def wsL_listen : List Cond := .codeWith yL_listen cL_listen 4 (some .int) [(0, 9, 12, 26)] :: ((wsL_listen_r1 ++ (wsL_listen_r2 ++ (wsL_listen_r3 ++ wsL_listen_r4))) ++ wsX60 ++ wsX50 ++ wsX40 ++ wsX00 ++ wsX30 ++ (vx_atS RX6 207 "java/lang/IndexOutOfBoundsException" ["java/lang/RuntimeException", "java/lang/Exception"]).filter goodWord)
def wsL_light_r1 : List Cond := [Cond.classLink RL 26 "java/lang/IndexOutOfBoundsException", Cond.classLink RL 13 "java/lang/IllegalArgumentException", Cond.methodLink RL 59 yX6_light, Cond.instanceMethod yX6_light, Cond.selects RX6 yX6_light yX6_light, Cond.initialized RX6, Cond.code yX6_light cX6_light 3 (some .int), Cond.fieldLink RX6 12 "SkipRays" "air" "LSkipRays$Air;", Cond.methodLink RX6 80 yX6_needPlace, Cond.static yX6_needPlace, Cond.code yX6_needPlace cX6_needPlace 1 none, Cond.classLink RX6 203 "java/lang/IndexOutOfBoundsException", Cond.initialized "java/lang/IndexOutOfBoundsException", Cond.methodLink RX6 59 yX6_needRange, Cond.static yX6_needRange, Cond.code yX6_needRange cX6_needRange 3 none, Cond.classLink RX6 274 "java/lang/IllegalArgumentException", Cond.initialized "java/lang/IllegalArgumentException", Cond.methodLink RX6 164 yX6_lightIn, Cond.static yX6_lightIn, Cond.code yX6_lightIn cX6_lightIn 3 (some .int), Cond.methodLink RX6 211 Lib.Math.abs.name, Cond.static Lib.Math.abs.name, Cond.initialized "java/lang/Math"]
def wsL_light_r2 : List Cond := [Cond.code Lib.Math.abs.name Lib.Math.abs.code 1 (some .int), Cond.methodLink RX6 226 Lib.Math.max.name, Cond.static Lib.Math.max.name, Cond.code Lib.Math.max.name Lib.Math.max.code 2 (some .int)]
def wsL_light : List Cond := .codeWith yL_light cL_light 5 (some .int) [(0, 10, 13, 26), (0, 10, 17, 13)] :: ((wsL_light_r1 ++ wsL_light_r2) ++ wsX60 ++ wsX00 ++ (vx_atS RX6 207 "java/lang/IndexOutOfBoundsException" ["java/lang/RuntimeException", "java/lang/Exception"]).filter goodWord ++ (vx_atS RX6 278 "java/lang/IllegalArgumentException" ["java/lang/RuntimeException", "java/lang/Exception"]).filter goodWord)
def wsL_density : List Cond := .codeWith yL_density cL_density 5 (some .int) [(0, 10, 13, 26), (0, 10, 17, 13)] :: ([.classLink RL 26 "java/lang/IndexOutOfBoundsException", .classLink RL 13 "java/lang/IllegalArgumentException", .methodLink RL 62 yX6_density, .instanceMethod yX6_density, .selects RX6 yX6_density yX6_density, .initialized RX6, .code yX6_density cX6_density 3 (some .int), .fieldLink RX6 12 "SkipRays" "air" "LSkipRays$Air;", .methodLink RX6 80 yX6_needPlace, .static yX6_needPlace, .code yX6_needPlace cX6_needPlace 1 none, .classLink RX6 203 "java/lang/IndexOutOfBoundsException", .initialized "java/lang/IndexOutOfBoundsException", .methodLink RX6 59 yX6_needRange, .static yX6_needRange, .code yX6_needRange cX6_needRange 3 none, .classLink RX6 274 "java/lang/IllegalArgumentException", .initialized "java/lang/IllegalArgumentException"] ++ wsX60 ++ wsX00 ++ (vx_atS RX6 207 "java/lang/IndexOutOfBoundsException" ["java/lang/RuntimeException", "java/lang/Exception"]).filter goodWord ++ (vx_atS RX6 278 "java/lang/IllegalArgumentException" ["java/lang/RuntimeException", "java/lang/Exception"]).filter goodWord)
def wsL_landing_r1 : List Cond := [Cond.classLink RL 26 "java/lang/IndexOutOfBoundsException", Cond.classLink RL 13 "java/lang/IllegalArgumentException", Cond.methodLink RL 65 yX6_landing, Cond.instanceMethod yX6_landing, Cond.selects RX6 yX6_landing yX6_landing, Cond.initialized RX6, Cond.code yX6_landing cX6_landing 10 (some .int), Cond.fieldLink RX6 12 "SkipRays" "air" "LSkipRays$Air;", Cond.methodLink RX6 172 yX6_needRay, Cond.static yX6_needRay, Cond.code yX6_needRay cX6_needRay 4 none, Cond.methodLink RX6 80 yX6_needPlace, Cond.static yX6_needPlace, Cond.code yX6_needPlace cX6_needPlace 1 none, Cond.classLink RX6 203 "java/lang/IndexOutOfBoundsException", Cond.initialized "java/lang/IndexOutOfBoundsException", Cond.methodLink RX6 59 yX6_needRange, Cond.static yX6_needRange, Cond.code yX6_needRange cX6_needRange 3 none, Cond.classLink RX6 274 "java/lang/IllegalArgumentException", Cond.initialized "java/lang/IllegalArgumentException", Cond.methodLink RX6 117 yX6_needFrequency, Cond.static yX6_needFrequency, Cond.code yX6_needFrequency cX6_needFrequency 1 none]
def wsL_landing_r2 : List Cond := [Cond.methodLink RX6 176 yX0_bender, Cond.instanceMethod yX0_bender, Cond.selects RX0 yX0_bender yX0_bender, Cond.initialized RX0, Cond.code yX0_bender cX0_bender 7 (some .int), Cond.fieldLink RX0 24 "SkipRays$Air" "densities" "[[I", Cond.static yX6_lengthBy, Cond.code yX6_lengthBy cX6_lengthBy 2 (some .int), Cond.static yX6_ring, Cond.code yX6_ring cX6_ring 2 (some .int), Cond.static yX6_bends, Cond.code yX6_bends cX6_bends 3 (some .boolean), Cond.methodLink RX6 179 yX6_lengthBy, Cond.methodLink RX6 182 yX6_ring]
def wsL_landing : List Cond := .codeWith yL_landing cL_landing 8 (some .int) [(0, 16, 19, 26), (0, 16, 23, 13)] :: ((wsL_landing_r1 ++ wsL_landing_r2) ++ wsX60 ++ wsX00 ++ (vx_atS RX6 207 "java/lang/IndexOutOfBoundsException" ["java/lang/RuntimeException", "java/lang/Exception"]).filter goodWord ++ (vx_atS RX6 278 "java/lang/IllegalArgumentException" ["java/lang/RuntimeException", "java/lang/Exception"]).filter goodWord)
def wsL_landingAnew_r1 : List Cond := [Cond.classLink RL 26 "java/lang/IndexOutOfBoundsException", Cond.classLink RL 13 "java/lang/IllegalArgumentException", Cond.methodLink RL 69 yX6_landingAnew, Cond.instanceMethod yX6_landingAnew, Cond.selects RX6 yX6_landingAnew yX6_landingAnew, Cond.initialized RX6, Cond.code yX6_landingAnew cX6_landingAnew 9 (some .int), Cond.methodLink RX6 172 yX6_needRay, Cond.static yX6_needRay, Cond.code yX6_needRay cX6_needRay 4 none, Cond.methodLink RX6 80 yX6_needPlace, Cond.static yX6_needPlace, Cond.code yX6_needPlace cX6_needPlace 1 none, Cond.classLink RX6 203 "java/lang/IndexOutOfBoundsException", Cond.initialized "java/lang/IndexOutOfBoundsException", Cond.methodLink RX6 59 yX6_needRange, Cond.static yX6_needRange, Cond.code yX6_needRange cX6_needRange 3 none, Cond.classLink RX6 274 "java/lang/IllegalArgumentException", Cond.initialized "java/lang/IllegalArgumentException", Cond.methodLink RX6 117 yX6_needFrequency, Cond.static yX6_needFrequency, Cond.code yX6_needFrequency cX6_needFrequency 1 none, Cond.methodLink RX6 185 yX6_legAnew]
def wsL_landingAnew_r2 : List Cond := [Cond.instanceMethod yX6_legAnew, Cond.selects RX6 yX6_legAnew yX6_legAnew, Cond.code yX6_legAnew cX6_legAnew 8 (some .int), Cond.fieldLink RX6 12 "SkipRays" "air" "LSkipRays$Air;", Cond.methodLink RX6 179 yX6_lengthBy, Cond.static yX6_lengthBy, Cond.code yX6_lengthBy cX6_lengthBy 2 (some .int), Cond.methodLink RX6 189 yX6_walked, Cond.static yX6_walked, Cond.code yX6_walked cX6_walked 5 (some .int), Cond.methodLink RX6 284 yX6_bends, Cond.static yX6_bends, Cond.code yX6_bends cX6_bends 3 (some .boolean)]
def wsL_landingAnew : List Cond := .codeWith yL_landingAnew cL_landingAnew 8 (some .int) [(0, 16, 19, 26), (0, 16, 23, 13)] :: ((wsL_landingAnew_r1 ++ wsL_landingAnew_r2) ++ wsX60 ++ wsX00 ++ (vx_atS RX6 207 "java/lang/IndexOutOfBoundsException" ["java/lang/RuntimeException", "java/lang/Exception"]).filter goodWord ++ (vx_atS RX6 278 "java/lang/IllegalArgumentException" ["java/lang/RuntimeException", "java/lang/Exception"]).filter goodWord)
def wsL_paths_r1 : List Cond := [Cond.classLink RL 26 "java/lang/IndexOutOfBoundsException", Cond.classLink RL 13 "java/lang/IllegalArgumentException", Cond.methodLink RL 72 yX6_paths, Cond.instanceMethod yX6_paths, Cond.selects RX6 yX6_paths yX6_paths, Cond.initialized RX6, Cond.code yX6_paths cX6_paths 7 (some .int), Cond.fieldLink RX6 12 "SkipRays" "air" "LSkipRays$Air;", Cond.methodLink RX6 193 yX6_needPath, Cond.static yX6_needPath, Cond.code yX6_needPath cX6_needPath 4 none, Cond.methodLink RX6 80 yX6_needPlace, Cond.static yX6_needPlace, Cond.code yX6_needPlace cX6_needPlace 1 none, Cond.classLink RX6 203 "java/lang/IndexOutOfBoundsException", Cond.initialized "java/lang/IndexOutOfBoundsException", Cond.methodLink RX6 117 yX6_needFrequency, Cond.static yX6_needFrequency, Cond.code yX6_needFrequency cX6_needFrequency 1 none, Cond.methodLink RX6 59 yX6_needRange, Cond.static yX6_needRange, Cond.code yX6_needRange cX6_needRange 3 none, Cond.classLink RX6 274 "java/lang/IllegalArgumentException", Cond.initialized "java/lang/IllegalArgumentException"]
def wsL_paths_r2 : List Cond := [Cond.methodLink RX6 216 yX6_needStrength, Cond.static yX6_needStrength, Cond.code yX6_needStrength cX6_needStrength 1 none, Cond.methodLink RX6 196 yX6_reaches, Cond.instanceMethod yX6_reaches, Cond.selects RX6 yX6_reaches yX6_reaches, Cond.code yX6_reaches cX6_reaches 8 (some .boolean), Cond.fieldLink RX6 29 "SkipRays" "ray" "LSkipRays$Ray;", Cond.fieldLink RX6 22 "SkipRays" "ground" "LSkipRays$Ground;", Cond.methodLink RX6 288 yX6_directionOf, Cond.static yX6_directionOf, Cond.code yX6_directionOf cX6_directionOf 1 (some .int), Cond.methodLink RX6 291 yX6_angleOf, Cond.static yX6_angleOf, Cond.code yX6_angleOf cX6_angleOf 1 (some .int), Cond.methodLink RX6 294 yX4_leave, Cond.instanceMethod yX4_leave, Cond.selects RX4 yX4_leave yX4_leave, Cond.initialized RX4, Cond.code yX4_leave cX4_leave 6 none, Cond.fieldLink RX4 9 "SkipRays$Ray" "place" "I", Cond.fieldLink RX4 15 "SkipRays$Ray" "direction" "I", Cond.fieldLink RX4 18 "SkipRays$Ray" "angle" "I", Cond.fieldLink RX4 21 "SkipRays$Ray" "frequency" "I"]
def wsL_paths_r3 : List Cond := [Cond.fieldLink RX4 24 "SkipRays$Ray" "strength" "I", Cond.fieldLink RX4 27 "SkipRays$Ray" "legs" "I", Cond.fieldLink RX4 30 "SkipRays$Ray" "legsByE" "I", Cond.fieldLink RX4 33 "SkipRays$Ray" "delay" "I", Cond.methodLink RX6 297 yX4_goOn, Cond.instanceMethod yX4_goOn, Cond.selects RX4 yX4_goOn yX4_goOn, Cond.code yX4_goOn cX4_goOn 9 (some .boolean), Cond.methodLink RX4 36 yX0_bender, Cond.instanceMethod yX0_bender, Cond.selects RX0 yX0_bender yX0_bender, Cond.initialized RX0, Cond.code yX0_bender cX0_bender 7 (some .int), Cond.fieldLink RX0 24 "SkipRays$Air" "densities" "[[I", Cond.static yX6_lengthBy, Cond.code yX6_lengthBy cX6_lengthBy 2 (some .int), Cond.static yX6_ring, Cond.code yX6_ring cX6_ring 2 (some .int), Cond.static yX6_bends, Cond.code yX6_bends cX6_bends 3 (some .boolean), Cond.methodLink RX4 54 yX3_takes, Cond.instanceMethod yX3_takes, Cond.selects RX3 yX3_takes yX3_takes, Cond.initialized RX3]
def wsL_paths_r4 : List Cond := [Cond.code yX3_takes cX3_takes 2 (some .int), Cond.fieldLink RX3 9 "SkipRays$Ground" "isSea" "[Z"]
def wsL_paths : List Cond := .codeWith yL_paths cL_paths 7 (some .int) [(0, 14, 17, 26), (0, 14, 21, 13)] :: ((wsL_paths_r1 ++ (wsL_paths_r2 ++ (wsL_paths_r3 ++ wsL_paths_r4))) ++ wsX60 ++ wsX40 ++ wsX00 ++ wsX30 ++ (vx_atS RX6 207 "java/lang/IndexOutOfBoundsException" ["java/lang/RuntimeException", "java/lang/Exception"]).filter goodWord ++ (vx_atS RX6 278 "java/lang/IllegalArgumentException" ["java/lang/RuntimeException", "java/lang/Exception"]).filter goodWord)
def wsL_path_r1 : List Cond := [Cond.classLink RL 26 "java/lang/IndexOutOfBoundsException", Cond.classLink RL 13 "java/lang/IllegalArgumentException", Cond.methodLink RL 75 yX6_path, Cond.instanceMethod yX6_path, Cond.selects RX6 yX6_path yX6_path, Cond.initialized RX6, Cond.code yX6_path cX6_path 9 (some .int), Cond.classLink RX6 203 "java/lang/IndexOutOfBoundsException", Cond.initialized "java/lang/IndexOutOfBoundsException", Cond.fieldLink RX6 12 "SkipRays" "air" "LSkipRays$Air;", Cond.fieldLink RX6 29 "SkipRays" "ray" "LSkipRays$Ray;", Cond.methodLink RX6 193 yX6_needPath, Cond.static yX6_needPath, Cond.code yX6_needPath cX6_needPath 4 none, Cond.methodLink RX6 80 yX6_needPlace, Cond.static yX6_needPlace, Cond.code yX6_needPlace cX6_needPlace 1 none, Cond.methodLink RX6 117 yX6_needFrequency, Cond.static yX6_needFrequency, Cond.code yX6_needFrequency cX6_needFrequency 1 none, Cond.methodLink RX6 59 yX6_needRange, Cond.static yX6_needRange, Cond.code yX6_needRange cX6_needRange 3 none, Cond.classLink RX6 274 "java/lang/IllegalArgumentException"]
def wsL_path_r2 : List Cond := [Cond.initialized "java/lang/IllegalArgumentException", Cond.methodLink RX6 216 yX6_needStrength, Cond.static yX6_needStrength, Cond.code yX6_needStrength cX6_needStrength 1 none, Cond.methodLink RX6 196 yX6_reaches, Cond.instanceMethod yX6_reaches, Cond.selects RX6 yX6_reaches yX6_reaches, Cond.code yX6_reaches cX6_reaches 8 (some .boolean), Cond.fieldLink RX6 22 "SkipRays" "ground" "LSkipRays$Ground;", Cond.methodLink RX6 288 yX6_directionOf, Cond.static yX6_directionOf, Cond.code yX6_directionOf cX6_directionOf 1 (some .int), Cond.methodLink RX6 291 yX6_angleOf, Cond.static yX6_angleOf, Cond.code yX6_angleOf cX6_angleOf 1 (some .int), Cond.methodLink RX6 294 yX4_leave, Cond.instanceMethod yX4_leave, Cond.selects RX4 yX4_leave yX4_leave, Cond.initialized RX4, Cond.code yX4_leave cX4_leave 6 none, Cond.fieldLink RX4 9 "SkipRays$Ray" "place" "I", Cond.fieldLink RX4 15 "SkipRays$Ray" "direction" "I", Cond.fieldLink RX4 18 "SkipRays$Ray" "angle" "I", Cond.fieldLink RX4 21 "SkipRays$Ray" "frequency" "I"]
def wsL_path_r3 : List Cond := [Cond.fieldLink RX4 24 "SkipRays$Ray" "strength" "I", Cond.fieldLink RX4 27 "SkipRays$Ray" "legs" "I", Cond.fieldLink RX4 30 "SkipRays$Ray" "legsByE" "I", Cond.fieldLink RX4 33 "SkipRays$Ray" "delay" "I", Cond.methodLink RX6 297 yX4_goOn, Cond.instanceMethod yX4_goOn, Cond.selects RX4 yX4_goOn yX4_goOn, Cond.code yX4_goOn cX4_goOn 9 (some .boolean), Cond.methodLink RX4 36 yX0_bender, Cond.instanceMethod yX0_bender, Cond.selects RX0 yX0_bender yX0_bender, Cond.initialized RX0, Cond.code yX0_bender cX0_bender 7 (some .int), Cond.fieldLink RX0 24 "SkipRays$Air" "densities" "[[I", Cond.static yX6_lengthBy, Cond.code yX6_lengthBy cX6_lengthBy 2 (some .int), Cond.static yX6_ring, Cond.code yX6_ring cX6_ring 2 (some .int), Cond.static yX6_bends, Cond.code yX6_bends cX6_bends 3 (some .boolean), Cond.methodLink RX4 54 yX3_takes, Cond.instanceMethod yX3_takes, Cond.selects RX3 yX3_takes yX3_takes, Cond.initialized RX3]
def wsL_path_r4 : List Cond := [Cond.code yX3_takes cX3_takes 2 (some .int), Cond.fieldLink RX3 9 "SkipRays$Ground" "isSea" "[Z", Cond.methodLink RX6 200 yX4_tell, Cond.instanceMethod yX4_tell, Cond.selects RX4 yX4_tell yX4_tell, Cond.code yX4_tell cX4_tell 2 (some .int)]
def wsL_path : List Cond := .codeWith yL_path cL_path 9 (some .int) [(0, 18, 21, 26), (0, 18, 25, 13)] :: ((wsL_path_r1 ++ (wsL_path_r2 ++ (wsL_path_r3 ++ wsL_path_r4))) ++ wsX60 ++ wsX40 ++ wsX00 ++ wsX30 ++ (vx_atS RX6 207 "java/lang/IndexOutOfBoundsException" ["java/lang/RuntimeException", "java/lang/Exception"]).filter goodWord ++ (vx_atS RX6 278 "java/lang/IllegalArgumentException" ["java/lang/RuntimeException", "java/lang/Exception"]).filter goodWord)
def wsL_explain_r1 : List Cond := [Cond.classLink RL 26 "java/lang/IndexOutOfBoundsException", Cond.classLink RL 13 "java/lang/IllegalArgumentException", Cond.methodLink RL 79 yX6_explain, Cond.instanceMethod yX6_explain, Cond.selects RX6 yX6_explain yX6_explain, Cond.initialized RX6, Cond.code yX6_explain cX6_explain 11 (some .int), Cond.fieldLink RX6 12 "SkipRays" "air" "LSkipRays$Air;", Cond.fieldLink RX6 29 "SkipRays" "ray" "LSkipRays$Ray;", Cond.methodLink RX6 211 Lib.Math.abs.name, Cond.static Lib.Math.abs.name, Cond.initialized "java/lang/Math", Cond.code Lib.Math.abs.name Lib.Math.abs.code 1 (some .int), Cond.methodLink RX6 193 yX6_needPath, Cond.static yX6_needPath, Cond.code yX6_needPath cX6_needPath 4 none, Cond.methodLink RX6 80 yX6_needPlace, Cond.static yX6_needPlace, Cond.code yX6_needPlace cX6_needPlace 1 none, Cond.classLink RX6 203 "java/lang/IndexOutOfBoundsException", Cond.initialized "java/lang/IndexOutOfBoundsException", Cond.methodLink RX6 117 yX6_needFrequency, Cond.static yX6_needFrequency, Cond.code yX6_needFrequency cX6_needFrequency 1 none]
def wsL_explain_r2 : List Cond := [Cond.methodLink RX6 59 yX6_needRange, Cond.static yX6_needRange, Cond.code yX6_needRange cX6_needRange 3 none, Cond.classLink RX6 274 "java/lang/IllegalArgumentException", Cond.initialized "java/lang/IllegalArgumentException", Cond.methodLink RX6 216 yX6_needStrength, Cond.static yX6_needStrength, Cond.code yX6_needStrength cX6_needStrength 1 none, Cond.methodLink RX6 196 yX6_reaches, Cond.instanceMethod yX6_reaches, Cond.selects RX6 yX6_reaches yX6_reaches, Cond.code yX6_reaches cX6_reaches 8 (some .boolean), Cond.fieldLink RX6 22 "SkipRays" "ground" "LSkipRays$Ground;", Cond.methodLink RX6 288 yX6_directionOf, Cond.static yX6_directionOf, Cond.code yX6_directionOf cX6_directionOf 1 (some .int), Cond.methodLink RX6 291 yX6_angleOf, Cond.static yX6_angleOf, Cond.code yX6_angleOf cX6_angleOf 1 (some .int), Cond.methodLink RX6 294 yX4_leave, Cond.instanceMethod yX4_leave, Cond.selects RX4 yX4_leave yX4_leave, Cond.initialized RX4, Cond.code yX4_leave cX4_leave 6 none]
def wsL_explain_r3 : List Cond := [Cond.fieldLink RX4 9 "SkipRays$Ray" "place" "I", Cond.fieldLink RX4 15 "SkipRays$Ray" "direction" "I", Cond.fieldLink RX4 18 "SkipRays$Ray" "angle" "I", Cond.fieldLink RX4 21 "SkipRays$Ray" "frequency" "I", Cond.fieldLink RX4 24 "SkipRays$Ray" "strength" "I", Cond.fieldLink RX4 27 "SkipRays$Ray" "legs" "I", Cond.fieldLink RX4 30 "SkipRays$Ray" "legsByE" "I", Cond.fieldLink RX4 33 "SkipRays$Ray" "delay" "I", Cond.methodLink RX6 297 yX4_goOn, Cond.instanceMethod yX4_goOn, Cond.selects RX4 yX4_goOn yX4_goOn, Cond.code yX4_goOn cX4_goOn 9 (some .boolean), Cond.methodLink RX4 36 yX0_bender, Cond.instanceMethod yX0_bender, Cond.selects RX0 yX0_bender yX0_bender, Cond.initialized RX0, Cond.code yX0_bender cX0_bender 7 (some .int), Cond.fieldLink RX0 24 "SkipRays$Air" "densities" "[[I", Cond.static yX6_lengthBy, Cond.code yX6_lengthBy cX6_lengthBy 2 (some .int), Cond.static yX6_ring, Cond.code yX6_ring cX6_ring 2 (some .int), Cond.static yX6_bends, Cond.code yX6_bends cX6_bends 3 (some .boolean)]
def wsL_explain_r4 : List Cond := [Cond.methodLink RX4 54 yX3_takes, Cond.instanceMethod yX3_takes, Cond.selects RX3 yX3_takes yX3_takes, Cond.initialized RX3, Cond.code yX3_takes cX3_takes 2 (some .int), Cond.fieldLink RX3 9 "SkipRays$Ground" "isSea" "[Z"]
def wsL_explain : List Cond := .codeWith yL_explain cL_explain 8 (some .int) [(0, 16, 19, 26), (0, 16, 23, 13)] :: ((wsL_explain_r1 ++ (wsL_explain_r2 ++ (wsL_explain_r3 ++ wsL_explain_r4))) ++ wsX60 ++ wsX40 ++ wsX00 ++ wsX30 ++ (vx_atS RX6 207 "java/lang/IndexOutOfBoundsException" ["java/lang/RuntimeException", "java/lang/Exception"]).filter goodWord ++ (vx_atS RX6 278 "java/lang/IllegalArgumentException" ["java/lang/RuntimeException", "java/lang/Exception"]).filter goodWord)
def wsL_usable_r1 : List Cond := [Cond.classLink RL 26 "java/lang/IndexOutOfBoundsException", Cond.classLink RL 13 "java/lang/IllegalArgumentException", Cond.methodLink RL 83 yX6_usable, Cond.instanceMethod yX6_usable, Cond.selects RX6 yX6_usable yX6_usable, Cond.initialized RX6, Cond.code yX6_usable cX6_usable 10 (some .int), Cond.methodLink RX6 80 yX6_needPlace, Cond.static yX6_needPlace, Cond.code yX6_needPlace cX6_needPlace 1 none, Cond.classLink RX6 203 "java/lang/IndexOutOfBoundsException", Cond.initialized "java/lang/IndexOutOfBoundsException", Cond.methodLink RX6 216 yX6_needStrength, Cond.static yX6_needStrength, Cond.code yX6_needStrength cX6_needStrength 1 none, Cond.methodLink RX6 59 yX6_needRange, Cond.static yX6_needRange, Cond.code yX6_needRange cX6_needRange 3 none, Cond.classLink RX6 274 "java/lang/IllegalArgumentException", Cond.initialized "java/lang/IllegalArgumentException", Cond.methodLink RX6 219 yX6_hasPath, Cond.instanceMethod yX6_hasPath, Cond.selects RX6 yX6_hasPath yX6_hasPath, Cond.code yX6_hasPath cX6_hasPath 6 (some .boolean)]
def wsL_usable_r2 : List Cond := [Cond.fieldLink RX6 12 "SkipRays" "air" "LSkipRays$Air;", Cond.methodLink RX6 196 yX6_reaches, Cond.instanceMethod yX6_reaches, Cond.selects RX6 yX6_reaches yX6_reaches, Cond.code yX6_reaches cX6_reaches 8 (some .boolean), Cond.fieldLink RX6 29 "SkipRays" "ray" "LSkipRays$Ray;", Cond.fieldLink RX6 22 "SkipRays" "ground" "LSkipRays$Ground;", Cond.methodLink RX6 288 yX6_directionOf, Cond.static yX6_directionOf, Cond.code yX6_directionOf cX6_directionOf 1 (some .int), Cond.methodLink RX6 291 yX6_angleOf, Cond.static yX6_angleOf, Cond.code yX6_angleOf cX6_angleOf 1 (some .int), Cond.methodLink RX6 294 yX4_leave, Cond.instanceMethod yX4_leave, Cond.selects RX4 yX4_leave yX4_leave, Cond.initialized RX4, Cond.code yX4_leave cX4_leave 6 none, Cond.fieldLink RX4 9 "SkipRays$Ray" "place" "I", Cond.fieldLink RX4 15 "SkipRays$Ray" "direction" "I", Cond.fieldLink RX4 18 "SkipRays$Ray" "angle" "I", Cond.fieldLink RX4 21 "SkipRays$Ray" "frequency" "I", Cond.fieldLink RX4 24 "SkipRays$Ray" "strength" "I", Cond.fieldLink RX4 27 "SkipRays$Ray" "legs" "I"]
def wsL_usable_r3 : List Cond := [Cond.fieldLink RX4 30 "SkipRays$Ray" "legsByE" "I", Cond.fieldLink RX4 33 "SkipRays$Ray" "delay" "I", Cond.methodLink RX6 297 yX4_goOn, Cond.instanceMethod yX4_goOn, Cond.selects RX4 yX4_goOn yX4_goOn, Cond.code yX4_goOn cX4_goOn 9 (some .boolean), Cond.methodLink RX4 36 yX0_bender, Cond.instanceMethod yX0_bender, Cond.selects RX0 yX0_bender yX0_bender, Cond.initialized RX0, Cond.code yX0_bender cX0_bender 7 (some .int), Cond.fieldLink RX0 24 "SkipRays$Air" "densities" "[[I", Cond.static yX6_lengthBy, Cond.code yX6_lengthBy cX6_lengthBy 2 (some .int), Cond.static yX6_ring, Cond.code yX6_ring cX6_ring 2 (some .int), Cond.static yX6_bends, Cond.code yX6_bends cX6_bends 3 (some .boolean), Cond.methodLink RX4 54 yX3_takes, Cond.instanceMethod yX3_takes, Cond.selects RX3 yX3_takes yX3_takes, Cond.initialized RX3, Cond.code yX3_takes cX3_takes 2 (some .int), Cond.fieldLink RX3 9 "SkipRays$Ground" "isSea" "[Z"]
def wsL_usable : List Cond := .codeWith yL_usable cL_usable 7 (some .int) [(0, 14, 17, 26), (0, 14, 21, 13)] :: ((wsL_usable_r1 ++ (wsL_usable_r2 ++ wsL_usable_r3)) ++ wsX60 ++ wsX40 ++ wsX00 ++ wsX30 ++ (vx_atS RX6 207 "java/lang/IndexOutOfBoundsException" ["java/lang/RuntimeException", "java/lang/Exception"]).filter goodWord ++ (vx_atS RX6 278 "java/lang/IllegalArgumentException" ["java/lang/RuntimeException", "java/lang/Exception"]).filter goodWord)
def wsL_skipped_r1 : List Cond := [Cond.classLink RL 26 "java/lang/IndexOutOfBoundsException", Cond.classLink RL 13 "java/lang/IllegalArgumentException", Cond.methodLink RL 87 yX6_skipped, Cond.instanceMethod yX6_skipped, Cond.selects RX6 yX6_skipped yX6_skipped, Cond.initialized RX6, Cond.code yX6_skipped cX6_skipped 8 (some .int), Cond.fieldLink RX6 12 "SkipRays" "air" "LSkipRays$Air;", Cond.methodLink RX6 223 Lib.Math.min.name, Cond.static Lib.Math.min.name, Cond.initialized "java/lang/Math", Cond.code Lib.Math.min.name Lib.Math.min.code 2 (some .int), Cond.methodLink RX6 226 Lib.Math.max.name, Cond.static Lib.Math.max.name, Cond.code Lib.Math.max.name Lib.Math.max.code 2 (some .int), Cond.methodLink RX6 80 yX6_needPlace, Cond.static yX6_needPlace, Cond.code yX6_needPlace cX6_needPlace 1 none, Cond.classLink RX6 203 "java/lang/IndexOutOfBoundsException", Cond.initialized "java/lang/IndexOutOfBoundsException", Cond.methodLink RX6 117 yX6_needFrequency, Cond.static yX6_needFrequency, Cond.code yX6_needFrequency cX6_needFrequency 1 none, Cond.methodLink RX6 59 yX6_needRange]
def wsL_skipped_r2 : List Cond := [Cond.static yX6_needRange, Cond.code yX6_needRange cX6_needRange 3 none, Cond.classLink RX6 274 "java/lang/IllegalArgumentException", Cond.initialized "java/lang/IllegalArgumentException", Cond.methodLink RX6 176 yX0_bender, Cond.instanceMethod yX0_bender, Cond.selects RX0 yX0_bender yX0_bender, Cond.initialized RX0, Cond.code yX0_bender cX0_bender 7 (some .int), Cond.fieldLink RX0 24 "SkipRays$Air" "densities" "[[I", Cond.static yX6_lengthBy, Cond.code yX6_lengthBy cX6_lengthBy 2 (some .int), Cond.static yX6_ring, Cond.code yX6_ring cX6_ring 2 (some .int), Cond.static yX6_bends, Cond.code yX6_bends cX6_bends 3 (some .boolean), Cond.methodLink RX6 179 yX6_lengthBy]
def wsL_skipped : List Cond := .codeWith yL_skipped cL_skipped 6 (some .int) [(0, 12, 15, 26), (0, 12, 19, 13)] :: ((wsL_skipped_r1 ++ wsL_skipped_r2) ++ wsX60 ++ wsX00 ++ (vx_atS RX6 207 "java/lang/IndexOutOfBoundsException" ["java/lang/RuntimeException", "java/lang/Exception"]).filter goodWord ++ (vx_atS RX6 278 "java/lang/IllegalArgumentException" ["java/lang/RuntimeException", "java/lang/Exception"]).filter goodWord)
def wsL_signal_r1 : List Cond := [Cond.classLink RL 26 "java/lang/IndexOutOfBoundsException", Cond.classLink RL 13 "java/lang/IllegalArgumentException", Cond.methodLink RL 91 yX6_signal, Cond.instanceMethod yX6_signal, Cond.selects RX6 yX6_signal yX6_signal, Cond.initialized RX6, Cond.code yX6_signal cX6_signal 4 (some .int), Cond.methodLink RX6 122 yX6_needStation, Cond.instanceMethod yX6_needStation, Cond.selects RX6 yX6_needStation yX6_needStation, Cond.code yX6_needStation cX6_needStation 2 none, Cond.classLink RX6 203 "java/lang/IndexOutOfBoundsException", Cond.initialized "java/lang/IndexOutOfBoundsException", Cond.fieldLink RX6 38 "SkipRays" "stations" "LSkipRays$Senders;", Cond.methodLink RX6 281 yX5_has, Cond.instanceMethod yX5_has, Cond.selects RX5 yX5_has yX5_has, Cond.initialized RX5, Cond.code yX5_has cX5_has 2 (some .boolean), Cond.fieldLink RX5 27 "SkipRays$Senders" "made" "I", Cond.methodLink RX6 117 yX6_needFrequency, Cond.static yX6_needFrequency, Cond.code yX6_needFrequency cX6_needFrequency 1 none, Cond.methodLink RX6 59 yX6_needRange]
def wsL_signal_r2 : List Cond := [Cond.static yX6_needRange, Cond.code yX6_needRange cX6_needRange 3 none, Cond.classLink RX6 274 "java/lang/IllegalArgumentException", Cond.initialized "java/lang/IllegalArgumentException", Cond.methodLink RX6 125 yX6_needDifferent, Cond.static yX6_needDifferent, Cond.code yX6_needDifferent cX6_needDifferent 2 none, Cond.methodLink RX6 135 yX6_signalBetween, Cond.instanceMethod yX6_signalBetween, Cond.selects RX6 yX6_signalBetween yX6_signalBetween, Cond.code yX6_signalBetween cX6_signalBetween 4 (some .int), Cond.fieldLink RX6 12 "SkipRays" "air" "LSkipRays$Air;", Cond.methodLink RX6 154 yX6_signalAt, Cond.instanceMethod yX6_signalAt, Cond.selects RX6 yX6_signalAt yX6_signalAt, Cond.code yX6_signalAt cX6_signalAt 9 (some .int), Cond.fieldLink RX6 29 "SkipRays" "ray" "LSkipRays$Ray;", Cond.methodLink RX6 226 Lib.Math.max.name, Cond.static Lib.Math.max.name, Cond.initialized "java/lang/Math", Cond.code Lib.Math.max.name Lib.Math.max.code 2 (some .int), Cond.methodLink RX6 288 yX6_directionOf, Cond.static yX6_directionOf, Cond.code yX6_directionOf cX6_directionOf 1 (some .int)]
def wsL_signal_r3 : List Cond := [Cond.methodLink RX6 291 yX6_angleOf, Cond.static yX6_angleOf, Cond.code yX6_angleOf cX6_angleOf 1 (some .int), Cond.methodLink RX6 303 yX5_strengthAtFirst, Cond.instanceMethod yX5_strengthAtFirst, Cond.selects RX5 yX5_strengthAtFirst yX5_strengthAtFirst, Cond.code yX5_strengthAtFirst cX5_strengthAtFirst 4 (some .int), Cond.fieldLink RX5 15 "SkipRays$Senders" "power" "[I", Cond.fieldLink RX5 18 "SkipRays$Senders" "antenna" "[I", Cond.fieldLink RX5 21 "SkipRays$Senders" "heading" "[I", Cond.methodLink RX5 31 yX5_gain, Cond.static yX5_gain, Cond.code yX5_gain cX5_gain 2 (some .int), Cond.methodLink RX5 35 yX5_aside, Cond.static yX5_aside, Cond.code yX5_aside cX5_aside 2 (some .int), Cond.methodLink RX6 196 yX6_reaches, Cond.instanceMethod yX6_reaches, Cond.selects RX6 yX6_reaches yX6_reaches, Cond.code yX6_reaches cX6_reaches 8 (some .boolean), Cond.fieldLink RX6 22 "SkipRays" "ground" "LSkipRays$Ground;", Cond.methodLink RX6 294 yX4_leave, Cond.instanceMethod yX4_leave, Cond.selects RX4 yX4_leave yX4_leave]
def wsL_signal_r4 : List Cond := [Cond.initialized RX4, Cond.code yX4_leave cX4_leave 6 none, Cond.fieldLink RX4 9 "SkipRays$Ray" "place" "I", Cond.fieldLink RX4 15 "SkipRays$Ray" "direction" "I", Cond.fieldLink RX4 18 "SkipRays$Ray" "angle" "I", Cond.fieldLink RX4 21 "SkipRays$Ray" "frequency" "I", Cond.fieldLink RX4 24 "SkipRays$Ray" "strength" "I", Cond.fieldLink RX4 27 "SkipRays$Ray" "legs" "I", Cond.fieldLink RX4 30 "SkipRays$Ray" "legsByE" "I", Cond.fieldLink RX4 33 "SkipRays$Ray" "delay" "I", Cond.methodLink RX6 297 yX4_goOn, Cond.instanceMethod yX4_goOn, Cond.selects RX4 yX4_goOn yX4_goOn, Cond.code yX4_goOn cX4_goOn 9 (some .boolean), Cond.methodLink RX4 36 yX0_bender, Cond.instanceMethod yX0_bender, Cond.selects RX0 yX0_bender yX0_bender, Cond.initialized RX0, Cond.code yX0_bender cX0_bender 7 (some .int), Cond.fieldLink RX0 24 "SkipRays$Air" "densities" "[[I", Cond.static yX6_lengthBy, Cond.code yX6_lengthBy cX6_lengthBy 2 (some .int), Cond.static yX6_ring, Cond.code yX6_ring cX6_ring 2 (some .int)]
def wsL_signal_r5 : List Cond := [Cond.static yX6_bends, Cond.code yX6_bends cX6_bends 3 (some .boolean), Cond.methodLink RX4 54 yX3_takes, Cond.instanceMethod yX3_takes, Cond.selects RX3 yX3_takes yX3_takes, Cond.initialized RX3, Cond.code yX3_takes cX3_takes 2 (some .int), Cond.fieldLink RX3 9 "SkipRays$Ground" "isSea" "[Z", Cond.methodLink RX6 309 yX6_noiseNow, Cond.instanceMethod yX6_noiseNow, Cond.selects RX6 yX6_noiseNow yX6_noiseNow, Cond.code yX6_noiseNow cX6_noiseNow 3 (some .int), Cond.methodLink RX6 164 yX6_lightIn, Cond.static yX6_lightIn, Cond.code yX6_lightIn cX6_lightIn 3 (some .int), Cond.methodLink RX6 211 Lib.Math.abs.name, Cond.static Lib.Math.abs.name, Cond.code Lib.Math.abs.name Lib.Math.abs.code 1 (some .int)]
def wsL_signal : List Cond := .codeWith yL_signal cL_signal 6 (some .int) [(0, 12, 15, 26), (0, 12, 19, 13)] :: ((wsL_signal_r1 ++ (wsL_signal_r2 ++ (wsL_signal_r3 ++ (wsL_signal_r4 ++ wsL_signal_r5)))) ++ wsX60 ++ wsX50 ++ wsX40 ++ wsX00 ++ wsX30 ++ (vx_atS RX6 207 "java/lang/IndexOutOfBoundsException" ["java/lang/RuntimeException", "java/lang/Exception"]).filter goodWord ++ (vx_atS RX6 278 "java/lang/IllegalArgumentException" ["java/lang/RuntimeException", "java/lang/Exception"]).filter goodWord)
def wsL_contactOf_r1 : List Cond := [Cond.classLink RL 26 "java/lang/IndexOutOfBoundsException", Cond.classLink RL 13 "java/lang/IllegalArgumentException", Cond.methodLink RL 94 yX6_contactOf, Cond.instanceMethod yX6_contactOf, Cond.selects RX6 yX6_contactOf yX6_contactOf, Cond.initialized RX6, Cond.code yX6_contactOf cX6_contactOf 3 (some .int), Cond.classLink RX6 203 "java/lang/IndexOutOfBoundsException", Cond.initialized "java/lang/IndexOutOfBoundsException", Cond.fieldLink RX6 48 "SkipRays" "contacts" "LSkipRays$Contacts;", Cond.methodLink RX6 229 yX1_has, Cond.instanceMethod yX1_has, Cond.selects RX1 yX1_has yX1_has, Cond.initialized RX1, Cond.code yX1_has cX1_has 2 (some .boolean), Cond.fieldLink RX1 27 "SkipRays$Contacts" "made" "I", Cond.methodLink RX6 59 yX6_needRange, Cond.static yX6_needRange, Cond.code yX6_needRange cX6_needRange 3 none, Cond.classLink RX6 274 "java/lang/IllegalArgumentException", Cond.initialized "java/lang/IllegalArgumentException", Cond.methodLink RX6 235 yX1_tell, Cond.instanceMethod yX1_tell, Cond.selects RX1 yX1_tell yX1_tell]
def wsL_contactOf_r2 : List Cond := [Cond.code yX1_tell cX1_tell 3 (some .int), Cond.fieldLink RX1 9 "SkipRays$Contacts" "caller" "[I", Cond.fieldLink RX1 15 "SkipRays$Contacts" "called" "[I", Cond.fieldLink RX1 18 "SkipRays$Contacts" "frequency" "[I", Cond.fieldLink RX1 21 "SkipRays$Contacts" "mode" "[I", Cond.fieldLink RX1 24 "SkipRays$Contacts" "hourOf" "[I"]
def wsL_contactOf : List Cond := .codeWith yL_contactOf cL_contactOf 5 (some .int) [(0, 10, 13, 26), (0, 10, 17, 13)] :: ((wsL_contactOf_r1 ++ wsL_contactOf_r2) ++ wsX60 ++ wsX10 ++ (vx_atS RX6 207 "java/lang/IndexOutOfBoundsException" ["java/lang/RuntimeException", "java/lang/Exception"]).filter goodWord ++ (vx_atS RX6 278 "java/lang/IllegalArgumentException" ["java/lang/RuntimeException", "java/lang/Exception"]).filter goodWord)
def wsL_entryOf_r1 : List Cond := [Cond.classLink RL 26 "java/lang/IndexOutOfBoundsException", Cond.classLink RL 13 "java/lang/IllegalArgumentException", Cond.methodLink RL 97 yX6_entryOf, Cond.instanceMethod yX6_entryOf, Cond.selects RX6 yX6_entryOf yX6_entryOf, Cond.initialized RX6, Cond.code yX6_entryOf cX6_entryOf 3 (some .int), Cond.classLink RX6 203 "java/lang/IndexOutOfBoundsException", Cond.initialized "java/lang/IndexOutOfBoundsException", Cond.fieldLink RX6 55 "SkipRays" "entries" "LSkipRays$Entries;", Cond.methodLink RX6 237 yX2_has, Cond.instanceMethod yX2_has, Cond.selects RX2 yX2_has yX2_has, Cond.initialized RX2, Cond.code yX2_has cX2_has 2 (some .boolean), Cond.fieldLink RX2 27 "SkipRays$Entries" "made" "I", Cond.methodLink RX6 59 yX6_needRange, Cond.static yX6_needRange, Cond.code yX6_needRange cX6_needRange 3 none, Cond.classLink RX6 274 "java/lang/IllegalArgumentException", Cond.initialized "java/lang/IllegalArgumentException", Cond.methodLink RX6 240 yX6_counts, Cond.instanceMethod yX6_counts, Cond.selects RX6 yX6_counts yX6_counts]
def wsL_entryOf_r2 : List Cond := [Cond.code yX6_counts cX6_counts 5 (some .boolean), Cond.fieldLink RX6 48 "SkipRays" "contacts" "LSkipRays$Contacts;", Cond.methodLink RX6 315 yX1_isOf, Cond.instanceMethod yX1_isOf, Cond.selects RX1 yX1_isOf yX1_isOf, Cond.initialized RX1, Cond.code yX1_isOf cX1_isOf 4 (some .boolean), Cond.fieldLink RX1 9 "SkipRays$Contacts" "caller" "[I", Cond.fieldLink RX1 15 "SkipRays$Contacts" "called" "[I", Cond.methodLink RX6 243 yX2_tell, Cond.instanceMethod yX2_tell, Cond.selects RX2 yX2_tell yX2_tell, Cond.code yX2_tell cX2_tell 3 (some .int), Cond.fieldLink RX2 9 "SkipRays$Entries" "by" "[I", Cond.fieldLink RX2 15 "SkipRays$Entries" "noted" "[I", Cond.fieldLink RX2 18 "SkipRays$Entries" "frequency" "[I", Cond.fieldLink RX2 21 "SkipRays$Entries" "hourOf" "[I", Cond.fieldLink RX2 24 "SkipRays$Entries" "pair" "[I"]
def wsL_entryOf : List Cond := .codeWith yL_entryOf cL_entryOf 5 (some .int) [(0, 10, 13, 26), (0, 10, 17, 13)] :: ((wsL_entryOf_r1 ++ wsL_entryOf_r2) ++ wsX60 ++ wsX20 ++ wsX10 ++ (vx_atS RX6 207 "java/lang/IndexOutOfBoundsException" ["java/lang/RuntimeException", "java/lang/Exception"]).filter goodWord ++ (vx_atS RX6 278 "java/lang/IllegalArgumentException" ["java/lang/RuntimeException", "java/lang/Exception"]).filter goodWord)
def wsL_score_r1 : List Cond := [Cond.classLink RL 26 "java/lang/IndexOutOfBoundsException", Cond.methodLink RL 100 yX6_score, Cond.instanceMethod yX6_score, Cond.selects RX6 yX6_score yX6_score, Cond.initialized RX6, Cond.code yX6_score cX6_score 7 (some .int), Cond.fieldLink RX6 55 "SkipRays" "entries" "LSkipRays$Entries;", Cond.fieldLink RX6 38 "SkipRays" "stations" "LSkipRays$Senders;", Cond.fieldLink RX6 12 "SkipRays" "air" "LSkipRays$Air;", Cond.methodLink RX6 122 yX6_needStation, Cond.instanceMethod yX6_needStation, Cond.selects RX6 yX6_needStation yX6_needStation, Cond.code yX6_needStation cX6_needStation 2 none, Cond.classLink RX6 203 "java/lang/IndexOutOfBoundsException", Cond.initialized "java/lang/IndexOutOfBoundsException", Cond.methodLink RX6 281 yX5_has, Cond.instanceMethod yX5_has, Cond.selects RX5 yX5_has yX5_has, Cond.initialized RX5, Cond.code yX5_has cX5_has 2 (some .boolean), Cond.fieldLink RX5 27 "SkipRays$Senders" "made" "I", Cond.methodLink RX6 240 yX6_counts, Cond.instanceMethod yX6_counts, Cond.selects RX6 yX6_counts yX6_counts]
def wsL_score_r2 : List Cond := [Cond.code yX6_counts cX6_counts 5 (some .boolean), Cond.fieldLink RX6 48 "SkipRays" "contacts" "LSkipRays$Contacts;", Cond.methodLink RX6 315 yX1_isOf, Cond.instanceMethod yX1_isOf, Cond.selects RX1 yX1_isOf yX1_isOf, Cond.initialized RX1, Cond.code yX1_isOf cX1_isOf 4 (some .boolean), Cond.fieldLink RX1 9 "SkipRays$Contacts" "caller" "[I", Cond.fieldLink RX1 15 "SkipRays$Contacts" "called" "[I", Cond.methodLink RX6 254 yX6_distance, Cond.static yX6_distance, Cond.code yX6_distance cX6_distance 3 (some .int), Cond.methodLink RX6 211 Lib.Math.abs.name, Cond.static Lib.Math.abs.name, Cond.initialized "java/lang/Math", Cond.code Lib.Math.abs.name Lib.Math.abs.code 1 (some .int), Cond.methodLink RX6 223 Lib.Math.min.name, Cond.static Lib.Math.min.name, Cond.code Lib.Math.min.name Lib.Math.min.code 2 (some .int), Cond.methodLink RX6 263 yJ6_bitCount_0f7a4, Cond.static yJ6_bitCount_0f7a4, Cond.initialized RJ6, Cond.code yJ6_bitCount_0f7a4 cJ6_bitCount_0f7a4 1 (some .int), Cond.constant RJ6 265 (1431655765)]
def wsL_score_r3 : List Cond := [Cond.constant RJ6 266 (858993459), Cond.constant RJ6 267 (252645135)]
def wsL_score : List Cond := .codeWith yL_score cL_score 4 (some .int) [(0, 9, 12, 26)] :: ((wsL_score_r1 ++ (wsL_score_r2 ++ wsL_score_r3)) ++ wsX60 ++ wsX20 ++ wsX50 ++ wsX00 ++ wsX10 ++ (vx_atS RX6 207 "java/lang/IndexOutOfBoundsException" ["java/lang/RuntimeException", "java/lang/Exception"]).filter goodWord)
def wsL_count : List Cond := .codeWith yL_count cL_count 4 (some .int) [(0, 9, 12, 13)] :: ([.classLink RL 13 "java/lang/IllegalArgumentException", .methodLink RL 103 yX6_count, .instanceMethod yX6_count, .selects RX6 yX6_count yX6_count, .initialized RX6, .code yX6_count cX6_count 2 (some .int), .fieldLink RX6 38 "SkipRays" "stations" "LSkipRays$Senders;", .fieldLink RX6 42 "SkipRays" "beacons" "LSkipRays$Senders;", .fieldLink RX6 48 "SkipRays" "contacts" "LSkipRays$Contacts;", .fieldLink RX6 55 "SkipRays" "entries" "LSkipRays$Entries;", .methodLink RX6 59 yX6_needRange, .static yX6_needRange, .code yX6_needRange cX6_needRange 3 none, .classLink RX6 274 "java/lang/IllegalArgumentException", .initialized "java/lang/IllegalArgumentException"] ++ wsX60 ++ wsX50 ++ wsX10 ++ wsX20 ++ (vx_atS RX6 278 "java/lang/IllegalArgumentException" ["java/lang/RuntimeException", "java/lang/Exception"]).filter goodWord)
def wsL_law0_r1 : List Cond := [Cond.classLink RL 8 RX6, Cond.instantiable RX6 10, Cond.initialized RX6, Cond.classLink RL 107 RX7, Cond.instantiable RX7 38, Cond.initialized RX7, Cond.arrayClass .long, Cond.methodLink RL 106 yX6_init, Cond.instanceMethod yX6_init, Cond.code yX6_init cX6_init 1 none, Cond.methodLink RX6 3 objectInit, Cond.instanceMethod objectInit, Cond.code objectInit ⟨#[0xb1]⟩ 1 none, Cond.classLink RX6 9 RX0, Cond.instantiable RX0 8, Cond.initialized RX0, Cond.fieldLink RX6 12 "SkipRays" "air" "LSkipRays$Air;", Cond.fieldLink RX6 16 "SkipRays" "calm" "LSkipRays$Air;", Cond.classLink RX6 19 RX3, Cond.instantiable RX3 2, Cond.initialized RX3, Cond.fieldLink RX6 22 "SkipRays" "ground" "LSkipRays$Ground;", Cond.classLink RX6 26 RX4, Cond.instantiable RX4 8]
def wsL_law0_r2 : List Cond := [Cond.initialized RX4, Cond.fieldLink RX6 29 "SkipRays" "ray" "LSkipRays$Ray;", Cond.classLink RX6 33 RX5, Cond.instantiable RX5 6, Cond.initialized RX5, Cond.fieldLink RX6 38 "SkipRays" "stations" "LSkipRays$Senders;", Cond.fieldLink RX6 42 "SkipRays" "beacons" "LSkipRays$Senders;", Cond.classLink RX6 45 RX1, Cond.instantiable RX1 6, Cond.initialized RX1, Cond.fieldLink RX6 48 "SkipRays" "contacts" "LSkipRays$Contacts;", Cond.classLink RX6 52 RX2, Cond.instantiable RX2 7, Cond.initialized RX2, Cond.fieldLink RX6 55 "SkipRays" "entries" "LSkipRays$Entries;", Cond.methodLink RX6 11 yX0_init, Cond.instanceMethod yX0_init, Cond.code yX0_init cX0_init 1 none, Cond.methodLink RX0 3 objectInit, Cond.fieldLink RX0 9 "SkipRays$Air" "sunLevel" "I", Cond.arrayClass .int, Cond.fieldLink RX0 15 "SkipRays$Air" "cloudStrength" "[I", Cond.fieldLink RX0 19 "SkipRays$Air" "cloudHours" "[I", Cond.classLink RX0 22 "[[I"]
def wsL_law0_r3 : List Cond := [Cond.fieldLink RX0 24 "SkipRays$Air" "densities" "[[I", Cond.methodLink RX0 27 yX0_settle, Cond.instanceMethod yX0_settle, Cond.selects RX0 yX0_settle yX0_settle, Cond.code yX0_settle cX0_settle 5 none, Cond.fieldLink RX0 42 "SkipRays$Air" "hourNow" "I", Cond.fieldLink RX0 36 "SkipRays$Air" "flareSize" "I", Cond.fieldLink RX0 30 "SkipRays$Air" "stormStrength" "I", Cond.methodLink RX0 45 Lib.Math.max.name, Cond.static Lib.Math.max.name, Cond.initialized "java/lang/Math", Cond.code Lib.Math.max.name Lib.Math.max.code 2 (some .int), Cond.static yX6_lightIn, Cond.code yX6_lightIn cX6_lightIn 3 (some .int), Cond.methodLink RX6 211 Lib.Math.abs.name, Cond.static Lib.Math.abs.name, Cond.code Lib.Math.abs.name Lib.Math.abs.code 1 (some .int), Cond.methodLink RX6 226 Lib.Math.max.name, Cond.instanceMethod yX3_init, Cond.code yX3_init cX3_init 1 none, Cond.methodLink RX3 3 objectInit, Cond.arrayClass .boolean, Cond.fieldLink RX3 9 "SkipRays$Ground" "isSea" "[Z", Cond.fieldLink RX3 15 "SkipRays$Ground" "noiseLevel" "[I"]
def wsL_law0_r4 : List Cond := [Cond.instanceMethod yX4_init, Cond.code yX4_init cX4_init 1 none, Cond.methodLink RX4 3 objectInit, Cond.methodLink RX6 35 yX5_init, Cond.instanceMethod yX5_init, Cond.code yX5_init cX5_init 2 none, Cond.methodLink RX5 3 objectInit, Cond.fieldLink RX5 9 "SkipRays$Senders" "place" "[I", Cond.fieldLink RX5 15 "SkipRays$Senders" "power" "[I", Cond.fieldLink RX5 18 "SkipRays$Senders" "antenna" "[I", Cond.fieldLink RX5 21 "SkipRays$Senders" "heading" "[I", Cond.fieldLink RX5 24 "SkipRays$Senders" "frequency" "[I", Cond.instanceMethod yX1_init, Cond.code yX1_init cX1_init 1 none, Cond.methodLink RX1 3 objectInit, Cond.fieldLink RX1 9 "SkipRays$Contacts" "caller" "[I", Cond.fieldLink RX1 15 "SkipRays$Contacts" "called" "[I", Cond.fieldLink RX1 18 "SkipRays$Contacts" "frequency" "[I", Cond.fieldLink RX1 21 "SkipRays$Contacts" "mode" "[I", Cond.fieldLink RX1 24 "SkipRays$Contacts" "hourOf" "[I", Cond.instanceMethod yX2_init, Cond.code yX2_init cX2_init 1 none, Cond.methodLink RX2 3 objectInit, Cond.fieldLink RX2 9 "SkipRays$Entries" "by" "[I"]
def wsL_law0_r5 : List Cond := [Cond.fieldLink RX2 15 "SkipRays$Entries" "noted" "[I", Cond.fieldLink RX2 18 "SkipRays$Entries" "frequency" "[I", Cond.fieldLink RX2 21 "SkipRays$Entries" "hourOf" "[I", Cond.fieldLink RX2 24 "SkipRays$Entries" "pair" "[I", Cond.methodLink RL 109 yX7_init, Cond.instanceMethod yX7_init, Cond.code yX7_init cX7_init 1 none, Cond.methodLink RX7 1 objectInit, Cond.fieldLink RX7 7 "SkipRaysModel" "sun" "I", Cond.fieldLink RX7 13 "SkipRaysModel" "cloud" "[I", Cond.fieldLink RX7 17 "SkipRaysModel" "cloudHours" "[I", Cond.fieldLink RX7 20 "SkipRaysModel" "isSea" "[Z", Cond.fieldLink RX7 24 "SkipRaysModel" "noise" "[I", Cond.fieldLink RX7 27 "SkipRaysModel" "place" "[I", Cond.fieldLink RX7 30 "SkipRaysModel" "power" "[I", Cond.fieldLink RX7 33 "SkipRaysModel" "antenna" "[I", Cond.fieldLink RX7 36 "SkipRaysModel" "heading" "[I", Cond.fieldLink RX7 39 "SkipRaysModel" "beaconPlace" "[I", Cond.fieldLink RX7 42 "SkipRaysModel" "beaconOn" "[I", Cond.fieldLink RX7 45 "SkipRaysModel" "beaconPower" "[I", Cond.fieldLink RX7 48 "SkipRaysModel" "caller" "[I", Cond.fieldLink RX7 51 "SkipRaysModel" "called" "[I", Cond.fieldLink RX7 54 "SkipRaysModel" "calledOn" "[I", Cond.fieldLink RX7 57 "SkipRaysModel" "mode" "[I"]
def wsL_law0_r6 : List Cond := [Cond.fieldLink RX7 60 "SkipRaysModel" "calledAt" "[I", Cond.fieldLink RX7 63 "SkipRaysModel" "logger" "[I", Cond.fieldLink RX7 66 "SkipRaysModel" "noted" "[I", Cond.fieldLink RX7 69 "SkipRaysModel" "loggedOn" "[I", Cond.fieldLink RX7 72 "SkipRaysModel" "loggedAt" "[I", Cond.fieldLink RX7 75 "SkipRaysModel" "pair" "[I", Cond.methodLink RL 110 yL_sun, Cond.static yL_sun, Cond.initialized RL, Cond.codeWith yL_sun cL_sun 4 (some .int) [(0, 9, 12, 13)], Cond.classLink RL 13 "java/lang/IllegalArgumentException", Cond.methodLink RL 7 yX6_sun, Cond.instanceMethod yX6_sun, Cond.selects RX6 yX6_sun yX6_sun, Cond.code yX6_sun cX6_sun 3 (some .int), Cond.methodLink RX6 59 yX6_needRange, Cond.static yX6_needRange, Cond.code yX6_needRange cX6_needRange 3 none, Cond.classLink RX6 274 "java/lang/IllegalArgumentException", Cond.initialized "java/lang/IllegalArgumentException", Cond.methodLink RX6 67 yX0_shineFrom, Cond.instanceMethod yX0_shineFrom, Cond.selects RX0 yX0_shineFrom yX0_shineFrom, Cond.code yX0_shineFrom cX0_shineFrom 2 none]
def wsL_law0_r7 : List Cond := [Cond.methodLink RL 115 yX7_sun, Cond.instanceMethod yX7_sun, Cond.selects RX7 yX7_sun yX7_sun, Cond.code yX7_sun cX7_sun 3 (some .int), Cond.methodLink RX7 81 yX7_in, Cond.static yX7_in, Cond.code yX7_in cX7_in 3 (some .boolean), Cond.methodLink RX7 88 yX7_goesWell, Cond.instanceMethod yX7_goesWell, Cond.selects RX7 yX7_goesWell yX7_goesWell, Cond.code yX7_goesWell cX7_goesWell 2 (some .boolean), Cond.fieldLink RX7 78 "SkipRaysModel" "thrown" "I", Cond.methodLink RL 116 yX7_thrown, Cond.instanceMethod yX7_thrown, Cond.selects RX7 yX7_thrown yX7_thrown, Cond.code yX7_thrown cX7_thrown 1 (some .int), Cond.methodLink RL 120 yL_storm, Cond.static yL_storm, Cond.codeWith yL_storm cL_storm 4 (some .int) [(0, 6, 9, 13)], Cond.methodLink RL 15 yX6_storm, Cond.instanceMethod yX6_storm, Cond.selects RX6 yX6_storm yX6_storm, Cond.code yX6_storm cX6_storm 3 none, Cond.methodLink RX6 70 yX0_beginStorm]
def wsL_law0_r8 : List Cond := [Cond.instanceMethod yX0_beginStorm, Cond.selects RX0 yX0_beginStorm yX0_beginStorm, Cond.code yX0_beginStorm cX0_beginStorm 3 none, Cond.fieldLink RX0 33 "SkipRays$Air" "stormHours" "I", Cond.methodLink RL 123 yX7_storm, Cond.instanceMethod yX7_storm, Cond.selects RX7 yX7_storm yX7_storm, Cond.code yX7_storm cX7_storm 3 none, Cond.fieldLink RX7 92 "SkipRaysModel" "storm" "I", Cond.fieldLink RX7 95 "SkipRaysModel" "stormHours" "I", Cond.methodLink RL 124 yL_flare, Cond.static yL_flare, Cond.codeWith yL_flare cL_flare 4 (some .int) [(0, 9, 12, 13)], Cond.methodLink RL 19 yX6_flare, Cond.instanceMethod yX6_flare, Cond.selects RX6 yX6_flare yX6_flare, Cond.code yX6_flare cX6_flare 3 (some .int), Cond.methodLink RX6 77 yX0_burst, Cond.instanceMethod yX0_burst, Cond.selects RX0 yX0_burst yX0_burst, Cond.code yX0_burst cX0_burst 2 none, Cond.methodLink RL 126 yX7_flare, Cond.instanceMethod yX7_flare, Cond.selects RX7 yX7_flare yX7_flare]
def wsL_law0_r9 : List Cond := [Cond.code yX7_flare cX7_flare 3 (some .int), Cond.fieldLink RX7 98 "SkipRaysModel" "flare" "I", Cond.methodLink RL 127 yL_cloud, Cond.static yL_cloud, Cond.codeWith yL_cloud cL_cloud 5 (some .int) [(0, 7, 10, 26), (0, 7, 14, 13)], Cond.classLink RL 26 "java/lang/IndexOutOfBoundsException", Cond.methodLink RL 22 yX6_cloud, Cond.instanceMethod yX6_cloud, Cond.selects RX6 yX6_cloud yX6_cloud, Cond.code yX6_cloud cX6_cloud 4 none, Cond.methodLink RX6 80 yX6_needPlace, Cond.static yX6_needPlace, Cond.code yX6_needPlace cX6_needPlace 1 none, Cond.classLink RX6 203 "java/lang/IndexOutOfBoundsException", Cond.initialized "java/lang/IndexOutOfBoundsException", Cond.methodLink RX6 83 yX0_coverPlace, Cond.instanceMethod yX0_coverPlace, Cond.selects RX0 yX0_coverPlace yX0_coverPlace, Cond.code yX0_coverPlace cX0_coverPlace 4 none, Cond.methodLink RL 130 yX7_cloud, Cond.instanceMethod yX7_cloud, Cond.selects RX7 yX7_cloud yX7_cloud, Cond.code yX7_cloud cX7_cloud 5 none, Cond.methodLink RX7 101 yX7_isPlace]
def wsL_law0_r10 : List Cond := [Cond.static yX7_isPlace, Cond.code yX7_isPlace cX7_isPlace 1 (some .boolean), Cond.methodLink RL 131 yL_sea, Cond.static yL_sea, Cond.codeWith yL_sea cL_sea 5 (some .int) [(0, 17, 20, 26)], Cond.methodLink RL 28 yX6_sea, Cond.instanceMethod yX6_sea, Cond.selects RX6 yX6_sea yX6_sea, Cond.code yX6_sea cX6_sea 4 (some .boolean), Cond.methodLink RL 134 yX7_sea, Cond.instanceMethod yX7_sea, Cond.selects RX7 yX7_sea yX7_sea, Cond.code yX7_sea cX7_sea 4 (some .boolean), Cond.methodLink RL 135 yL_noise, Cond.static yL_noise, Cond.codeWith yL_noise cL_noise 5 (some .int) [(0, 10, 13, 26), (0, 10, 17, 13)], Cond.methodLink RL 32 yX6_noise, Cond.instanceMethod yX6_noise, Cond.selects RX6 yX6_noise yX6_noise, Cond.code yX6_noise cX6_noise 4 (some .int), Cond.methodLink RL 138 yX7_noise, Cond.instanceMethod yX7_noise, Cond.selects RX7 yX7_noise yX7_noise, Cond.code yX7_noise cX7_noise 5 (some .int)]
def wsL_law0_r11 : List Cond := [Cond.methodLink RL 139 yL_pass, Cond.static yL_pass, Cond.codeWith yL_pass cL_pass 4 (some .int) [(0, 9, 12, 13), (0, 9, 15, 39)], Cond.classLink RL 39 "java/lang/IllegalStateException", Cond.methodLink RL 36 yX6_pass, Cond.instanceMethod yX6_pass, Cond.selects RX6 yX6_pass yX6_pass, Cond.code yX6_pass cX6_pass 2 (some .int), Cond.classLink RX6 97 "java/lang/IllegalStateException", Cond.initialized "java/lang/IllegalStateException", Cond.methodLink RX6 104 yX0_letGoBy, Cond.instanceMethod yX0_letGoBy, Cond.selects RX0 yX0_letGoBy yX0_letGoBy, Cond.code yX0_letGoBy cX0_letGoBy 3 none, Cond.methodLink RX0 39 yX0_letOneGoBy, Cond.instanceMethod yX0_letOneGoBy, Cond.selects RX0 yX0_letOneGoBy yX0_letOneGoBy, Cond.code yX0_letOneGoBy cX0_letOneGoBy 2 none, Cond.methodLink RL 141 yX7_pass, Cond.instanceMethod yX7_pass, Cond.selects RX7 yX7_pass yX7_pass, Cond.code yX7_pass cX7_pass 4 (some .int), Cond.fieldLink RX7 104 "SkipRaysModel" "hour" "I", Cond.methodLink RX7 107 yX7_passOne]
def wsL_law0_r12 : List Cond := [Cond.instanceMethod yX7_passOne, Cond.selects RX7 yX7_passOne yX7_passOne, Cond.code yX7_passOne cX7_passOne 2 none, Cond.methodLink RL 142 yL_station, Cond.static yL_station, Cond.codeWith yL_station cL_station 7 (some .int) [(0, 14, 17, 26), (0, 14, 21, 13), (0, 14, 25, 39)], Cond.methodLink RL 41 yX6_station, Cond.instanceMethod yX6_station, Cond.selects RX6 yX6_station yX6_station, Cond.code yX6_station cX6_station 5 (some .int), Cond.methodLink RX6 107 yX5_isFull, Cond.instanceMethod yX5_isFull, Cond.selects RX5 yX5_isFull yX5_isFull, Cond.code yX5_isFull cX5_isFull 1 (some .boolean), Cond.fieldLink RX5 27 "SkipRays$Senders" "made" "I", Cond.methodLink RX6 113 yX5_add, Cond.instanceMethod yX5_add, Cond.selects RX5 yX5_add yX5_add, Cond.code yX5_add cX5_add 7 (some .int), Cond.methodLink RL 145 yX7_station, Cond.instanceMethod yX7_station, Cond.selects RX7 yX7_station yX7_station, Cond.code yX7_station cX7_station 7 (some .int), Cond.fieldLink RX7 85 "SkipRaysModel" "stations" "I"]
def wsL_law0_r13 : List Cond := [Cond.methodLink RL 146 yL_beacon, Cond.static yL_beacon, Cond.codeWith yL_beacon cL_beacon 6 (some .int) [(0, 12, 15, 26), (0, 12, 19, 13), (0, 12, 23, 39)], Cond.methodLink RL 45 yX6_beacon, Cond.instanceMethod yX6_beacon, Cond.selects RX6 yX6_beacon yX6_beacon, Cond.code yX6_beacon cX6_beacon 4 (some .int), Cond.methodLink RX6 117 yX6_needFrequency, Cond.static yX6_needFrequency, Cond.code yX6_needFrequency cX6_needFrequency 1 none, Cond.methodLink RL 149 yX7_beacon, Cond.instanceMethod yX7_beacon, Cond.selects RX7 yX7_beacon yX7_beacon, Cond.code yX7_beacon cX7_beacon 6 (some .int), Cond.fieldLink RX7 174 "SkipRaysModel" "beacons" "I", Cond.methodLink RX7 152 yX7_isOn, Cond.static yX7_isOn, Cond.code yX7_isOn cX7_isOn 1 (some .boolean), Cond.methodLink RL 150 yL_call, Cond.static yL_call, Cond.codeWith yL_call cL_call 7 (some .int) [(0, 21, 24, 26), (0, 21, 28, 13), (0, 21, 32, 39)], Cond.methodLink RL 49 yX6_call, Cond.instanceMethod yX6_call, Cond.selects RX6 yX6_call yX6_call]
def wsL_law0_r14 : List Cond := [Cond.code yX6_call cX6_call 6 (some .boolean), Cond.methodLink RX6 122 yX6_needStation, Cond.instanceMethod yX6_needStation, Cond.selects RX6 yX6_needStation yX6_needStation, Cond.code yX6_needStation cX6_needStation 2 none, Cond.methodLink RX6 281 yX5_has, Cond.instanceMethod yX5_has, Cond.selects RX5 yX5_has yX5_has, Cond.code yX5_has cX5_has 2 (some .boolean), Cond.methodLink RX6 125 yX6_needDifferent, Cond.static yX6_needDifferent, Cond.code yX6_needDifferent cX6_needDifferent 2 none, Cond.methodLink RX6 128 yX1_isFull, Cond.instanceMethod yX1_isFull, Cond.selects RX1 yX1_isFull yX1_isFull, Cond.code yX1_isFull cX1_isFull 1 (some .boolean), Cond.fieldLink RX1 27 "SkipRays$Contacts" "made" "I", Cond.methodLink RX6 131 yX6_neededFor, Cond.static yX6_neededFor, Cond.code yX6_neededFor cX6_neededFor 1 (some .int), Cond.methodLink RX6 135 yX6_signalBetween, Cond.instanceMethod yX6_signalBetween, Cond.selects RX6 yX6_signalBetween yX6_signalBetween, Cond.code yX6_signalBetween cX6_signalBetween 4 (some .int)]
def wsL_law0_r15 : List Cond := [Cond.methodLink RX6 154 yX6_signalAt, Cond.instanceMethod yX6_signalAt, Cond.selects RX6 yX6_signalAt yX6_signalAt, Cond.code yX6_signalAt cX6_signalAt 9 (some .int), Cond.methodLink RX6 288 yX6_directionOf, Cond.static yX6_directionOf, Cond.code yX6_directionOf cX6_directionOf 1 (some .int), Cond.methodLink RX6 291 yX6_angleOf, Cond.static yX6_angleOf, Cond.code yX6_angleOf cX6_angleOf 1 (some .int), Cond.methodLink RX6 303 yX5_strengthAtFirst, Cond.instanceMethod yX5_strengthAtFirst, Cond.selects RX5 yX5_strengthAtFirst yX5_strengthAtFirst, Cond.code yX5_strengthAtFirst cX5_strengthAtFirst 4 (some .int), Cond.methodLink RX5 31 yX5_gain, Cond.static yX5_gain, Cond.code yX5_gain cX5_gain 2 (some .int), Cond.methodLink RX5 35 yX5_aside, Cond.static yX5_aside, Cond.code yX5_aside cX5_aside 2 (some .int), Cond.methodLink RX6 196 yX6_reaches, Cond.instanceMethod yX6_reaches, Cond.selects RX6 yX6_reaches yX6_reaches, Cond.code yX6_reaches cX6_reaches 8 (some .boolean)]
def wsL_law0_r16 : List Cond := [Cond.methodLink RX6 294 yX4_leave, Cond.instanceMethod yX4_leave, Cond.selects RX4 yX4_leave yX4_leave, Cond.code yX4_leave cX4_leave 6 none, Cond.fieldLink RX4 9 "SkipRays$Ray" "place" "I", Cond.fieldLink RX4 15 "SkipRays$Ray" "direction" "I", Cond.fieldLink RX4 18 "SkipRays$Ray" "angle" "I", Cond.fieldLink RX4 21 "SkipRays$Ray" "frequency" "I", Cond.fieldLink RX4 24 "SkipRays$Ray" "strength" "I", Cond.fieldLink RX4 27 "SkipRays$Ray" "legs" "I", Cond.fieldLink RX4 30 "SkipRays$Ray" "legsByE" "I", Cond.fieldLink RX4 33 "SkipRays$Ray" "delay" "I", Cond.methodLink RX6 297 yX4_goOn, Cond.instanceMethod yX4_goOn, Cond.selects RX4 yX4_goOn yX4_goOn, Cond.code yX4_goOn cX4_goOn 9 (some .boolean), Cond.methodLink RX4 36 yX0_bender, Cond.instanceMethod yX0_bender, Cond.selects RX0 yX0_bender yX0_bender, Cond.code yX0_bender cX0_bender 7 (some .int), Cond.static yX6_lengthBy, Cond.code yX6_lengthBy cX6_lengthBy 2 (some .int), Cond.static yX6_ring, Cond.code yX6_ring cX6_ring 2 (some .int)]
def wsL_law0_r17 : List Cond := [Cond.static yX6_bends, Cond.code yX6_bends cX6_bends 3 (some .boolean), Cond.methodLink RX4 54 yX3_takes, Cond.instanceMethod yX3_takes, Cond.selects RX3 yX3_takes yX3_takes, Cond.code yX3_takes cX3_takes 2 (some .int), Cond.methodLink RX6 309 yX6_noiseNow, Cond.instanceMethod yX6_noiseNow, Cond.selects RX6 yX6_noiseNow yX6_noiseNow, Cond.code yX6_noiseNow cX6_noiseNow 3 (some .int), Cond.methodLink RX6 164 yX6_lightIn, Cond.methodLink RX6 139 yX1_add, Cond.instanceMethod yX1_add, Cond.selects RX1 yX1_add yX1_add, Cond.code yX1_add cX1_add 6 none, Cond.methodLink RL 152 yX7_call, Cond.instanceMethod yX7_call, Cond.selects RX7 yX7_call yX7_call, Cond.code yX7_call cX7_call 9 (some .boolean), Cond.fieldLink RX7 180 "SkipRaysModel" "contacts" "I", Cond.methodLink RX7 177 yX7_isStation, Cond.instanceMethod yX7_isStation, Cond.selects RX7 yX7_isStation yX7_isStation, Cond.code yX7_isStation cX7_isStation 2 (some .boolean)]
def wsL_law0_r18 : List Cond := [Cond.methodLink RX7 183 yX7_signalBy, Cond.instanceMethod yX7_signalBy, Cond.selects RX7 yX7_signalBy yX7_signalBy, Cond.code yX7_signalBy cX7_signalBy 4 (some .int), Cond.methodLink RX7 170 yX7_signalOf, Cond.instanceMethod yX7_signalOf, Cond.selects RX7 yX7_signalOf yX7_signalOf, Cond.code yX7_signalOf cX7_signalOf 10 (some .int), Cond.fieldLink RX7 135 "SkipRaysModel" "left" "I", Cond.methodLink RX7 167 yX7_begins, Cond.static yX7_begins, Cond.code yX7_begins cX7_begins 7 (some .int), Cond.methodLink RX7 159 yX7_followBy, Cond.instanceMethod yX7_followBy, Cond.selects RX7 yX7_followBy yX7_followBy, Cond.code yX7_followBy cX7_followBy 6 (some .boolean), Cond.methodLink RX7 148 yX7_follow, Cond.instanceMethod yX7_follow, Cond.selects RX7 yX7_follow yX7_follow, Cond.code yX7_follow cX7_follow 11 (some .boolean), Cond.fieldLink RX7 129 "SkipRaysModel" "legs" "I", Cond.fieldLink RX7 132 "SkipRaysModel" "byE" "I", Cond.fieldLink RX7 138 "SkipRaysModel" "delay" "I", Cond.methodLink RX7 141 yX7_layerOf]
def wsL_law0_r19 : List Cond := [Cond.instanceMethod yX7_layerOf, Cond.selects RX7 yX7_layerOf yX7_layerOf, Cond.code yX7_layerOf cX7_layerOf 5 (some .int), Cond.methodLink RX7 121 yX7_on, Cond.static yX7_on, Cond.code yX7_on cX7_on 3 (some .int), Cond.methodLink RX7 125 yX7_bends, Cond.instanceMethod yX7_bends, Cond.selects RX7 yX7_bends yX7_bends, Cond.code yX7_bends cX7_bends 5 (some .boolean), Cond.methodLink RX7 118 yX7_dense, Cond.instanceMethod yX7_dense, Cond.selects RX7 yX7_dense yX7_dense, Cond.code yX7_dense cX7_dense 5 (some .int), Cond.fieldLink RX7 114 "SkipRaysModel" "isCalm" "Z", Cond.methodLink RX7 110 yX7_lightOf, Cond.instanceMethod yX7_lightOf, Cond.selects RX7 yX7_lightOf yX7_lightOf, Cond.code yX7_lightOf cX7_lightOf 5 (some .int), Cond.methodLink RX7 145 yX7_lengthOf, Cond.static yX7_lengthOf, Cond.code yX7_lengthOf cX7_lengthOf 2 (some .int), Cond.methodLink RL 153 yL_log, Cond.static yL_log]
def wsL_law0_r20 : List Cond := [Cond.codeWith yL_log cL_log 6 (some .int) [(0, 12, 15, 26), (0, 12, 19, 13), (0, 12, 23, 39)], Cond.methodLink RL 53 yX6_log, Cond.instanceMethod yX6_log, Cond.selects RX6 yX6_log yX6_log, Cond.code yX6_log cX6_log 4 (some .int), Cond.methodLink RX6 142 yX2_isFull, Cond.instanceMethod yX2_isFull, Cond.selects RX2 yX2_isFull yX2_isFull, Cond.code yX2_isFull cX2_isFull 1 (some .boolean), Cond.fieldLink RX2 27 "SkipRays$Entries" "made" "I", Cond.methodLink RX6 145 yX2_add, Cond.instanceMethod yX2_add, Cond.selects RX2 yX2_add yX2_add, Cond.code yX2_add cX2_add 7 (some .int), Cond.fieldLink RX2 35 "SkipRays$Entries" "paired" "I", Cond.methodLink RX2 31 yX2_partnerFor, Cond.instanceMethod yX2_partnerFor, Cond.selects RX2 yX2_partnerFor yX2_partnerFor, Cond.code yX2_partnerFor cX2_partnerFor 6 (some .int), Cond.methodLink RL 155 yX7_log, Cond.instanceMethod yX7_log, Cond.selects RX7 yX7_log yX7_log, Cond.code yX7_log cX7_log 9 (some .int), Cond.fieldLink RX7 187 "SkipRaysModel" "entries" "I"]
def wsL_law0_r21 : List Cond := [Cond.methodLink RL 156 yL_listen, Cond.static yL_listen, Cond.codeWith yL_listen cL_listen 4 (some .int) [(0, 9, 12, 26)], Cond.methodLink RL 56 yX6_listen, Cond.instanceMethod yX6_listen, Cond.selects RX6 yX6_listen yX6_listen, Cond.code yX6_listen cX6_listen 7 (some .int), Cond.fieldLink RX6 158 "SkipRays" "forecastsRight" "I", Cond.fieldLink RX6 161 "SkipRays" "forecastsMade" "I", Cond.methodLink RL 158 yX7_listen, Cond.instanceMethod yX7_listen, Cond.selects RX7 yX7_listen yX7_listen, Cond.code yX7_listen cX7_listen 6 (some .int), Cond.fieldLink RX7 190 "SkipRaysModel" "made" "I", Cond.fieldLink RX7 193 "SkipRaysModel" "right" "I", Cond.methodLink RL 159 yX6_hour, Cond.instanceMethod yX6_hour, Cond.selects RX6 yX6_hour yX6_hour, Cond.code yX6_hour cX6_hour 1 (some .int), Cond.methodLink RL 162 yX7_hour, Cond.instanceMethod yX7_hour, Cond.selects RX7 yX7_hour yX7_hour, Cond.code yX7_hour cX7_hour 1 (some .int), Cond.methodLink RL 163 yL_light]
def wsL_law0_r22 : List Cond := [Cond.static yL_light, Cond.codeWith yL_light cL_light 5 (some .int) [(0, 10, 13, 26), (0, 10, 17, 13)], Cond.methodLink RL 59 yX6_light, Cond.instanceMethod yX6_light, Cond.selects RX6 yX6_light yX6_light, Cond.code yX6_light cX6_light 3 (some .int), Cond.methodLink RL 165 yX7_light, Cond.instanceMethod yX7_light, Cond.selects RX7 yX7_light yX7_light, Cond.code yX7_light cX7_light 4 (some .int), Cond.methodLink RL 166 yL_density, Cond.static yL_density, Cond.codeWith yL_density cL_density 5 (some .int) [(0, 10, 13, 26), (0, 10, 17, 13)], Cond.methodLink RL 62 yX6_density, Cond.instanceMethod yX6_density, Cond.selects RX6 yX6_density yX6_density, Cond.code yX6_density cX6_density 3 (some .int), Cond.methodLink RL 168 yX7_density, Cond.instanceMethod yX7_density, Cond.selects RX7 yX7_density yX7_density, Cond.code yX7_density cX7_density 4 (some .int), Cond.methodLink RL 169 yL_landing, Cond.static yL_landing, Cond.codeWith yL_landing cL_landing 8 (some .int) [(0, 16, 19, 26), (0, 16, 23, 13)]]
def wsL_law0_r23 : List Cond := [Cond.methodLink RL 65 yX6_landing, Cond.instanceMethod yX6_landing, Cond.selects RX6 yX6_landing yX6_landing, Cond.code yX6_landing cX6_landing 10 (some .int), Cond.methodLink RX6 172 yX6_needRay, Cond.static yX6_needRay, Cond.code yX6_needRay cX6_needRay 4 none, Cond.methodLink RX6 176 yX0_bender, Cond.methodLink RX6 179 yX6_lengthBy, Cond.methodLink RX6 182 yX6_ring, Cond.methodLink RL 172 yX7_landing, Cond.instanceMethod yX7_landing, Cond.selects RX7 yX7_landing yX7_landing, Cond.code yX7_landing cX7_landing 8 (some .int), Cond.methodLink RX7 155 yX7_landed, Cond.instanceMethod yX7_landed, Cond.selects RX7 yX7_landed yX7_landed, Cond.code yX7_landed cX7_landed 9 (some .int), Cond.methodLink RL 173 yL_landingAnew, Cond.static yL_landingAnew, Cond.codeWith yL_landingAnew cL_landingAnew 8 (some .int) [(0, 16, 19, 26), (0, 16, 23, 13)], Cond.methodLink RL 69 yX6_landingAnew, Cond.instanceMethod yX6_landingAnew, Cond.selects RX6 yX6_landingAnew yX6_landingAnew]
def wsL_law0_r24 : List Cond := [Cond.code yX6_landingAnew cX6_landingAnew 9 (some .int), Cond.methodLink RX6 185 yX6_legAnew, Cond.instanceMethod yX6_legAnew, Cond.selects RX6 yX6_legAnew yX6_legAnew, Cond.code yX6_legAnew cX6_legAnew 8 (some .int), Cond.methodLink RX6 189 yX6_walked, Cond.static yX6_walked, Cond.code yX6_walked cX6_walked 5 (some .int), Cond.methodLink RX6 284 yX6_bends, Cond.methodLink RL 175 yX7_landingAnew, Cond.instanceMethod yX7_landingAnew, Cond.selects RX7 yX7_landingAnew yX7_landingAnew, Cond.code yX7_landingAnew cX7_landingAnew 8 (some .int), Cond.methodLink RL 176 yL_paths, Cond.static yL_paths, Cond.codeWith yL_paths cL_paths 7 (some .int) [(0, 14, 17, 26), (0, 14, 21, 13)], Cond.methodLink RL 72 yX6_paths, Cond.instanceMethod yX6_paths, Cond.selects RX6 yX6_paths yX6_paths, Cond.code yX6_paths cX6_paths 7 (some .int), Cond.methodLink RX6 193 yX6_needPath, Cond.static yX6_needPath, Cond.code yX6_needPath cX6_needPath 4 none, Cond.methodLink RX6 216 yX6_needStrength]
def wsL_law0_r25 : List Cond := [Cond.static yX6_needStrength, Cond.code yX6_needStrength cX6_needStrength 1 none, Cond.methodLink RL 178 yX7_paths, Cond.instanceMethod yX7_paths, Cond.selects RX7 yX7_paths yX7_paths, Cond.code yX7_paths cX7_paths 6 (some .int), Cond.methodLink RX7 163 yX7_pathsOf, Cond.instanceMethod yX7_pathsOf, Cond.selects RX7 yX7_pathsOf yX7_pathsOf, Cond.code yX7_pathsOf cX7_pathsOf 7 (some .int), Cond.methodLink RL 179 yL_path, Cond.static yL_path, Cond.codeWith yL_path cL_path 9 (some .int) [(0, 18, 21, 26), (0, 18, 25, 13)], Cond.methodLink RL 75 yX6_path, Cond.instanceMethod yX6_path, Cond.selects RX6 yX6_path yX6_path, Cond.code yX6_path cX6_path 9 (some .int), Cond.methodLink RX6 200 yX4_tell, Cond.instanceMethod yX4_tell, Cond.selects RX4 yX4_tell yX4_tell, Cond.code yX4_tell cX4_tell 2 (some .int), Cond.methodLink RL 182 yX7_path, Cond.instanceMethod yX7_path, Cond.selects RX7 yX7_path yX7_path]
def wsL_law0_r26 : List Cond := [Cond.code yX7_path cX7_path 12 (some .int), Cond.methodLink RL 183 yL_explain, Cond.static yL_explain, Cond.codeWith yL_explain cL_explain 8 (some .int) [(0, 16, 19, 26), (0, 16, 23, 13)], Cond.methodLink RL 79 yX6_explain, Cond.instanceMethod yX6_explain, Cond.selects RX6 yX6_explain yX6_explain, Cond.code yX6_explain cX6_explain 11 (some .int), Cond.methodLink RL 186 yX7_explain, Cond.instanceMethod yX7_explain, Cond.selects RX7 yX7_explain yX7_explain, Cond.code yX7_explain cX7_explain 13 (some .int), Cond.methodLink RL 187 yL_usable, Cond.static yL_usable, Cond.codeWith yL_usable cL_usable 7 (some .int) [(0, 14, 17, 26), (0, 14, 21, 13)], Cond.methodLink RL 83 yX6_usable, Cond.instanceMethod yX6_usable, Cond.selects RX6 yX6_usable yX6_usable, Cond.code yX6_usable cX6_usable 10 (some .int), Cond.methodLink RX6 219 yX6_hasPath, Cond.instanceMethod yX6_hasPath, Cond.selects RX6 yX6_hasPath yX6_hasPath, Cond.code yX6_hasPath cX6_hasPath 6 (some .boolean), Cond.methodLink RL 190 yX7_usable]
def wsL_law0_r27 : List Cond := [Cond.instanceMethod yX7_usable, Cond.selects RX7 yX7_usable yX7_usable, Cond.code yX7_usable cX7_usable 8 (some .int), Cond.methodLink RL 191 yL_skipped, Cond.static yL_skipped, Cond.codeWith yL_skipped cL_skipped 6 (some .int) [(0, 12, 15, 26), (0, 12, 19, 13)], Cond.methodLink RL 87 yX6_skipped, Cond.instanceMethod yX6_skipped, Cond.selects RX6 yX6_skipped yX6_skipped, Cond.code yX6_skipped cX6_skipped 8 (some .int), Cond.methodLink RX6 223 Lib.Math.min.name, Cond.static Lib.Math.min.name, Cond.code Lib.Math.min.name Lib.Math.min.code 2 (some .int), Cond.methodLink RL 194 yX7_skipped, Cond.instanceMethod yX7_skipped, Cond.selects RX7 yX7_skipped yX7_skipped, Cond.code yX7_skipped cX7_skipped 9 (some .int), Cond.methodLink RL 195 yL_signal, Cond.static yL_signal, Cond.codeWith yL_signal cL_signal 6 (some .int) [(0, 12, 15, 26), (0, 12, 19, 13)], Cond.methodLink RL 91 yX6_signal, Cond.instanceMethod yX6_signal, Cond.selects RX6 yX6_signal yX6_signal, Cond.code yX6_signal cX6_signal 4 (some .int)]
def wsL_law0_r28 : List Cond := [Cond.methodLink RL 197 yX7_signal, Cond.instanceMethod yX7_signal, Cond.selects RX7 yX7_signal yX7_signal, Cond.code yX7_signal cX7_signal 5 (some .int), Cond.methodLink RL 198 yL_contactOf, Cond.static yL_contactOf, Cond.codeWith yL_contactOf cL_contactOf 5 (some .int) [(0, 10, 13, 26), (0, 10, 17, 13)], Cond.methodLink RL 94 yX6_contactOf, Cond.instanceMethod yX6_contactOf, Cond.selects RX6 yX6_contactOf yX6_contactOf, Cond.code yX6_contactOf cX6_contactOf 3 (some .int), Cond.methodLink RX6 229 yX1_has, Cond.instanceMethod yX1_has, Cond.selects RX1 yX1_has yX1_has, Cond.code yX1_has cX1_has 2 (some .boolean), Cond.methodLink RX6 235 yX1_tell, Cond.instanceMethod yX1_tell, Cond.selects RX1 yX1_tell yX1_tell, Cond.code yX1_tell cX1_tell 3 (some .int), Cond.methodLink RL 200 yX7_contactOf, Cond.instanceMethod yX7_contactOf, Cond.selects RX7 yX7_contactOf yX7_contactOf, Cond.code yX7_contactOf cX7_contactOf 4 (some .int), Cond.methodLink RL 201 yL_entryOf]
def wsL_law0_r29 : List Cond := [Cond.static yL_entryOf, Cond.codeWith yL_entryOf cL_entryOf 5 (some .int) [(0, 10, 13, 26), (0, 10, 17, 13)], Cond.methodLink RL 97 yX6_entryOf, Cond.instanceMethod yX6_entryOf, Cond.selects RX6 yX6_entryOf yX6_entryOf, Cond.code yX6_entryOf cX6_entryOf 3 (some .int), Cond.methodLink RX6 237 yX2_has, Cond.instanceMethod yX2_has, Cond.selects RX2 yX2_has yX2_has, Cond.code yX2_has cX2_has 2 (some .boolean), Cond.methodLink RX6 240 yX6_counts, Cond.instanceMethod yX6_counts, Cond.selects RX6 yX6_counts yX6_counts, Cond.code yX6_counts cX6_counts 5 (some .boolean), Cond.methodLink RX6 315 yX1_isOf, Cond.instanceMethod yX1_isOf, Cond.selects RX1 yX1_isOf yX1_isOf, Cond.code yX1_isOf cX1_isOf 4 (some .boolean), Cond.methodLink RX6 243 yX2_tell, Cond.instanceMethod yX2_tell, Cond.selects RX2 yX2_tell yX2_tell, Cond.code yX2_tell cX2_tell 3 (some .int), Cond.methodLink RL 203 yX7_entryOf, Cond.instanceMethod yX7_entryOf]
def wsL_law0_r30 : List Cond := [Cond.selects RX7 yX7_entryOf yX7_entryOf, Cond.code yX7_entryOf cX7_entryOf 4 (some .int), Cond.methodLink RX7 196 yX7_counts, Cond.instanceMethod yX7_counts, Cond.selects RX7 yX7_counts yX7_counts, Cond.code yX7_counts cX7_counts 6 (some .boolean), Cond.methodLink RL 204 yL_score, Cond.static yL_score, Cond.codeWith yL_score cL_score 4 (some .int) [(0, 9, 12, 26)], Cond.methodLink RL 100 yX6_score, Cond.instanceMethod yX6_score, Cond.selects RX6 yX6_score yX6_score, Cond.code yX6_score cX6_score 7 (some .int), Cond.methodLink RX6 254 yX6_distance, Cond.static yX6_distance, Cond.code yX6_distance cX6_distance 3 (some .int), Cond.methodLink RX6 263 yJ6_bitCount_0f7a4, Cond.static yJ6_bitCount_0f7a4, Cond.initialized RJ6, Cond.code yJ6_bitCount_0f7a4 cJ6_bitCount_0f7a4 1 (some .int), Cond.constant RJ6 265 (1431655765), Cond.constant RJ6 266 (858993459), Cond.constant RJ6 267 (252645135), Cond.methodLink RL 206 yX7_score]
def wsL_law0_r31 : List Cond := [Cond.instanceMethod yX7_score, Cond.selects RX7 yX7_score yX7_score, Cond.code yX7_score cX7_score 7 (some .int), Cond.methodLink RX7 199 yX7_gap, Cond.static yX7_gap, Cond.code yX7_gap cX7_gap 3 (some .int), Cond.methodLink RL 207 yX6_forecasts, Cond.instanceMethod yX6_forecasts, Cond.selects RX6 yX6_forecasts yX6_forecasts, Cond.code yX6_forecasts cX6_forecasts 2 (some .int), Cond.methodLink RL 211 yX7_forecasts, Cond.instanceMethod yX7_forecasts, Cond.selects RX7 yX7_forecasts yX7_forecasts, Cond.code yX7_forecasts cX7_forecasts 2 (some .int), Cond.methodLink RL 212 yL_count, Cond.static yL_count, Cond.codeWith yL_count cL_count 4 (some .int) [(0, 9, 12, 13)], Cond.methodLink RL 103 yX6_count, Cond.instanceMethod yX6_count, Cond.selects RX6 yX6_count yX6_count, Cond.code yX6_count cX6_count 2 (some .int), Cond.methodLink RL 214 yX7_count, Cond.instanceMethod yX7_count, Cond.selects RX7 yX7_count yX7_count]
def wsL_law0_r32 : List Cond := [Cond.code yX7_count cX7_count 4 (some .int)]
def wsL_law0 : List Cond := (wsL_law0_r1 ++ (wsL_law0_r2 ++ (wsL_law0_r3 ++ (wsL_law0_r4 ++ (wsL_law0_r5 ++ (wsL_law0_r6 ++ (wsL_law0_r7 ++ (wsL_law0_r8 ++ (wsL_law0_r9 ++ (wsL_law0_r10 ++ (wsL_law0_r11 ++ (wsL_law0_r12 ++ (wsL_law0_r13 ++ (wsL_law0_r14 ++ (wsL_law0_r15 ++ (wsL_law0_r16 ++ (wsL_law0_r17 ++ (wsL_law0_r18 ++ (wsL_law0_r19 ++ (wsL_law0_r20 ++ (wsL_law0_r21 ++ (wsL_law0_r22 ++ (wsL_law0_r23 ++ (wsL_law0_r24 ++ (wsL_law0_r25 ++ (wsL_law0_r26 ++ (wsL_law0_r27 ++ (wsL_law0_r28 ++ (wsL_law0_r29 ++ (wsL_law0_r30 ++ (wsL_law0_r31 ++ wsL_law0_r32))))))))))))))))))))))))))))))) ++ wsX60 ++ wsX70 ++ wsX00 ++ wsX30 ++ wsX40 ++ wsX50 ++ wsX10 ++ wsX20 ++ ([] : List Cond)
def wsL_law : List Cond := wsL_law0 ++ (vx_atS RX6 278 "java/lang/IllegalArgumentException" ["java/lang/RuntimeException", "java/lang/Exception"]).filter goodWord ++ (vx_atS RX6 207 "java/lang/IndexOutOfBoundsException" ["java/lang/RuntimeException", "java/lang/Exception"]).filter goodWord ++ (vx_atS RX6 101 "java/lang/IllegalStateException" ["java/lang/RuntimeException", "java/lang/Exception"]).filter goodWord
set_option maxRecDepth 20000 in
theorem wsL_law_in0 : ∀ w ∈ wsL_law0, w ∈ lw_tbl := fun w h => (goodIn_p wsL_law0 [47, 50, 55, 62, 71, 65, 68, 108, 124, 158, 186, 214, 781, 291, 294, 366, 905, 908, 912, 901, 373, 377, 916, 384, 388, 920, 396, 399, 419, 924, 927, 426, 931, 433, 935, 441, 461, 465, 939, 943, 472, 476, 481, 1016, 488, 491, 1020, 950, 499, 503, 507, 511, 516, 520, 524, 528, 531, 534, 538, 541, 544, 548, 552, 556, 560, 563, 566, 569, 575, 579, 584, 1024, 1028, 1032, 1036, 1039, 992, 996, 958, 961, 965, 969, 973, 976, 591, 595, 600, 604, 1043, 611, 1047, 279, 1051, 618, 1055, 625, 1059, 632, 635, 947, 954, 645, 649, 652, 980, 660, 663, 666, 984, 988, 673, 677, 1000, 685, 1004, 692, 696, 1008, 703, 706, 1012, 713, 1063, 720, 724, 729, 1067, 736, 740, 745, 749, 753, 1071, 1075, 760, 763, 766, 1079, 1082, 283, 1086, 776, 1090] (by decide +kernel) (by decide +kernel) w h).1
theorem wsL_law_x0 : ∀ w ∈ (vx_atS RX6 278 "java/lang/IllegalArgumentException" ["java/lang/RuntimeException", "java/lang/Exception"]).filter goodWord, w ∈ lw_tbl := by decide +kernel
theorem wsL_law_x1 : ∀ w ∈ (vx_atS RX6 207 "java/lang/IndexOutOfBoundsException" ["java/lang/RuntimeException", "java/lang/Exception"]).filter goodWord, w ∈ lw_tbl := by decide +kernel
theorem wsL_law_x2 : ∀ w ∈ (vx_atS RX6 101 "java/lang/IllegalStateException" ["java/lang/RuntimeException", "java/lang/Exception"]).filter goodWord, w ∈ lw_tbl := by decide +kernel
theorem wsL_law_in : ∀ w ∈ wsL_law, w ∈ lw_tbl := fun w h => (List.mem_append.mp h).elim (fun h => (List.mem_append.mp h).elim (fun h => (List.mem_append.mp h).elim (fun h => wsL_law_in0 w h) (fun h => wsL_law_x0 w h)) (fun h => wsL_law_x1 w h)) (fun h => wsL_law_x2 w h)
theorem inlX0 : ∀ w ∈ wsX00, w ∈ wsL_law := fun _ h => List.mem_append_left _ (List.mem_append_left _ (List.mem_append_left _ (List.mem_append_left _ (List.mem_append_left _ (List.mem_append_left _ (List.mem_append_left _ (List.mem_append_left _ (List.mem_append_left _ (List.mem_append_right _ h)))))))))
theorem inX0 : ∀ w ∈ wsX00, w ∈ lw_tbl := fun w h => wsL_law_in w (inlX0 w h)
theorem inlX1 : ∀ w ∈ wsX10, w ∈ wsL_law := fun _ h => List.mem_append_left _ (List.mem_append_left _ (List.mem_append_left _ (List.mem_append_left _ (List.mem_append_left _ (List.mem_append_right _ h)))))
theorem inX1 : ∀ w ∈ wsX10, w ∈ lw_tbl := fun w h => wsL_law_in w (inlX1 w h)
theorem inlX2 : ∀ w ∈ wsX20, w ∈ wsL_law := fun _ h => List.mem_append_left _ (List.mem_append_left _ (List.mem_append_left _ (List.mem_append_left _ (List.mem_append_right _ h))))
theorem inX2 : ∀ w ∈ wsX20, w ∈ lw_tbl := fun w h => wsL_law_in w (inlX2 w h)
theorem inlX3 : ∀ w ∈ wsX30, w ∈ wsL_law := fun _ h => List.mem_append_left _ (List.mem_append_left _ (List.mem_append_left _ (List.mem_append_left _ (List.mem_append_left _ (List.mem_append_left _ (List.mem_append_left _ (List.mem_append_left _ (List.mem_append_right _ h))))))))
theorem inX3 : ∀ w ∈ wsX30, w ∈ lw_tbl := fun w h => wsL_law_in w (inlX3 w h)
theorem inlX4 : ∀ w ∈ wsX40, w ∈ wsL_law := fun _ h => List.mem_append_left _ (List.mem_append_left _ (List.mem_append_left _ (List.mem_append_left _ (List.mem_append_left _ (List.mem_append_left _ (List.mem_append_left _ (List.mem_append_right _ h)))))))
theorem inX4 : ∀ w ∈ wsX40, w ∈ lw_tbl := fun w h => wsL_law_in w (inlX4 w h)
theorem inlX5 : ∀ w ∈ wsX50, w ∈ wsL_law := fun _ h => List.mem_append_left _ (List.mem_append_left _ (List.mem_append_left _ (List.mem_append_left _ (List.mem_append_left _ (List.mem_append_left _ (List.mem_append_right _ h))))))
theorem inX5 : ∀ w ∈ wsX50, w ∈ lw_tbl := fun w h => wsL_law_in w (inlX5 w h)
theorem inlX6 : ∀ w ∈ wsX60, w ∈ wsL_law := fun _ h => List.mem_append_left _ (List.mem_append_left _ (List.mem_append_left _ (List.mem_append_left _ (List.mem_append_left _ (List.mem_append_left _ (List.mem_append_left _ (List.mem_append_left _ (List.mem_append_left _ (List.mem_append_left _ (List.mem_append_left _ (List.mem_append_right _ h)))))))))))
theorem inX6 : ∀ w ∈ wsX60, w ∈ lw_tbl := fun w h => wsL_law_in w (inlX6 w h)
theorem inlX7 : ∀ w ∈ wsX70, w ∈ wsL_law := fun _ h => List.mem_append_left _ (List.mem_append_left _ (List.mem_append_left _ (List.mem_append_left _ (List.mem_append_left _ (List.mem_append_left _ (List.mem_append_left _ (List.mem_append_left _ (List.mem_append_left _ (List.mem_append_left _ (List.mem_append_right _ h))))))))))
theorem inX7 : ∀ w ∈ wsX70, w ∈ lw_tbl := fun w h => wsL_law_in w (inlX7 w h)
theorem inJ6 : ∀ w ∈ wsJ60, w ∈ lw_tbl := by decide +kernel
theorem inJ9 : ∀ w ∈ wsJ90, w ∈ lw_tbl := by decide +kernel
theorem inJ0 : ∀ w ∈ wsJ00, w ∈ lw_tbl := by decide +kernel
set_option maxRecDepth 20000 in
theorem ggX0_init_X0_settle : GoodIn wsX0_init wsX0_settle := goodIn_r _ [14, 15, 16, 4, 9, 6, 17, 18, 19, 20, 21, 22, 23, 24, 25, 26, 27, 28, 29, 30, 31, 32, 33, 34, 35, 36] (by decide +kernel) (by decide +kernel)
set_option maxRecDepth 20000 in
theorem gX0_init_X0_settle : GoodIn wsX0_init (wsV RX0 27 RX0 yX0_settle wsX0_settle) := goodIn_app (goodIn_of _ (by decide +kernel)) ggX0_init_X0_settle
theorem dX0_init_0 : decode cX0_init 0 = .ok (.aload_n 0, 1) := by decide +kernel
theorem dX0_init_1 : decode cX0_init 1 = .ok (.invokespecial 3, 3) := by decide +kernel
theorem dX0_init_4 : decode cX0_init 4 = .ok (.aload_n 0, 1) := by decide +kernel
theorem dX0_init_5 : decode cX0_init 5 = .ok (.bipush 50, 2) := by decide +kernel
theorem dX0_init_7 : decode cX0_init 7 = .ok (.putfield 9, 3) := by decide +kernel
theorem dX0_init_10 : decode cX0_init 10 = .ok (.aload_n 0, 1) := by decide +kernel
theorem dX0_init_11 : decode cX0_init 11 = .ok (.bipush 48, 2) := by decide +kernel
theorem dX0_init_13 : decode cX0_init 13 = .ok (.newarray .int, 2) := by decide +kernel
theorem dX0_init_15 : decode cX0_init 15 = .ok (.putfield 15, 3) := by decide +kernel
theorem dX0_init_18 : decode cX0_init 18 = .ok (.aload_n 0, 1) := by decide +kernel
theorem dX0_init_19 : decode cX0_init 19 = .ok (.bipush 48, 2) := by decide +kernel
theorem dX0_init_21 : decode cX0_init 21 = .ok (.newarray .int, 2) := by decide +kernel
theorem dX0_init_23 : decode cX0_init 23 = .ok (.putfield 19, 3) := by decide +kernel
theorem dX0_init_26 : decode cX0_init 26 = .ok (.aload_n 0, 1) := by decide +kernel
theorem dX0_init_27 : decode cX0_init 27 = .ok (.iconst 3, 1) := by decide +kernel
theorem dX0_init_28 : decode cX0_init 28 = .ok (.bipush 48, 2) := by decide +kernel
theorem dX0_init_30 : decode cX0_init 30 = .ok (.multianewarray 22 2, 4) := by decide +kernel
theorem dX0_init_34 : decode cX0_init 34 = .ok (.putfield 24, 3) := by decide +kernel
theorem dX0_init_37 : decode cX0_init 37 = .ok (.aload_n 0, 1) := by decide +kernel
theorem dX0_init_38 : decode cX0_init 38 = .ok (.invokevirtual 27, 3) := by decide +kernel
theorem dX0_init_41 : decode cX0_init 41 = .ok (.return_, 1) := by decide +kernel
set_option maxRecDepth 20000 in
theorem ggX0_shineFrom_X0_settle : GoodIn wsX0_shineFrom wsX0_settle := goodIn_r _ [6, 7, 8, 1, 9, 10, 11, 12, 13, 14, 15, 16, 17, 18, 19, 20, 21, 22, 23, 24, 25, 26, 27, 28, 29, 30] (by decide +kernel) (by decide +kernel)
set_option maxRecDepth 20000 in
theorem gX0_shineFrom_X0_settle : GoodIn wsX0_shineFrom (wsV RX0 27 RX0 yX0_settle wsX0_settle) := goodIn_app (goodIn_of _ (by decide +kernel)) ggX0_shineFrom_X0_settle
theorem dX0_shineFrom_0 : decode cX0_shineFrom 0 = .ok (.aload_n 0, 1) := by decide +kernel
theorem dX0_shineFrom_1 : decode cX0_shineFrom 1 = .ok (.iload_n 1, 1) := by decide +kernel
theorem dX0_shineFrom_2 : decode cX0_shineFrom 2 = .ok (.putfield 9, 3) := by decide +kernel
theorem dX0_shineFrom_5 : decode cX0_shineFrom 5 = .ok (.aload_n 0, 1) := by decide +kernel
theorem dX0_shineFrom_6 : decode cX0_shineFrom 6 = .ok (.invokevirtual 27, 3) := by decide +kernel
theorem dX0_shineFrom_9 : decode cX0_shineFrom 9 = .ok (.return_, 1) := by decide +kernel
set_option maxRecDepth 20000 in
theorem ggX0_beginStorm_X0_settle : GoodIn wsX0_beginStorm wsX0_settle := goodIn_r _ [7, 8, 9, 10, 11, 12, 1, 13, 14, 15, 16, 17, 18, 19, 20, 21, 22, 23, 24, 25, 26, 27, 28, 29, 30, 31] (by decide +kernel) (by decide +kernel)
set_option maxRecDepth 20000 in
theorem gX0_beginStorm_X0_settle : GoodIn wsX0_beginStorm (wsV RX0 27 RX0 yX0_settle wsX0_settle) := goodIn_app (goodIn_of _ (by decide +kernel)) ggX0_beginStorm_X0_settle
theorem dX0_beginStorm_0 : decode cX0_beginStorm 0 = .ok (.aload_n 0, 1) := by decide +kernel
theorem dX0_beginStorm_1 : decode cX0_beginStorm 1 = .ok (.iload_n 1, 1) := by decide +kernel
theorem dX0_beginStorm_2 : decode cX0_beginStorm 2 = .ok (.putfield 30, 3) := by decide +kernel
theorem dX0_beginStorm_5 : decode cX0_beginStorm 5 = .ok (.aload_n 0, 1) := by decide +kernel
theorem dX0_beginStorm_6 : decode cX0_beginStorm 6 = .ok (.iload_n 2, 1) := by decide +kernel
theorem dX0_beginStorm_7 : decode cX0_beginStorm 7 = .ok (.putfield 33, 3) := by decide +kernel
theorem dX0_beginStorm_10 : decode cX0_beginStorm 10 = .ok (.aload_n 0, 1) := by decide +kernel
theorem dX0_beginStorm_11 : decode cX0_beginStorm 11 = .ok (.invokevirtual 27, 3) := by decide +kernel
theorem dX0_beginStorm_14 : decode cX0_beginStorm 14 = .ok (.return_, 1) := by decide +kernel
set_option maxRecDepth 20000 in
theorem ggX0_burst_X0_settle : GoodIn wsX0_burst wsX0_settle := goodIn_r _ [6, 7, 1, 8, 9, 10, 11, 12, 13, 14, 15, 16, 17, 18, 19, 20, 21, 22, 23, 24, 25, 26, 27, 28, 29, 30] (by decide +kernel) (by decide +kernel)
set_option maxRecDepth 20000 in
theorem gX0_burst_X0_settle : GoodIn wsX0_burst (wsV RX0 27 RX0 yX0_settle wsX0_settle) := goodIn_app (goodIn_of _ (by decide +kernel)) ggX0_burst_X0_settle
theorem dX0_burst_0 : decode cX0_burst 0 = .ok (.aload_n 0, 1) := by decide +kernel
theorem dX0_burst_1 : decode cX0_burst 1 = .ok (.iload_n 1, 1) := by decide +kernel
theorem dX0_burst_2 : decode cX0_burst 2 = .ok (.putfield 36, 3) := by decide +kernel
theorem dX0_burst_5 : decode cX0_burst 5 = .ok (.aload_n 0, 1) := by decide +kernel
theorem dX0_burst_6 : decode cX0_burst 6 = .ok (.invokevirtual 27, 3) := by decide +kernel
theorem dX0_burst_9 : decode cX0_burst 9 = .ok (.return_, 1) := by decide +kernel
set_option maxRecDepth 20000 in
theorem ggX0_coverPlace_X0_settle : GoodIn wsX0_coverPlace wsX0_settle := goodIn_r _ [7, 8, 9, 10, 11, 1, 12, 13, 14, 15, 16, 17, 18, 19, 20, 21, 22, 23, 24, 25, 26, 27, 28, 29, 30, 31] (by decide +kernel) (by decide +kernel)
set_option maxRecDepth 20000 in
theorem gX0_coverPlace_X0_settle : GoodIn wsX0_coverPlace (wsV RX0 27 RX0 yX0_settle wsX0_settle) := goodIn_app (goodIn_of _ (by decide +kernel)) ggX0_coverPlace_X0_settle
theorem dX0_coverPlace_0 : decode cX0_coverPlace 0 = .ok (.aload_n 0, 1) := by decide +kernel
theorem dX0_coverPlace_1 : decode cX0_coverPlace 1 = .ok (.getfield 15, 3) := by decide +kernel
theorem dX0_coverPlace_4 : decode cX0_coverPlace 4 = .ok (.iload_n 1, 1) := by decide +kernel
theorem dX0_coverPlace_5 : decode cX0_coverPlace 5 = .ok (.iload_n 2, 1) := by decide +kernel
theorem dX0_coverPlace_6 : decode cX0_coverPlace 6 = .ok (.iastore, 1) := by decide +kernel
theorem dX0_coverPlace_7 : decode cX0_coverPlace 7 = .ok (.aload_n 0, 1) := by decide +kernel
theorem dX0_coverPlace_8 : decode cX0_coverPlace 8 = .ok (.getfield 19, 3) := by decide +kernel
theorem dX0_coverPlace_11 : decode cX0_coverPlace 11 = .ok (.iload_n 1, 1) := by decide +kernel
theorem dX0_coverPlace_12 : decode cX0_coverPlace 12 = .ok (.iload_n 3, 1) := by decide +kernel
theorem dX0_coverPlace_13 : decode cX0_coverPlace 13 = .ok (.iastore, 1) := by decide +kernel
theorem dX0_coverPlace_14 : decode cX0_coverPlace 14 = .ok (.aload_n 0, 1) := by decide +kernel
theorem dX0_coverPlace_15 : decode cX0_coverPlace 15 = .ok (.invokevirtual 27, 3) := by decide +kernel
theorem dX0_coverPlace_18 : decode cX0_coverPlace 18 = .ok (.return_, 1) := by decide +kernel
set_option maxRecDepth 20000 in
theorem ggX0_letGoBy_X0_letOneGoBy : GoodIn wsX0_letGoBy wsX0_letOneGoBy := goodIn_r _ [5, 6, 7, 8, 9, 10, 11, 12, 13, 14, 15, 29, 30, 31, 32, 33, 34, 35, 36] (by decide +kernel) (by decide +kernel)
set_option maxRecDepth 20000 in
theorem gX0_letGoBy_X0_letOneGoBy : GoodIn wsX0_letGoBy (wsV RX0 39 RX0 yX0_letOneGoBy wsX0_letOneGoBy) := goodIn_app (goodIn_of _ (by decide +kernel)) ggX0_letGoBy_X0_letOneGoBy
set_option maxRecDepth 20000 in
theorem ggX0_letGoBy_X0_settle : GoodIn wsX0_letGoBy wsX0_settle := goodIn_r _ [19, 6, 7, 20, 21, 15, 13, 9, 10, 11, 12, 22, 23, 24, 25, 26, 27, 28, 29, 30, 31, 32, 33, 34, 35, 36] (by decide +kernel) (by decide +kernel)
set_option maxRecDepth 20000 in
theorem gX0_letGoBy_X0_settle : GoodIn wsX0_letGoBy (wsV RX0 27 RX0 yX0_settle wsX0_settle) := goodIn_app (goodIn_of _ (by decide +kernel)) ggX0_letGoBy_X0_settle
theorem dX0_letGoBy_0 : decode cX0_letGoBy 0 = .ok (.iconst 0, 1) := by decide +kernel
theorem dX0_letGoBy_1 : decode cX0_letGoBy 1 = .ok (.istore_n 2, 1) := by decide +kernel
theorem dX0_letGoBy_2 : decode cX0_letGoBy 2 = .ok (.iload_n 2, 1) := by decide +kernel
theorem dX0_letGoBy_3 : decode cX0_letGoBy 3 = .ok (.iload_n 1, 1) := by decide +kernel
theorem dX0_letGoBy_4 : decode cX0_letGoBy 4 = .ok (.if_icmp .ge 13, 3) := by decide +kernel
theorem dX0_letGoBy_7 : decode cX0_letGoBy 7 = .ok (.aload_n 0, 1) := by decide +kernel
theorem dX0_letGoBy_8 : decode cX0_letGoBy 8 = .ok (.invokevirtual 39, 3) := by decide +kernel
theorem dX0_letGoBy_11 : decode cX0_letGoBy 11 = .ok (.iinc 2 1, 3) := by decide +kernel
theorem dX0_letGoBy_14 : decode cX0_letGoBy 14 = .ok (.goto (-12), 3) := by decide +kernel
theorem dX0_letGoBy_17 : decode cX0_letGoBy 17 = .ok (.aload_n 0, 1) := by decide +kernel
theorem dX0_letGoBy_18 : decode cX0_letGoBy 18 = .ok (.invokevirtual 27, 3) := by decide +kernel
theorem dX0_letGoBy_21 : decode cX0_letGoBy 21 = .ok (.return_, 1) := by decide +kernel
theorem dX0_letOneGoBy_0 : decode cX0_letOneGoBy 0 = .ok (.aload_n 0, 1) := by decide +kernel
theorem dX0_letOneGoBy_1 : decode cX0_letOneGoBy 1 = .ok (.dup, 1) := by decide +kernel
theorem dX0_letOneGoBy_2 : decode cX0_letOneGoBy 2 = .ok (.getfield 42, 3) := by decide +kernel
theorem dX0_letOneGoBy_5 : decode cX0_letOneGoBy 5 = .ok (.iconst 1, 1) := by decide +kernel
theorem dX0_letOneGoBy_6 : decode cX0_letOneGoBy 6 = .ok (.iadd, 1) := by decide +kernel
theorem dX0_letOneGoBy_7 : decode cX0_letOneGoBy 7 = .ok (.putfield 42, 3) := by decide +kernel
theorem dX0_letOneGoBy_10 : decode cX0_letOneGoBy 10 = .ok (.aload_n 0, 1) := by decide +kernel
theorem dX0_letOneGoBy_11 : decode cX0_letOneGoBy 11 = .ok (.dup, 1) := by decide +kernel
theorem dX0_letOneGoBy_12 : decode cX0_letOneGoBy 12 = .ok (.getfield 36, 3) := by decide +kernel
theorem dX0_letOneGoBy_15 : decode cX0_letOneGoBy 15 = .ok (.iconst 2, 1) := by decide +kernel
theorem dX0_letOneGoBy_16 : decode cX0_letOneGoBy 16 = .ok (.idiv, 1) := by decide +kernel
theorem dX0_letOneGoBy_17 : decode cX0_letOneGoBy 17 = .ok (.putfield 36, 3) := by decide +kernel
theorem dX0_letOneGoBy_20 : decode cX0_letOneGoBy 20 = .ok (.aload_n 0, 1) := by decide +kernel
theorem dX0_letOneGoBy_21 : decode cX0_letOneGoBy 21 = .ok (.iconst 0, 1) := by decide +kernel
theorem dX0_letOneGoBy_22 : decode cX0_letOneGoBy 22 = .ok (.aload_n 0, 1) := by decide +kernel
theorem dX0_letOneGoBy_23 : decode cX0_letOneGoBy 23 = .ok (.getfield 33, 3) := by decide +kernel
theorem dX0_letOneGoBy_26 : decode cX0_letOneGoBy 26 = .ok (.iconst 1, 1) := by decide +kernel
theorem dX0_letOneGoBy_27 : decode cX0_letOneGoBy 27 = .ok (.isub, 1) := by decide +kernel
theorem dX0_letOneGoBy_28 : decode cX0_letOneGoBy 28 = .ok (.invokestatic 45, 3) := by decide +kernel
theorem dX0_letOneGoBy_31 : decode cX0_letOneGoBy 31 = .ok (.putfield 33, 3) := by decide +kernel
theorem dX0_letOneGoBy_34 : decode cX0_letOneGoBy 34 = .ok (.aload_n 0, 1) := by decide +kernel
theorem dX0_letOneGoBy_35 : decode cX0_letOneGoBy 35 = .ok (.getfield 33, 3) := by decide +kernel
theorem dX0_letOneGoBy_38 : decode cX0_letOneGoBy 38 = .ok (.ifCond .ne 8, 3) := by decide +kernel
theorem dX0_letOneGoBy_41 : decode cX0_letOneGoBy 41 = .ok (.aload_n 0, 1) := by decide +kernel
theorem dX0_letOneGoBy_42 : decode cX0_letOneGoBy 42 = .ok (.iconst 0, 1) := by decide +kernel
theorem dX0_letOneGoBy_43 : decode cX0_letOneGoBy 43 = .ok (.putfield 30, 3) := by decide +kernel
theorem dX0_letOneGoBy_46 : decode cX0_letOneGoBy 46 = .ok (.iconst 0, 1) := by decide +kernel
theorem dX0_letOneGoBy_47 : decode cX0_letOneGoBy 47 = .ok (.istore_n 1, 1) := by decide +kernel
theorem dX0_letOneGoBy_48 : decode cX0_letOneGoBy 48 = .ok (.iload_n 1, 1) := by decide +kernel
theorem dX0_letOneGoBy_49 : decode cX0_letOneGoBy 49 = .ok (.bipush 48, 2) := by decide +kernel
theorem dX0_letOneGoBy_51 : decode cX0_letOneGoBy 51 = .ok (.if_icmp .ge 43, 3) := by decide +kernel
theorem dX0_letOneGoBy_54 : decode cX0_letOneGoBy 54 = .ok (.aload_n 0, 1) := by decide +kernel
theorem dX0_letOneGoBy_55 : decode cX0_letOneGoBy 55 = .ok (.getfield 19, 3) := by decide +kernel
theorem dX0_letOneGoBy_58 : decode cX0_letOneGoBy 58 = .ok (.iload_n 1, 1) := by decide +kernel
theorem dX0_letOneGoBy_59 : decode cX0_letOneGoBy 59 = .ok (.iconst 0, 1) := by decide +kernel
theorem dX0_letOneGoBy_60 : decode cX0_letOneGoBy 60 = .ok (.aload_n 0, 1) := by decide +kernel
theorem dX0_letOneGoBy_61 : decode cX0_letOneGoBy 61 = .ok (.getfield 19, 3) := by decide +kernel
theorem dX0_letOneGoBy_64 : decode cX0_letOneGoBy 64 = .ok (.iload_n 1, 1) := by decide +kernel
theorem dX0_letOneGoBy_65 : decode cX0_letOneGoBy 65 = .ok (.iaload, 1) := by decide +kernel
theorem dX0_letOneGoBy_66 : decode cX0_letOneGoBy 66 = .ok (.iconst 1, 1) := by decide +kernel
theorem dX0_letOneGoBy_67 : decode cX0_letOneGoBy 67 = .ok (.isub, 1) := by decide +kernel
theorem dX0_letOneGoBy_68 : decode cX0_letOneGoBy 68 = .ok (.invokestatic 45, 3) := by decide +kernel
theorem dX0_letOneGoBy_71 : decode cX0_letOneGoBy 71 = .ok (.iastore, 1) := by decide +kernel
theorem dX0_letOneGoBy_72 : decode cX0_letOneGoBy 72 = .ok (.aload_n 0, 1) := by decide +kernel
theorem dX0_letOneGoBy_73 : decode cX0_letOneGoBy 73 = .ok (.getfield 19, 3) := by decide +kernel
theorem dX0_letOneGoBy_76 : decode cX0_letOneGoBy 76 = .ok (.iload_n 1, 1) := by decide +kernel
theorem dX0_letOneGoBy_77 : decode cX0_letOneGoBy 77 = .ok (.iaload, 1) := by decide +kernel
theorem dX0_letOneGoBy_78 : decode cX0_letOneGoBy 78 = .ok (.ifCond .ne 10, 3) := by decide +kernel
theorem dX0_letOneGoBy_81 : decode cX0_letOneGoBy 81 = .ok (.aload_n 0, 1) := by decide +kernel
theorem dX0_letOneGoBy_82 : decode cX0_letOneGoBy 82 = .ok (.getfield 15, 3) := by decide +kernel
theorem dX0_letOneGoBy_85 : decode cX0_letOneGoBy 85 = .ok (.iload_n 1, 1) := by decide +kernel
theorem dX0_letOneGoBy_86 : decode cX0_letOneGoBy 86 = .ok (.iconst 0, 1) := by decide +kernel
theorem dX0_letOneGoBy_87 : decode cX0_letOneGoBy 87 = .ok (.iastore, 1) := by decide +kernel
theorem dX0_letOneGoBy_88 : decode cX0_letOneGoBy 88 = .ok (.iinc 1 1, 3) := by decide +kernel
theorem dX0_letOneGoBy_91 : decode cX0_letOneGoBy 91 = .ok (.goto (-43), 3) := by decide +kernel
theorem dX0_letOneGoBy_94 : decode cX0_letOneGoBy 94 = .ok (.return_, 1) := by decide +kernel
set_option maxRecDepth 20000 in
theorem ggX0_settle_X6_lightIn : GoodIn wsX0_settle wsX6_lightIn := goodIn_r _ [13, 14, 15, 9, 16, 17, 8, 10] (by decide +kernel) (by decide +kernel)
set_option maxRecDepth 20000 in
theorem gX0_settle_X6_lightIn_n51 : GoodIn wsX0_settle (wsX6_lightIn) := ggX0_settle_X6_lightIn
theorem dX0_settle_0 : decode cX0_settle 0 = .ok (.iconst 0, 1) := by decide +kernel
theorem dX0_settle_1 : decode cX0_settle 1 = .ok (.istore_n 1, 1) := by decide +kernel
theorem dX0_settle_2 : decode cX0_settle 2 = .ok (.iload_n 1, 1) := by decide +kernel
theorem dX0_settle_3 : decode cX0_settle 3 = .ok (.bipush 48, 2) := by decide +kernel
theorem dX0_settle_5 : decode cX0_settle 5 = .ok (.if_icmp .ge 113, 3) := by decide +kernel
theorem dX0_settle_8 : decode cX0_settle 8 = .ok (.aload_n 0, 1) := by decide +kernel
theorem dX0_settle_9 : decode cX0_settle 9 = .ok (.getfield 42, 3) := by decide +kernel
theorem dX0_settle_12 : decode cX0_settle 12 = .ok (.iload_n 1, 1) := by decide +kernel
theorem dX0_settle_13 : decode cX0_settle 13 = .ok (.invokestatic 51, 3) := by decide +kernel
theorem dX0_settle_16 : decode cX0_settle 16 = .ok (.istore_n 2, 1) := by decide +kernel
theorem dX0_settle_17 : decode cX0_settle 17 = .ok (.iload_n 2, 1) := by decide +kernel
theorem dX0_settle_18 : decode cX0_settle 18 = .ok (.ifCond .le 10, 3) := by decide +kernel
theorem dX0_settle_21 : decode cX0_settle 21 = .ok (.aload_n 0, 1) := by decide +kernel
theorem dX0_settle_22 : decode cX0_settle 22 = .ok (.getfield 36, 3) := by decide +kernel
theorem dX0_settle_25 : decode cX0_settle 25 = .ok (.goto 4, 3) := by decide +kernel
theorem dX0_settle_28 : decode cX0_settle 28 = .ok (.iconst 0, 1) := by decide +kernel
theorem dX0_settle_29 : decode cX0_settle 29 = .ok (.istore_n 3, 1) := by decide +kernel
theorem dX0_settle_30 : decode cX0_settle 30 = .ok (.iload_n 2, 1) := by decide +kernel
theorem dX0_settle_31 : decode cX0_settle 31 = .ok (.ifCond .le 12, 3) := by decide +kernel
theorem dX0_settle_34 : decode cX0_settle 34 = .ok (.aload_n 0, 1) := by decide +kernel
theorem dX0_settle_35 : decode cX0_settle 35 = .ok (.getfield 9, 3) := by decide +kernel
theorem dX0_settle_38 : decode cX0_settle 38 = .ok (.iconst 2, 1) := by decide +kernel
theorem dX0_settle_39 : decode cX0_settle 39 = .ok (.idiv, 1) := by decide +kernel
theorem dX0_settle_40 : decode cX0_settle 40 = .ok (.goto 9, 3) := by decide +kernel
theorem dX0_settle_43 : decode cX0_settle 43 = .ok (.aload_n 0, 1) := by decide +kernel
theorem dX0_settle_44 : decode cX0_settle 44 = .ok (.getfield 9, 3) := by decide +kernel
theorem dX0_settle_47 : decode cX0_settle 47 = .ok (.iconst 4, 1) := by decide +kernel
theorem dX0_settle_48 : decode cX0_settle 48 = .ok (.idiv, 1) := by decide +kernel
theorem dX0_settle_49 : decode cX0_settle 49 = .ok (.istore 4, 2) := by decide +kernel
theorem dX0_settle_51 : decode cX0_settle 51 = .ok (.aload_n 0, 1) := by decide +kernel
theorem dX0_settle_52 : decode cX0_settle 52 = .ok (.getfield 24, 3) := by decide +kernel
theorem dX0_settle_55 : decode cX0_settle 55 = .ok (.iconst 0, 1) := by decide +kernel
theorem dX0_settle_56 : decode cX0_settle 56 = .ok (.aaload, 1) := by decide +kernel
theorem dX0_settle_57 : decode cX0_settle 57 = .ok (.iload_n 1, 1) := by decide +kernel
theorem dX0_settle_58 : decode cX0_settle 58 = .ok (.iconst 2, 1) := by decide +kernel
theorem dX0_settle_59 : decode cX0_settle 59 = .ok (.iload_n 2, 1) := by decide +kernel
theorem dX0_settle_60 : decode cX0_settle 60 = .ok (.imul, 1) := by decide +kernel
theorem dX0_settle_61 : decode cX0_settle 61 = .ok (.iload_n 3, 1) := by decide +kernel
theorem dX0_settle_62 : decode cX0_settle 62 = .ok (.iadd, 1) := by decide +kernel
theorem dX0_settle_63 : decode cX0_settle 63 = .ok (.iastore, 1) := by decide +kernel
theorem dX0_settle_64 : decode cX0_settle 64 = .ok (.aload_n 0, 1) := by decide +kernel
theorem dX0_settle_65 : decode cX0_settle 65 = .ok (.getfield 24, 3) := by decide +kernel
theorem dX0_settle_68 : decode cX0_settle 68 = .ok (.iconst 1, 1) := by decide +kernel
theorem dX0_settle_69 : decode cX0_settle 69 = .ok (.aaload, 1) := by decide +kernel
theorem dX0_settle_70 : decode cX0_settle 70 = .ok (.iload_n 1, 1) := by decide +kernel
theorem dX0_settle_71 : decode cX0_settle 71 = .ok (.bipush 10, 2) := by decide +kernel
theorem dX0_settle_73 : decode cX0_settle 73 = .ok (.bipush 6, 2) := by decide +kernel
theorem dX0_settle_75 : decode cX0_settle 75 = .ok (.iload_n 2, 1) := by decide +kernel
theorem dX0_settle_76 : decode cX0_settle 76 = .ok (.imul, 1) := by decide +kernel
theorem dX0_settle_77 : decode cX0_settle 77 = .ok (.iadd, 1) := by decide +kernel
theorem dX0_settle_78 : decode cX0_settle 78 = .ok (.aload_n 0, 1) := by decide +kernel
theorem dX0_settle_79 : decode cX0_settle 79 = .ok (.getfield 15, 3) := by decide +kernel
theorem dX0_settle_82 : decode cX0_settle 82 = .ok (.iload_n 1, 1) := by decide +kernel
theorem dX0_settle_83 : decode cX0_settle 83 = .ok (.iaload, 1) := by decide +kernel
theorem dX0_settle_84 : decode cX0_settle 84 = .ok (.iadd, 1) := by decide +kernel
theorem dX0_settle_85 : decode cX0_settle 85 = .ok (.iastore, 1) := by decide +kernel
theorem dX0_settle_86 : decode cX0_settle 86 = .ok (.aload_n 0, 1) := by decide +kernel
theorem dX0_settle_87 : decode cX0_settle 87 = .ok (.getfield 24, 3) := by decide +kernel
theorem dX0_settle_90 : decode cX0_settle 90 = .ok (.iconst 2, 1) := by decide +kernel
theorem dX0_settle_91 : decode cX0_settle 91 = .ok (.aaload, 1) := by decide +kernel
theorem dX0_settle_92 : decode cX0_settle 92 = .ok (.iload_n 1, 1) := by decide +kernel
theorem dX0_settle_93 : decode cX0_settle 93 = .ok (.iconst 5, 1) := by decide +kernel
theorem dX0_settle_94 : decode cX0_settle 94 = .ok (.bipush 30, 2) := by decide +kernel
theorem dX0_settle_96 : decode cX0_settle 96 = .ok (.iconst 5, 1) := by decide +kernel
theorem dX0_settle_97 : decode cX0_settle 97 = .ok (.iload_n 2, 1) := by decide +kernel
theorem dX0_settle_98 : decode cX0_settle 98 = .ok (.imul, 1) := by decide +kernel
theorem dX0_settle_99 : decode cX0_settle 99 = .ok (.iadd, 1) := by decide +kernel
theorem dX0_settle_100 : decode cX0_settle 100 = .ok (.iload 4, 2) := by decide +kernel
theorem dX0_settle_102 : decode cX0_settle 102 = .ok (.iadd, 1) := by decide +kernel
theorem dX0_settle_103 : decode cX0_settle 103 = .ok (.aload_n 0, 1) := by decide +kernel
theorem dX0_settle_104 : decode cX0_settle 104 = .ok (.getfield 30, 3) := by decide +kernel
theorem dX0_settle_107 : decode cX0_settle 107 = .ok (.isub, 1) := by decide +kernel
theorem dX0_settle_108 : decode cX0_settle 108 = .ok (.invokestatic 45, 3) := by decide +kernel
theorem dX0_settle_111 : decode cX0_settle 111 = .ok (.iastore, 1) := by decide +kernel
theorem dX0_settle_112 : decode cX0_settle 112 = .ok (.iinc 1 1, 3) := by decide +kernel
theorem dX0_settle_115 : decode cX0_settle 115 = .ok (.goto (-113), 3) := by decide +kernel
theorem dX0_settle_118 : decode cX0_settle 118 = .ok (.return_, 1) := by decide +kernel
set_option maxRecDepth 20000 in
theorem ggX0_bender_X6_lengthBy : GoodIn wsX0_bender wsX6_lengthBy := goodIn_r _ [4] (by decide +kernel) (by decide +kernel)
set_option maxRecDepth 20000 in
theorem gX0_bender_X6_lengthBy_n54 : GoodIn wsX0_bender (wsX6_lengthBy) := ggX0_bender_X6_lengthBy
set_option maxRecDepth 20000 in
theorem ggX0_bender_X6_ring : GoodIn wsX0_bender wsX6_ring := goodIn_r _ [6] (by decide +kernel) (by decide +kernel)
set_option maxRecDepth 20000 in
theorem gX0_bender_X6_ring_n57 : GoodIn wsX0_bender (wsX6_ring) := ggX0_bender_X6_ring
set_option maxRecDepth 20000 in
theorem ggX0_bender_X6_bends : GoodIn wsX0_bender wsX6_bends := goodIn_r _ [8] (by decide +kernel) (by decide +kernel)
set_option maxRecDepth 20000 in
theorem gX0_bender_X6_bends_n61 : GoodIn wsX0_bender (wsX6_bends) := ggX0_bender_X6_bends
theorem dX0_bender_0 : decode cX0_bender 0 = .ok (.iload_n 1, 1) := by decide +kernel
theorem dX0_bender_1 : decode cX0_bender 1 = .ok (.iload_n 2, 1) := by decide +kernel
theorem dX0_bender_2 : decode cX0_bender 2 = .ok (.iconst 1, 1) := by decide +kernel
theorem dX0_bender_3 : decode cX0_bender 3 = .ok (.iload_n 3, 1) := by decide +kernel
theorem dX0_bender_4 : decode cX0_bender 4 = .ok (.invokestatic 54, 3) := by decide +kernel
theorem dX0_bender_7 : decode cX0_bender 7 = .ok (.iconst 2, 1) := by decide +kernel
theorem dX0_bender_8 : decode cX0_bender 8 = .ok (.idiv, 1) := by decide +kernel
theorem dX0_bender_9 : decode cX0_bender 9 = .ok (.imul, 1) := by decide +kernel
theorem dX0_bender_10 : decode cX0_bender 10 = .ok (.iadd, 1) := by decide +kernel
theorem dX0_bender_11 : decode cX0_bender 11 = .ok (.invokestatic 57, 3) := by decide +kernel
theorem dX0_bender_14 : decode cX0_bender 14 = .ok (.istore 5, 2) := by decide +kernel
theorem dX0_bender_16 : decode cX0_bender 16 = .ok (.aload_n 0, 1) := by decide +kernel
theorem dX0_bender_17 : decode cX0_bender 17 = .ok (.getfield 24, 3) := by decide +kernel
theorem dX0_bender_20 : decode cX0_bender 20 = .ok (.iconst 1, 1) := by decide +kernel
theorem dX0_bender_21 : decode cX0_bender 21 = .ok (.aaload, 1) := by decide +kernel
theorem dX0_bender_22 : decode cX0_bender 22 = .ok (.iload 5, 2) := by decide +kernel
theorem dX0_bender_24 : decode cX0_bender 24 = .ok (.iaload, 1) := by decide +kernel
theorem dX0_bender_25 : decode cX0_bender 25 = .ok (.iload_n 3, 1) := by decide +kernel
theorem dX0_bender_26 : decode cX0_bender 26 = .ok (.iload 4, 2) := by decide +kernel
theorem dX0_bender_28 : decode cX0_bender 28 = .ok (.invokestatic 61, 3) := by decide +kernel
theorem dX0_bender_31 : decode cX0_bender 31 = .ok (.ifCond .eq 5, 3) := by decide +kernel
theorem dX0_bender_34 : decode cX0_bender 34 = .ok (.iconst 1, 1) := by decide +kernel
theorem dX0_bender_35 : decode cX0_bender 35 = .ok (.ireturn, 1) := by decide +kernel
theorem dX0_bender_36 : decode cX0_bender 36 = .ok (.iload_n 1, 1) := by decide +kernel
theorem dX0_bender_37 : decode cX0_bender 37 = .ok (.iload_n 2, 1) := by decide +kernel
theorem dX0_bender_38 : decode cX0_bender 38 = .ok (.iconst 2, 1) := by decide +kernel
theorem dX0_bender_39 : decode cX0_bender 39 = .ok (.iload_n 3, 1) := by decide +kernel
theorem dX0_bender_40 : decode cX0_bender 40 = .ok (.invokestatic 54, 3) := by decide +kernel
theorem dX0_bender_43 : decode cX0_bender 43 = .ok (.iconst 2, 1) := by decide +kernel
theorem dX0_bender_44 : decode cX0_bender 44 = .ok (.idiv, 1) := by decide +kernel
theorem dX0_bender_45 : decode cX0_bender 45 = .ok (.imul, 1) := by decide +kernel
theorem dX0_bender_46 : decode cX0_bender 46 = .ok (.iadd, 1) := by decide +kernel
theorem dX0_bender_47 : decode cX0_bender 47 = .ok (.invokestatic 57, 3) := by decide +kernel
theorem dX0_bender_50 : decode cX0_bender 50 = .ok (.istore 6, 2) := by decide +kernel
theorem dX0_bender_52 : decode cX0_bender 52 = .ok (.aload_n 0, 1) := by decide +kernel
theorem dX0_bender_53 : decode cX0_bender 53 = .ok (.getfield 24, 3) := by decide +kernel
theorem dX0_bender_56 : decode cX0_bender 56 = .ok (.iconst 2, 1) := by decide +kernel
theorem dX0_bender_57 : decode cX0_bender 57 = .ok (.aaload, 1) := by decide +kernel
theorem dX0_bender_58 : decode cX0_bender 58 = .ok (.iload 6, 2) := by decide +kernel
theorem dX0_bender_60 : decode cX0_bender 60 = .ok (.iaload, 1) := by decide +kernel
theorem dX0_bender_61 : decode cX0_bender 61 = .ok (.iload_n 3, 1) := by decide +kernel
theorem dX0_bender_62 : decode cX0_bender 62 = .ok (.iload 4, 2) := by decide +kernel
theorem dX0_bender_64 : decode cX0_bender 64 = .ok (.invokestatic 61, 3) := by decide +kernel
theorem dX0_bender_67 : decode cX0_bender 67 = .ok (.ifCond .eq 7, 3) := by decide +kernel
theorem dX0_bender_70 : decode cX0_bender 70 = .ok (.iconst 2, 1) := by decide +kernel
theorem dX0_bender_71 : decode cX0_bender 71 = .ok (.goto 4, 3) := by decide +kernel
theorem dX0_bender_74 : decode cX0_bender 74 = .ok (.iconst (-1), 1) := by decide +kernel
theorem dX0_bender_75 : decode cX0_bender 75 = .ok (.ireturn, 1) := by decide +kernel
theorem dX1_init_0 : decode cX1_init 0 = .ok (.aload_n 0, 1) := by decide +kernel
theorem dX1_init_1 : decode cX1_init 1 = .ok (.invokespecial 3, 3) := by decide +kernel
theorem dX1_init_4 : decode cX1_init 4 = .ok (.aload_n 0, 1) := by decide +kernel
theorem dX1_init_5 : decode cX1_init 5 = .ok (.bipush 60, 2) := by decide +kernel
theorem dX1_init_7 : decode cX1_init 7 = .ok (.newarray .int, 2) := by decide +kernel
theorem dX1_init_9 : decode cX1_init 9 = .ok (.putfield 9, 3) := by decide +kernel
theorem dX1_init_12 : decode cX1_init 12 = .ok (.aload_n 0, 1) := by decide +kernel
theorem dX1_init_13 : decode cX1_init 13 = .ok (.bipush 60, 2) := by decide +kernel
theorem dX1_init_15 : decode cX1_init 15 = .ok (.newarray .int, 2) := by decide +kernel
theorem dX1_init_17 : decode cX1_init 17 = .ok (.putfield 15, 3) := by decide +kernel
theorem dX1_init_20 : decode cX1_init 20 = .ok (.aload_n 0, 1) := by decide +kernel
theorem dX1_init_21 : decode cX1_init 21 = .ok (.bipush 60, 2) := by decide +kernel
theorem dX1_init_23 : decode cX1_init 23 = .ok (.newarray .int, 2) := by decide +kernel
theorem dX1_init_25 : decode cX1_init 25 = .ok (.putfield 18, 3) := by decide +kernel
theorem dX1_init_28 : decode cX1_init 28 = .ok (.aload_n 0, 1) := by decide +kernel
theorem dX1_init_29 : decode cX1_init 29 = .ok (.bipush 60, 2) := by decide +kernel
theorem dX1_init_31 : decode cX1_init 31 = .ok (.newarray .int, 2) := by decide +kernel
theorem dX1_init_33 : decode cX1_init 33 = .ok (.putfield 21, 3) := by decide +kernel
theorem dX1_init_36 : decode cX1_init 36 = .ok (.aload_n 0, 1) := by decide +kernel
theorem dX1_init_37 : decode cX1_init 37 = .ok (.bipush 60, 2) := by decide +kernel
theorem dX1_init_39 : decode cX1_init 39 = .ok (.newarray .int, 2) := by decide +kernel
theorem dX1_init_41 : decode cX1_init 41 = .ok (.putfield 24, 3) := by decide +kernel
theorem dX1_init_44 : decode cX1_init 44 = .ok (.return_, 1) := by decide +kernel
theorem dX1_isFull_0 : decode cX1_isFull 0 = .ok (.aload_n 0, 1) := by decide +kernel
theorem dX1_isFull_1 : decode cX1_isFull 1 = .ok (.getfield 27, 3) := by decide +kernel
theorem dX1_isFull_4 : decode cX1_isFull 4 = .ok (.bipush 60, 2) := by decide +kernel
theorem dX1_isFull_6 : decode cX1_isFull 6 = .ok (.if_icmp .lt 7, 3) := by decide +kernel
theorem dX1_isFull_9 : decode cX1_isFull 9 = .ok (.iconst 1, 1) := by decide +kernel
theorem dX1_isFull_10 : decode cX1_isFull 10 = .ok (.goto 4, 3) := by decide +kernel
theorem dX1_isFull_13 : decode cX1_isFull 13 = .ok (.iconst 0, 1) := by decide +kernel
theorem dX1_isFull_14 : decode cX1_isFull 14 = .ok (.ireturn, 1) := by decide +kernel
theorem dX1_has_0 : decode cX1_has 0 = .ok (.iload_n 1, 1) := by decide +kernel
theorem dX1_has_1 : decode cX1_has 1 = .ok (.ifCond .lt 15, 3) := by decide +kernel
theorem dX1_has_4 : decode cX1_has 4 = .ok (.iload_n 1, 1) := by decide +kernel
theorem dX1_has_5 : decode cX1_has 5 = .ok (.aload_n 0, 1) := by decide +kernel
theorem dX1_has_6 : decode cX1_has 6 = .ok (.getfield 27, 3) := by decide +kernel
theorem dX1_has_9 : decode cX1_has 9 = .ok (.if_icmp .ge 7, 3) := by decide +kernel
theorem dX1_has_12 : decode cX1_has 12 = .ok (.iconst 1, 1) := by decide +kernel
theorem dX1_has_13 : decode cX1_has 13 = .ok (.goto 4, 3) := by decide +kernel
theorem dX1_has_16 : decode cX1_has 16 = .ok (.iconst 0, 1) := by decide +kernel
theorem dX1_has_17 : decode cX1_has 17 = .ok (.ireturn, 1) := by decide +kernel
theorem dX1_add_0 : decode cX1_add 0 = .ok (.aload_n 0, 1) := by decide +kernel
theorem dX1_add_1 : decode cX1_add 1 = .ok (.getfield 9, 3) := by decide +kernel
theorem dX1_add_4 : decode cX1_add 4 = .ok (.aload_n 0, 1) := by decide +kernel
theorem dX1_add_5 : decode cX1_add 5 = .ok (.getfield 27, 3) := by decide +kernel
theorem dX1_add_8 : decode cX1_add 8 = .ok (.iload_n 1, 1) := by decide +kernel
theorem dX1_add_9 : decode cX1_add 9 = .ok (.iastore, 1) := by decide +kernel
theorem dX1_add_10 : decode cX1_add 10 = .ok (.aload_n 0, 1) := by decide +kernel
theorem dX1_add_11 : decode cX1_add 11 = .ok (.getfield 15, 3) := by decide +kernel
theorem dX1_add_14 : decode cX1_add 14 = .ok (.aload_n 0, 1) := by decide +kernel
theorem dX1_add_15 : decode cX1_add 15 = .ok (.getfield 27, 3) := by decide +kernel
theorem dX1_add_18 : decode cX1_add 18 = .ok (.iload_n 2, 1) := by decide +kernel
theorem dX1_add_19 : decode cX1_add 19 = .ok (.iastore, 1) := by decide +kernel
theorem dX1_add_20 : decode cX1_add 20 = .ok (.aload_n 0, 1) := by decide +kernel
theorem dX1_add_21 : decode cX1_add 21 = .ok (.getfield 18, 3) := by decide +kernel
theorem dX1_add_24 : decode cX1_add 24 = .ok (.aload_n 0, 1) := by decide +kernel
theorem dX1_add_25 : decode cX1_add 25 = .ok (.getfield 27, 3) := by decide +kernel
theorem dX1_add_28 : decode cX1_add 28 = .ok (.iload_n 3, 1) := by decide +kernel
theorem dX1_add_29 : decode cX1_add 29 = .ok (.iastore, 1) := by decide +kernel
theorem dX1_add_30 : decode cX1_add 30 = .ok (.aload_n 0, 1) := by decide +kernel
theorem dX1_add_31 : decode cX1_add 31 = .ok (.getfield 21, 3) := by decide +kernel
theorem dX1_add_34 : decode cX1_add 34 = .ok (.aload_n 0, 1) := by decide +kernel
theorem dX1_add_35 : decode cX1_add 35 = .ok (.getfield 27, 3) := by decide +kernel
theorem dX1_add_38 : decode cX1_add 38 = .ok (.iload 4, 2) := by decide +kernel
theorem dX1_add_40 : decode cX1_add 40 = .ok (.iastore, 1) := by decide +kernel
theorem dX1_add_41 : decode cX1_add 41 = .ok (.aload_n 0, 1) := by decide +kernel
theorem dX1_add_42 : decode cX1_add 42 = .ok (.getfield 24, 3) := by decide +kernel
theorem dX1_add_45 : decode cX1_add 45 = .ok (.aload_n 0, 1) := by decide +kernel
theorem dX1_add_46 : decode cX1_add 46 = .ok (.getfield 27, 3) := by decide +kernel
theorem dX1_add_49 : decode cX1_add 49 = .ok (.iload 5, 2) := by decide +kernel
theorem dX1_add_51 : decode cX1_add 51 = .ok (.iastore, 1) := by decide +kernel
theorem dX1_add_52 : decode cX1_add 52 = .ok (.aload_n 0, 1) := by decide +kernel
theorem dX1_add_53 : decode cX1_add 53 = .ok (.dup, 1) := by decide +kernel
theorem dX1_add_54 : decode cX1_add 54 = .ok (.getfield 27, 3) := by decide +kernel
theorem dX1_add_57 : decode cX1_add 57 = .ok (.iconst 1, 1) := by decide +kernel
theorem dX1_add_58 : decode cX1_add 58 = .ok (.iadd, 1) := by decide +kernel
theorem dX1_add_59 : decode cX1_add 59 = .ok (.putfield 27, 3) := by decide +kernel
theorem dX1_add_62 : decode cX1_add 62 = .ok (.return_, 1) := by decide +kernel
theorem dX1_isOf_0 : decode cX1_isOf 0 = .ok (.aload_n 0, 1) := by decide +kernel
theorem dX1_isOf_1 : decode cX1_isOf 1 = .ok (.getfield 9, 3) := by decide +kernel
theorem dX1_isOf_4 : decode cX1_isOf 4 = .ok (.iload_n 1, 1) := by decide +kernel
theorem dX1_isOf_5 : decode cX1_isOf 5 = .ok (.iaload, 1) := by decide +kernel
theorem dX1_isOf_6 : decode cX1_isOf 6 = .ok (.iload_n 2, 1) := by decide +kernel
theorem dX1_isOf_7 : decode cX1_isOf 7 = .ok (.if_icmp .ne 13, 3) := by decide +kernel
theorem dX1_isOf_10 : decode cX1_isOf 10 = .ok (.aload_n 0, 1) := by decide +kernel
theorem dX1_isOf_11 : decode cX1_isOf 11 = .ok (.getfield 15, 3) := by decide +kernel
theorem dX1_isOf_14 : decode cX1_isOf 14 = .ok (.iload_n 1, 1) := by decide +kernel
theorem dX1_isOf_15 : decode cX1_isOf 15 = .ok (.iaload, 1) := by decide +kernel
theorem dX1_isOf_16 : decode cX1_isOf 16 = .ok (.iload_n 3, 1) := by decide +kernel
theorem dX1_isOf_17 : decode cX1_isOf 17 = .ok (.if_icmp .eq 23, 3) := by decide +kernel
theorem dX1_isOf_20 : decode cX1_isOf 20 = .ok (.aload_n 0, 1) := by decide +kernel
theorem dX1_isOf_21 : decode cX1_isOf 21 = .ok (.getfield 9, 3) := by decide +kernel
theorem dX1_isOf_24 : decode cX1_isOf 24 = .ok (.iload_n 1, 1) := by decide +kernel
theorem dX1_isOf_25 : decode cX1_isOf 25 = .ok (.iaload, 1) := by decide +kernel
theorem dX1_isOf_26 : decode cX1_isOf 26 = .ok (.iload_n 3, 1) := by decide +kernel
theorem dX1_isOf_27 : decode cX1_isOf 27 = .ok (.if_icmp .ne 17, 3) := by decide +kernel
theorem dX1_isOf_30 : decode cX1_isOf 30 = .ok (.aload_n 0, 1) := by decide +kernel
theorem dX1_isOf_31 : decode cX1_isOf 31 = .ok (.getfield 15, 3) := by decide +kernel
theorem dX1_isOf_34 : decode cX1_isOf 34 = .ok (.iload_n 1, 1) := by decide +kernel
theorem dX1_isOf_35 : decode cX1_isOf 35 = .ok (.iaload, 1) := by decide +kernel
theorem dX1_isOf_36 : decode cX1_isOf 36 = .ok (.iload_n 2, 1) := by decide +kernel
theorem dX1_isOf_37 : decode cX1_isOf 37 = .ok (.if_icmp .ne 7, 3) := by decide +kernel
theorem dX1_isOf_40 : decode cX1_isOf 40 = .ok (.iconst 1, 1) := by decide +kernel
theorem dX1_isOf_41 : decode cX1_isOf 41 = .ok (.goto 4, 3) := by decide +kernel
theorem dX1_isOf_44 : decode cX1_isOf 44 = .ok (.iconst 0, 1) := by decide +kernel
theorem dX1_isOf_45 : decode cX1_isOf 45 = .ok (.ireturn, 1) := by decide +kernel
theorem dX1_tell_0 : decode cX1_tell 0 = .ok (.iload_n 2, 1) := by decide +kernel
theorem dX1_tell_1 : decode cX1_tell 1 = .ok (.tableswitch 59 0 3 #[31, 38, 45, 52], 31) := by decide +kernel
theorem dX1_tell_32 : decode cX1_tell 32 = .ok (.aload_n 0, 1) := by decide +kernel
theorem dX1_tell_33 : decode cX1_tell 33 = .ok (.getfield 9, 3) := by decide +kernel
theorem dX1_tell_36 : decode cX1_tell 36 = .ok (.iload_n 1, 1) := by decide +kernel
theorem dX1_tell_37 : decode cX1_tell 37 = .ok (.iaload, 1) := by decide +kernel
theorem dX1_tell_38 : decode cX1_tell 38 = .ok (.ireturn, 1) := by decide +kernel
theorem dX1_tell_39 : decode cX1_tell 39 = .ok (.aload_n 0, 1) := by decide +kernel
theorem dX1_tell_40 : decode cX1_tell 40 = .ok (.getfield 15, 3) := by decide +kernel
theorem dX1_tell_43 : decode cX1_tell 43 = .ok (.iload_n 1, 1) := by decide +kernel
theorem dX1_tell_44 : decode cX1_tell 44 = .ok (.iaload, 1) := by decide +kernel
theorem dX1_tell_45 : decode cX1_tell 45 = .ok (.ireturn, 1) := by decide +kernel
theorem dX1_tell_46 : decode cX1_tell 46 = .ok (.aload_n 0, 1) := by decide +kernel
theorem dX1_tell_47 : decode cX1_tell 47 = .ok (.getfield 18, 3) := by decide +kernel
theorem dX1_tell_50 : decode cX1_tell 50 = .ok (.iload_n 1, 1) := by decide +kernel
theorem dX1_tell_51 : decode cX1_tell 51 = .ok (.iaload, 1) := by decide +kernel
theorem dX1_tell_52 : decode cX1_tell 52 = .ok (.ireturn, 1) := by decide +kernel
theorem dX1_tell_53 : decode cX1_tell 53 = .ok (.aload_n 0, 1) := by decide +kernel
theorem dX1_tell_54 : decode cX1_tell 54 = .ok (.getfield 21, 3) := by decide +kernel
theorem dX1_tell_57 : decode cX1_tell 57 = .ok (.iload_n 1, 1) := by decide +kernel
theorem dX1_tell_58 : decode cX1_tell 58 = .ok (.iaload, 1) := by decide +kernel
theorem dX1_tell_59 : decode cX1_tell 59 = .ok (.ireturn, 1) := by decide +kernel
theorem dX1_tell_60 : decode cX1_tell 60 = .ok (.aload_n 0, 1) := by decide +kernel
theorem dX1_tell_61 : decode cX1_tell 61 = .ok (.getfield 24, 3) := by decide +kernel
theorem dX1_tell_64 : decode cX1_tell 64 = .ok (.iload_n 1, 1) := by decide +kernel
theorem dX1_tell_65 : decode cX1_tell 65 = .ok (.iaload, 1) := by decide +kernel
theorem dX1_tell_66 : decode cX1_tell 66 = .ok (.ireturn, 1) := by decide +kernel
theorem dX2_init_0 : decode cX2_init 0 = .ok (.aload_n 0, 1) := by decide +kernel
theorem dX2_init_1 : decode cX2_init 1 = .ok (.invokespecial 3, 3) := by decide +kernel
theorem dX2_init_4 : decode cX2_init 4 = .ok (.aload_n 0, 1) := by decide +kernel
theorem dX2_init_5 : decode cX2_init 5 = .ok (.bipush 80, 2) := by decide +kernel
theorem dX2_init_7 : decode cX2_init 7 = .ok (.newarray .int, 2) := by decide +kernel
theorem dX2_init_9 : decode cX2_init 9 = .ok (.putfield 9, 3) := by decide +kernel
theorem dX2_init_12 : decode cX2_init 12 = .ok (.aload_n 0, 1) := by decide +kernel
theorem dX2_init_13 : decode cX2_init 13 = .ok (.bipush 80, 2) := by decide +kernel
theorem dX2_init_15 : decode cX2_init 15 = .ok (.newarray .int, 2) := by decide +kernel
theorem dX2_init_17 : decode cX2_init 17 = .ok (.putfield 15, 3) := by decide +kernel
theorem dX2_init_20 : decode cX2_init 20 = .ok (.aload_n 0, 1) := by decide +kernel
theorem dX2_init_21 : decode cX2_init 21 = .ok (.bipush 80, 2) := by decide +kernel
theorem dX2_init_23 : decode cX2_init 23 = .ok (.newarray .int, 2) := by decide +kernel
theorem dX2_init_25 : decode cX2_init 25 = .ok (.putfield 18, 3) := by decide +kernel
theorem dX2_init_28 : decode cX2_init 28 = .ok (.aload_n 0, 1) := by decide +kernel
theorem dX2_init_29 : decode cX2_init 29 = .ok (.bipush 80, 2) := by decide +kernel
theorem dX2_init_31 : decode cX2_init 31 = .ok (.newarray .int, 2) := by decide +kernel
theorem dX2_init_33 : decode cX2_init 33 = .ok (.putfield 21, 3) := by decide +kernel
theorem dX2_init_36 : decode cX2_init 36 = .ok (.aload_n 0, 1) := by decide +kernel
theorem dX2_init_37 : decode cX2_init 37 = .ok (.bipush 80, 2) := by decide +kernel
theorem dX2_init_39 : decode cX2_init 39 = .ok (.newarray .int, 2) := by decide +kernel
theorem dX2_init_41 : decode cX2_init 41 = .ok (.putfield 24, 3) := by decide +kernel
theorem dX2_init_44 : decode cX2_init 44 = .ok (.return_, 1) := by decide +kernel
theorem dX2_isFull_0 : decode cX2_isFull 0 = .ok (.aload_n 0, 1) := by decide +kernel
theorem dX2_isFull_1 : decode cX2_isFull 1 = .ok (.getfield 27, 3) := by decide +kernel
theorem dX2_isFull_4 : decode cX2_isFull 4 = .ok (.bipush 80, 2) := by decide +kernel
theorem dX2_isFull_6 : decode cX2_isFull 6 = .ok (.if_icmp .lt 7, 3) := by decide +kernel
theorem dX2_isFull_9 : decode cX2_isFull 9 = .ok (.iconst 1, 1) := by decide +kernel
theorem dX2_isFull_10 : decode cX2_isFull 10 = .ok (.goto 4, 3) := by decide +kernel
theorem dX2_isFull_13 : decode cX2_isFull 13 = .ok (.iconst 0, 1) := by decide +kernel
theorem dX2_isFull_14 : decode cX2_isFull 14 = .ok (.ireturn, 1) := by decide +kernel
theorem dX2_has_0 : decode cX2_has 0 = .ok (.iload_n 1, 1) := by decide +kernel
theorem dX2_has_1 : decode cX2_has 1 = .ok (.ifCond .lt 15, 3) := by decide +kernel
theorem dX2_has_4 : decode cX2_has 4 = .ok (.iload_n 1, 1) := by decide +kernel
theorem dX2_has_5 : decode cX2_has 5 = .ok (.aload_n 0, 1) := by decide +kernel
theorem dX2_has_6 : decode cX2_has 6 = .ok (.getfield 27, 3) := by decide +kernel
theorem dX2_has_9 : decode cX2_has 9 = .ok (.if_icmp .ge 7, 3) := by decide +kernel
theorem dX2_has_12 : decode cX2_has 12 = .ok (.iconst 1, 1) := by decide +kernel
theorem dX2_has_13 : decode cX2_has 13 = .ok (.goto 4, 3) := by decide +kernel
theorem dX2_has_16 : decode cX2_has 16 = .ok (.iconst 0, 1) := by decide +kernel
theorem dX2_has_17 : decode cX2_has 17 = .ok (.ireturn, 1) := by decide +kernel
set_option maxRecDepth 20000 in
theorem ggX2_add_X2_partnerFor : GoodIn wsX2_add wsX2_partnerFor := goodIn_r _ [12, 1, 6, 2, 3, 4, 5, 13, 14, 15, 16, 17, 18, 19] (by decide +kernel) (by decide +kernel)
set_option maxRecDepth 20000 in
theorem gX2_add_X2_partnerFor : GoodIn wsX2_add (wsV RX2 31 RX2 yX2_partnerFor wsX2_partnerFor) := goodIn_app (goodIn_of _ (by decide +kernel)) ggX2_add_X2_partnerFor
theorem dX2_add_0 : decode cX2_add 0 = .ok (.aload_n 0, 1) := by decide +kernel
theorem dX2_add_1 : decode cX2_add 1 = .ok (.getfield 27, 3) := by decide +kernel
theorem dX2_add_4 : decode cX2_add 4 = .ok (.istore 5, 2) := by decide +kernel
theorem dX2_add_6 : decode cX2_add 6 = .ok (.aload_n 0, 1) := by decide +kernel
theorem dX2_add_7 : decode cX2_add 7 = .ok (.iload_n 1, 1) := by decide +kernel
theorem dX2_add_8 : decode cX2_add 8 = .ok (.iload_n 2, 1) := by decide +kernel
theorem dX2_add_9 : decode cX2_add 9 = .ok (.iload_n 3, 1) := by decide +kernel
theorem dX2_add_10 : decode cX2_add 10 = .ok (.iload 4, 2) := by decide +kernel
theorem dX2_add_12 : decode cX2_add 12 = .ok (.invokevirtual 31, 3) := by decide +kernel
theorem dX2_add_15 : decode cX2_add 15 = .ok (.istore 6, 2) := by decide +kernel
theorem dX2_add_17 : decode cX2_add 17 = .ok (.aload_n 0, 1) := by decide +kernel
theorem dX2_add_18 : decode cX2_add 18 = .ok (.getfield 9, 3) := by decide +kernel
theorem dX2_add_21 : decode cX2_add 21 = .ok (.iload 5, 2) := by decide +kernel
theorem dX2_add_23 : decode cX2_add 23 = .ok (.iload_n 1, 1) := by decide +kernel
theorem dX2_add_24 : decode cX2_add 24 = .ok (.iastore, 1) := by decide +kernel
theorem dX2_add_25 : decode cX2_add 25 = .ok (.aload_n 0, 1) := by decide +kernel
theorem dX2_add_26 : decode cX2_add 26 = .ok (.getfield 15, 3) := by decide +kernel
theorem dX2_add_29 : decode cX2_add 29 = .ok (.iload 5, 2) := by decide +kernel
theorem dX2_add_31 : decode cX2_add 31 = .ok (.iload_n 2, 1) := by decide +kernel
theorem dX2_add_32 : decode cX2_add 32 = .ok (.iastore, 1) := by decide +kernel
theorem dX2_add_33 : decode cX2_add 33 = .ok (.aload_n 0, 1) := by decide +kernel
theorem dX2_add_34 : decode cX2_add 34 = .ok (.getfield 18, 3) := by decide +kernel
theorem dX2_add_37 : decode cX2_add 37 = .ok (.iload 5, 2) := by decide +kernel
theorem dX2_add_39 : decode cX2_add 39 = .ok (.iload_n 3, 1) := by decide +kernel
theorem dX2_add_40 : decode cX2_add 40 = .ok (.iastore, 1) := by decide +kernel
theorem dX2_add_41 : decode cX2_add 41 = .ok (.aload_n 0, 1) := by decide +kernel
theorem dX2_add_42 : decode cX2_add 42 = .ok (.getfield 21, 3) := by decide +kernel
theorem dX2_add_45 : decode cX2_add 45 = .ok (.iload 5, 2) := by decide +kernel
theorem dX2_add_47 : decode cX2_add 47 = .ok (.iload 4, 2) := by decide +kernel
theorem dX2_add_49 : decode cX2_add 49 = .ok (.iastore, 1) := by decide +kernel
theorem dX2_add_50 : decode cX2_add 50 = .ok (.aload_n 0, 1) := by decide +kernel
theorem dX2_add_51 : decode cX2_add 51 = .ok (.getfield 24, 3) := by decide +kernel
theorem dX2_add_54 : decode cX2_add 54 = .ok (.iload 5, 2) := by decide +kernel
theorem dX2_add_56 : decode cX2_add 56 = .ok (.iload 6, 2) := by decide +kernel
theorem dX2_add_58 : decode cX2_add 58 = .ok (.iastore, 1) := by decide +kernel
theorem dX2_add_59 : decode cX2_add 59 = .ok (.iload 6, 2) := by decide +kernel
theorem dX2_add_61 : decode cX2_add 61 = .ok (.iconst (-1), 1) := by decide +kernel
theorem dX2_add_62 : decode cX2_add 62 = .ok (.if_icmp .eq 22, 3) := by decide +kernel
theorem dX2_add_65 : decode cX2_add 65 = .ok (.aload_n 0, 1) := by decide +kernel
theorem dX2_add_66 : decode cX2_add 66 = .ok (.getfield 24, 3) := by decide +kernel
theorem dX2_add_69 : decode cX2_add 69 = .ok (.iload 6, 2) := by decide +kernel
theorem dX2_add_71 : decode cX2_add 71 = .ok (.iload 5, 2) := by decide +kernel
theorem dX2_add_73 : decode cX2_add 73 = .ok (.iastore, 1) := by decide +kernel
theorem dX2_add_74 : decode cX2_add 74 = .ok (.aload_n 0, 1) := by decide +kernel
theorem dX2_add_75 : decode cX2_add 75 = .ok (.dup, 1) := by decide +kernel
theorem dX2_add_76 : decode cX2_add 76 = .ok (.getfield 35, 3) := by decide +kernel
theorem dX2_add_79 : decode cX2_add 79 = .ok (.iconst 2, 1) := by decide +kernel
theorem dX2_add_80 : decode cX2_add 80 = .ok (.iadd, 1) := by decide +kernel
theorem dX2_add_81 : decode cX2_add 81 = .ok (.putfield 35, 3) := by decide +kernel
theorem dX2_add_84 : decode cX2_add 84 = .ok (.aload_n 0, 1) := by decide +kernel
theorem dX2_add_85 : decode cX2_add 85 = .ok (.dup, 1) := by decide +kernel
theorem dX2_add_86 : decode cX2_add 86 = .ok (.getfield 27, 3) := by decide +kernel
theorem dX2_add_89 : decode cX2_add 89 = .ok (.iconst 1, 1) := by decide +kernel
theorem dX2_add_90 : decode cX2_add 90 = .ok (.iadd, 1) := by decide +kernel
theorem dX2_add_91 : decode cX2_add 91 = .ok (.putfield 27, 3) := by decide +kernel
theorem dX2_add_94 : decode cX2_add 94 = .ok (.iload 5, 2) := by decide +kernel
theorem dX2_add_96 : decode cX2_add 96 = .ok (.ireturn, 1) := by decide +kernel
theorem dX2_partnerFor_0 : decode cX2_partnerFor 0 = .ok (.iconst 0, 1) := by decide +kernel
theorem dX2_partnerFor_1 : decode cX2_partnerFor 1 = .ok (.istore 5, 2) := by decide +kernel
theorem dX2_partnerFor_3 : decode cX2_partnerFor 3 = .ok (.iload 5, 2) := by decide +kernel
theorem dX2_partnerFor_5 : decode cX2_partnerFor 5 = .ok (.aload_n 0, 1) := by decide +kernel
theorem dX2_partnerFor_6 : decode cX2_partnerFor 6 = .ok (.getfield 27, 3) := by decide +kernel
theorem dX2_partnerFor_9 : decode cX2_partnerFor 9 = .ok (.if_icmp .ge 70, 3) := by decide +kernel
theorem dX2_partnerFor_12 : decode cX2_partnerFor 12 = .ok (.aload_n 0, 1) := by decide +kernel
theorem dX2_partnerFor_13 : decode cX2_partnerFor 13 = .ok (.getfield 24, 3) := by decide +kernel
theorem dX2_partnerFor_16 : decode cX2_partnerFor 16 = .ok (.iload 5, 2) := by decide +kernel
theorem dX2_partnerFor_18 : decode cX2_partnerFor 18 = .ok (.iaload, 1) := by decide +kernel
theorem dX2_partnerFor_19 : decode cX2_partnerFor 19 = .ok (.iconst (-1), 1) := by decide +kernel
theorem dX2_partnerFor_20 : decode cX2_partnerFor 20 = .ok (.if_icmp .ne 53, 3) := by decide +kernel
theorem dX2_partnerFor_23 : decode cX2_partnerFor 23 = .ok (.aload_n 0, 1) := by decide +kernel
theorem dX2_partnerFor_24 : decode cX2_partnerFor 24 = .ok (.getfield 9, 3) := by decide +kernel
theorem dX2_partnerFor_27 : decode cX2_partnerFor 27 = .ok (.iload 5, 2) := by decide +kernel
theorem dX2_partnerFor_29 : decode cX2_partnerFor 29 = .ok (.iaload, 1) := by decide +kernel
theorem dX2_partnerFor_30 : decode cX2_partnerFor 30 = .ok (.iload_n 2, 1) := by decide +kernel
theorem dX2_partnerFor_31 : decode cX2_partnerFor 31 = .ok (.if_icmp .ne 42, 3) := by decide +kernel
theorem dX2_partnerFor_34 : decode cX2_partnerFor 34 = .ok (.aload_n 0, 1) := by decide +kernel
theorem dX2_partnerFor_35 : decode cX2_partnerFor 35 = .ok (.getfield 15, 3) := by decide +kernel
theorem dX2_partnerFor_38 : decode cX2_partnerFor 38 = .ok (.iload 5, 2) := by decide +kernel
theorem dX2_partnerFor_40 : decode cX2_partnerFor 40 = .ok (.iaload, 1) := by decide +kernel
theorem dX2_partnerFor_41 : decode cX2_partnerFor 41 = .ok (.iload_n 1, 1) := by decide +kernel
theorem dX2_partnerFor_42 : decode cX2_partnerFor 42 = .ok (.if_icmp .ne 31, 3) := by decide +kernel
theorem dX2_partnerFor_45 : decode cX2_partnerFor 45 = .ok (.aload_n 0, 1) := by decide +kernel
theorem dX2_partnerFor_46 : decode cX2_partnerFor 46 = .ok (.getfield 18, 3) := by decide +kernel
theorem dX2_partnerFor_49 : decode cX2_partnerFor 49 = .ok (.iload 5, 2) := by decide +kernel
theorem dX2_partnerFor_51 : decode cX2_partnerFor 51 = .ok (.iaload, 1) := by decide +kernel
theorem dX2_partnerFor_52 : decode cX2_partnerFor 52 = .ok (.iload_n 3, 1) := by decide +kernel
theorem dX2_partnerFor_53 : decode cX2_partnerFor 53 = .ok (.if_icmp .ne 20, 3) := by decide +kernel
theorem dX2_partnerFor_56 : decode cX2_partnerFor 56 = .ok (.iload 4, 2) := by decide +kernel
theorem dX2_partnerFor_58 : decode cX2_partnerFor 58 = .ok (.aload_n 0, 1) := by decide +kernel
theorem dX2_partnerFor_59 : decode cX2_partnerFor 59 = .ok (.getfield 21, 3) := by decide +kernel
theorem dX2_partnerFor_62 : decode cX2_partnerFor 62 = .ok (.iload 5, 2) := by decide +kernel
theorem dX2_partnerFor_64 : decode cX2_partnerFor 64 = .ok (.iaload, 1) := by decide +kernel
theorem dX2_partnerFor_65 : decode cX2_partnerFor 65 = .ok (.isub, 1) := by decide +kernel
theorem dX2_partnerFor_66 : decode cX2_partnerFor 66 = .ok (.iconst 1, 1) := by decide +kernel
theorem dX2_partnerFor_67 : decode cX2_partnerFor 67 = .ok (.if_icmp .gt 6, 3) := by decide +kernel
theorem dX2_partnerFor_70 : decode cX2_partnerFor 70 = .ok (.iload 5, 2) := by decide +kernel
theorem dX2_partnerFor_72 : decode cX2_partnerFor 72 = .ok (.ireturn, 1) := by decide +kernel
theorem dX2_partnerFor_73 : decode cX2_partnerFor 73 = .ok (.iinc 5 1, 3) := by decide +kernel
theorem dX2_partnerFor_76 : decode cX2_partnerFor 76 = .ok (.goto (-73), 3) := by decide +kernel
theorem dX2_partnerFor_79 : decode cX2_partnerFor 79 = .ok (.iconst (-1), 1) := by decide +kernel
theorem dX2_partnerFor_80 : decode cX2_partnerFor 80 = .ok (.ireturn, 1) := by decide +kernel
theorem dX2_tell_0 : decode cX2_tell 0 = .ok (.iload_n 2, 1) := by decide +kernel
theorem dX2_tell_1 : decode cX2_tell 1 = .ok (.tableswitch 59 0 3 #[31, 38, 45, 52], 31) := by decide +kernel
theorem dX2_tell_32 : decode cX2_tell 32 = .ok (.aload_n 0, 1) := by decide +kernel
theorem dX2_tell_33 : decode cX2_tell 33 = .ok (.getfield 9, 3) := by decide +kernel
theorem dX2_tell_36 : decode cX2_tell 36 = .ok (.iload_n 1, 1) := by decide +kernel
theorem dX2_tell_37 : decode cX2_tell 37 = .ok (.iaload, 1) := by decide +kernel
theorem dX2_tell_38 : decode cX2_tell 38 = .ok (.ireturn, 1) := by decide +kernel
theorem dX2_tell_39 : decode cX2_tell 39 = .ok (.aload_n 0, 1) := by decide +kernel
theorem dX2_tell_40 : decode cX2_tell 40 = .ok (.getfield 15, 3) := by decide +kernel
theorem dX2_tell_43 : decode cX2_tell 43 = .ok (.iload_n 1, 1) := by decide +kernel
theorem dX2_tell_44 : decode cX2_tell 44 = .ok (.iaload, 1) := by decide +kernel
theorem dX2_tell_45 : decode cX2_tell 45 = .ok (.ireturn, 1) := by decide +kernel
theorem dX2_tell_46 : decode cX2_tell 46 = .ok (.aload_n 0, 1) := by decide +kernel
theorem dX2_tell_47 : decode cX2_tell 47 = .ok (.getfield 18, 3) := by decide +kernel
theorem dX2_tell_50 : decode cX2_tell 50 = .ok (.iload_n 1, 1) := by decide +kernel
theorem dX2_tell_51 : decode cX2_tell 51 = .ok (.iaload, 1) := by decide +kernel
theorem dX2_tell_52 : decode cX2_tell 52 = .ok (.ireturn, 1) := by decide +kernel
theorem dX2_tell_53 : decode cX2_tell 53 = .ok (.aload_n 0, 1) := by decide +kernel
theorem dX2_tell_54 : decode cX2_tell 54 = .ok (.getfield 21, 3) := by decide +kernel
theorem dX2_tell_57 : decode cX2_tell 57 = .ok (.iload_n 1, 1) := by decide +kernel
theorem dX2_tell_58 : decode cX2_tell 58 = .ok (.iaload, 1) := by decide +kernel
theorem dX2_tell_59 : decode cX2_tell 59 = .ok (.ireturn, 1) := by decide +kernel
theorem dX2_tell_60 : decode cX2_tell 60 = .ok (.aload_n 0, 1) := by decide +kernel
theorem dX2_tell_61 : decode cX2_tell 61 = .ok (.getfield 24, 3) := by decide +kernel
theorem dX2_tell_64 : decode cX2_tell 64 = .ok (.iload_n 1, 1) := by decide +kernel
theorem dX2_tell_65 : decode cX2_tell 65 = .ok (.iaload, 1) := by decide +kernel
theorem dX2_tell_66 : decode cX2_tell 66 = .ok (.ireturn, 1) := by decide +kernel
theorem dX3_init_0 : decode cX3_init 0 = .ok (.aload_n 0, 1) := by decide +kernel
theorem dX3_init_1 : decode cX3_init 1 = .ok (.invokespecial 3, 3) := by decide +kernel
theorem dX3_init_4 : decode cX3_init 4 = .ok (.aload_n 0, 1) := by decide +kernel
theorem dX3_init_5 : decode cX3_init 5 = .ok (.bipush 48, 2) := by decide +kernel
theorem dX3_init_7 : decode cX3_init 7 = .ok (.newarray .boolean, 2) := by decide +kernel
theorem dX3_init_9 : decode cX3_init 9 = .ok (.putfield 9, 3) := by decide +kernel
theorem dX3_init_12 : decode cX3_init 12 = .ok (.aload_n 0, 1) := by decide +kernel
theorem dX3_init_13 : decode cX3_init 13 = .ok (.bipush 48, 2) := by decide +kernel
theorem dX3_init_15 : decode cX3_init 15 = .ok (.newarray .int, 2) := by decide +kernel
theorem dX3_init_17 : decode cX3_init 17 = .ok (.putfield 15, 3) := by decide +kernel
theorem dX3_init_20 : decode cX3_init 20 = .ok (.return_, 1) := by decide +kernel
theorem dX3_takes_0 : decode cX3_takes 0 = .ok (.aload_n 0, 1) := by decide +kernel
theorem dX3_takes_1 : decode cX3_takes 1 = .ok (.getfield 9, 3) := by decide +kernel
theorem dX3_takes_4 : decode cX3_takes 4 = .ok (.iload_n 1, 1) := by decide +kernel
theorem dX3_takes_5 : decode cX3_takes 5 = .ok (.baload, 1) := by decide +kernel
theorem dX3_takes_6 : decode cX3_takes 6 = .ok (.ifCond .eq 7, 3) := by decide +kernel
theorem dX3_takes_9 : decode cX3_takes 9 = .ok (.iconst 3, 1) := by decide +kernel
theorem dX3_takes_10 : decode cX3_takes 10 = .ok (.goto 5, 3) := by decide +kernel
theorem dX3_takes_13 : decode cX3_takes 13 = .ok (.bipush 6, 2) := by decide +kernel
theorem dX3_takes_15 : decode cX3_takes 15 = .ok (.ireturn, 1) := by decide +kernel
theorem dX4_init_0 : decode cX4_init 0 = .ok (.aload_n 0, 1) := by decide +kernel
theorem dX4_init_1 : decode cX4_init 1 = .ok (.invokespecial 3, 3) := by decide +kernel
theorem dX4_init_4 : decode cX4_init 4 = .ok (.return_, 1) := by decide +kernel
theorem dX4_leave_0 : decode cX4_leave 0 = .ok (.aload_n 0, 1) := by decide +kernel
theorem dX4_leave_1 : decode cX4_leave 1 = .ok (.iload_n 1, 1) := by decide +kernel
theorem dX4_leave_2 : decode cX4_leave 2 = .ok (.putfield 9, 3) := by decide +kernel
theorem dX4_leave_5 : decode cX4_leave 5 = .ok (.aload_n 0, 1) := by decide +kernel
theorem dX4_leave_6 : decode cX4_leave 6 = .ok (.iload_n 2, 1) := by decide +kernel
theorem dX4_leave_7 : decode cX4_leave 7 = .ok (.putfield 15, 3) := by decide +kernel
theorem dX4_leave_10 : decode cX4_leave 10 = .ok (.aload_n 0, 1) := by decide +kernel
theorem dX4_leave_11 : decode cX4_leave 11 = .ok (.iload_n 3, 1) := by decide +kernel
theorem dX4_leave_12 : decode cX4_leave 12 = .ok (.putfield 18, 3) := by decide +kernel
theorem dX4_leave_15 : decode cX4_leave 15 = .ok (.aload_n 0, 1) := by decide +kernel
theorem dX4_leave_16 : decode cX4_leave 16 = .ok (.iload 4, 2) := by decide +kernel
theorem dX4_leave_18 : decode cX4_leave 18 = .ok (.putfield 21, 3) := by decide +kernel
theorem dX4_leave_21 : decode cX4_leave 21 = .ok (.aload_n 0, 1) := by decide +kernel
theorem dX4_leave_22 : decode cX4_leave 22 = .ok (.iload 5, 2) := by decide +kernel
theorem dX4_leave_24 : decode cX4_leave 24 = .ok (.putfield 24, 3) := by decide +kernel
theorem dX4_leave_27 : decode cX4_leave 27 = .ok (.aload_n 0, 1) := by decide +kernel
theorem dX4_leave_28 : decode cX4_leave 28 = .ok (.iconst 0, 1) := by decide +kernel
theorem dX4_leave_29 : decode cX4_leave 29 = .ok (.putfield 27, 3) := by decide +kernel
theorem dX4_leave_32 : decode cX4_leave 32 = .ok (.aload_n 0, 1) := by decide +kernel
theorem dX4_leave_33 : decode cX4_leave 33 = .ok (.iconst 0, 1) := by decide +kernel
theorem dX4_leave_34 : decode cX4_leave 34 = .ok (.putfield 30, 3) := by decide +kernel
theorem dX4_leave_37 : decode cX4_leave 37 = .ok (.aload_n 0, 1) := by decide +kernel
theorem dX4_leave_38 : decode cX4_leave 38 = .ok (.iconst 0, 1) := by decide +kernel
theorem dX4_leave_39 : decode cX4_leave 39 = .ok (.putfield 33, 3) := by decide +kernel
theorem dX4_leave_42 : decode cX4_leave 42 = .ok (.return_, 1) := by decide +kernel
set_option maxRecDepth 20000 in
theorem ggX4_goOn_X0_bender : GoodIn wsX4_goOn wsX0_bender := goodIn_r _ [13, 14, 15, 16, 17, 18, 19, 20, 21, 36, 37, 38, 39, 40, 41, 42, 43] (by decide +kernel) (by decide +kernel)
set_option maxRecDepth 20000 in
theorem gX4_goOn_X0_bender : GoodIn wsX4_goOn (wsV RX4 36 RX0 yX0_bender wsX0_bender) := goodIn_app (goodIn_of _ (by decide +kernel)) ggX4_goOn_X0_bender
set_option maxRecDepth 20000 in
theorem ggX4_goOn_X6_lengthBy : GoodIn wsX4_goOn wsX6_lengthBy := goodIn_r _ [17] (by decide +kernel) (by decide +kernel)
set_option maxRecDepth 20000 in
theorem gX4_goOn_X6_lengthBy_n42 : GoodIn wsX4_goOn (wsX6_lengthBy) := ggX4_goOn_X6_lengthBy
set_option maxRecDepth 20000 in
theorem ggX4_goOn_X6_ring : GoodIn wsX4_goOn wsX6_ring := goodIn_r _ [19] (by decide +kernel) (by decide +kernel)
set_option maxRecDepth 20000 in
theorem gX4_goOn_X6_ring_n46 : GoodIn wsX4_goOn (wsX6_ring) := ggX4_goOn_X6_ring
set_option maxRecDepth 20000 in
theorem ggX4_goOn_X3_takes : GoodIn wsX4_goOn wsX3_takes := goodIn_r _ [26, 27, 44, 45] (by decide +kernel) (by decide +kernel)
set_option maxRecDepth 20000 in
theorem gX4_goOn_X3_takes : GoodIn wsX4_goOn (wsV RX4 54 RX3 yX3_takes wsX3_takes) := goodIn_app (goodIn_of _ (by decide +kernel)) ggX4_goOn_X3_takes
theorem dX4_goOn_0 : decode cX4_goOn 0 = .ok (.aload_n 0, 1) := by decide +kernel
theorem dX4_goOn_1 : decode cX4_goOn 1 = .ok (.getfield 15, 3) := by decide +kernel
theorem dX4_goOn_4 : decode cX4_goOn 4 = .ok (.ifCond .ne 7, 3) := by decide +kernel
theorem dX4_goOn_7 : decode cX4_goOn 7 = .ok (.iconst 1, 1) := by decide +kernel
theorem dX4_goOn_8 : decode cX4_goOn 8 = .ok (.goto 4, 3) := by decide +kernel
theorem dX4_goOn_11 : decode cX4_goOn 11 = .ok (.iconst (-1), 1) := by decide +kernel
theorem dX4_goOn_12 : decode cX4_goOn 12 = .ok (.istore_n 3, 1) := by decide +kernel
theorem dX4_goOn_13 : decode cX4_goOn 13 = .ok (.aload_n 1, 1) := by decide +kernel
theorem dX4_goOn_14 : decode cX4_goOn 14 = .ok (.aload_n 0, 1) := by decide +kernel
theorem dX4_goOn_15 : decode cX4_goOn 15 = .ok (.getfield 9, 3) := by decide +kernel
theorem dX4_goOn_18 : decode cX4_goOn 18 = .ok (.iload_n 3, 1) := by decide +kernel
theorem dX4_goOn_19 : decode cX4_goOn 19 = .ok (.aload_n 0, 1) := by decide +kernel
theorem dX4_goOn_20 : decode cX4_goOn 20 = .ok (.getfield 18, 3) := by decide +kernel
theorem dX4_goOn_23 : decode cX4_goOn 23 = .ok (.aload_n 0, 1) := by decide +kernel
theorem dX4_goOn_24 : decode cX4_goOn 24 = .ok (.getfield 21, 3) := by decide +kernel
theorem dX4_goOn_27 : decode cX4_goOn 27 = .ok (.invokevirtual 36, 3) := by decide +kernel
theorem dX4_goOn_30 : decode cX4_goOn 30 = .ok (.istore 4, 2) := by decide +kernel
theorem dX4_goOn_32 : decode cX4_goOn 32 = .ok (.iload 4, 2) := by decide +kernel
theorem dX4_goOn_34 : decode cX4_goOn 34 = .ok (.iconst (-1), 1) := by decide +kernel
theorem dX4_goOn_35 : decode cX4_goOn 35 = .ok (.if_icmp .ne 5, 3) := by decide +kernel
theorem dX4_goOn_38 : decode cX4_goOn 38 = .ok (.iconst 0, 1) := by decide +kernel
theorem dX4_goOn_39 : decode cX4_goOn 39 = .ok (.ireturn, 1) := by decide +kernel
theorem dX4_goOn_40 : decode cX4_goOn 40 = .ok (.iload 4, 2) := by decide +kernel
theorem dX4_goOn_42 : decode cX4_goOn 42 = .ok (.aload_n 0, 1) := by decide +kernel
theorem dX4_goOn_43 : decode cX4_goOn 43 = .ok (.getfield 18, 3) := by decide +kernel
theorem dX4_goOn_46 : decode cX4_goOn 46 = .ok (.invokestatic 42, 3) := by decide +kernel
theorem dX4_goOn_49 : decode cX4_goOn 49 = .ok (.istore 5, 2) := by decide +kernel
theorem dX4_goOn_51 : decode cX4_goOn 51 = .ok (.aload_n 0, 1) := by decide +kernel
theorem dX4_goOn_52 : decode cX4_goOn 52 = .ok (.getfield 9, 3) := by decide +kernel
theorem dX4_goOn_55 : decode cX4_goOn 55 = .ok (.iload_n 3, 1) := by decide +kernel
theorem dX4_goOn_56 : decode cX4_goOn 56 = .ok (.iload 5, 2) := by decide +kernel
theorem dX4_goOn_58 : decode cX4_goOn 58 = .ok (.imul, 1) := by decide +kernel
theorem dX4_goOn_59 : decode cX4_goOn 59 = .ok (.iadd, 1) := by decide +kernel
theorem dX4_goOn_60 : decode cX4_goOn 60 = .ok (.invokestatic 46, 3) := by decide +kernel
theorem dX4_goOn_63 : decode cX4_goOn 63 = .ok (.istore 6, 2) := by decide +kernel
theorem dX4_goOn_65 : decode cX4_goOn 65 = .ok (.aload_n 1, 1) := by decide +kernel
theorem dX4_goOn_66 : decode cX4_goOn 66 = .ok (.getfield 50, 3) := by decide +kernel
theorem dX4_goOn_69 : decode cX4_goOn 69 = .ok (.iconst 0, 1) := by decide +kernel
theorem dX4_goOn_70 : decode cX4_goOn 70 = .ok (.aaload, 1) := by decide +kernel
theorem dX4_goOn_71 : decode cX4_goOn 71 = .ok (.aload_n 0, 1) := by decide +kernel
theorem dX4_goOn_72 : decode cX4_goOn 72 = .ok (.getfield 9, 3) := by decide +kernel
theorem dX4_goOn_75 : decode cX4_goOn 75 = .ok (.iaload, 1) := by decide +kernel
theorem dX4_goOn_76 : decode cX4_goOn 76 = .ok (.aload_n 1, 1) := by decide +kernel
theorem dX4_goOn_77 : decode cX4_goOn 77 = .ok (.getfield 50, 3) := by decide +kernel
theorem dX4_goOn_80 : decode cX4_goOn 80 = .ok (.iconst 0, 1) := by decide +kernel
theorem dX4_goOn_81 : decode cX4_goOn 81 = .ok (.aaload, 1) := by decide +kernel
theorem dX4_goOn_82 : decode cX4_goOn 82 = .ok (.iload 6, 2) := by decide +kernel
theorem dX4_goOn_84 : decode cX4_goOn 84 = .ok (.iaload, 1) := by decide +kernel
theorem dX4_goOn_85 : decode cX4_goOn 85 = .ok (.iadd, 1) := by decide +kernel
theorem dX4_goOn_86 : decode cX4_goOn 86 = .ok (.istore 7, 2) := by decide +kernel
theorem dX4_goOn_88 : decode cX4_goOn 88 = .ok (.aload_n 0, 1) := by decide +kernel
theorem dX4_goOn_89 : decode cX4_goOn 89 = .ok (.getfield 27, 3) := by decide +kernel
theorem dX4_goOn_92 : decode cX4_goOn 92 = .ok (.ifCond .ne 7, 3) := by decide +kernel
theorem dX4_goOn_95 : decode cX4_goOn 95 = .ok (.iconst 0, 1) := by decide +kernel
theorem dX4_goOn_96 : decode cX4_goOn 96 = .ok (.goto 11, 3) := by decide +kernel
theorem dX4_goOn_99 : decode cX4_goOn 99 = .ok (.aload_n 2, 1) := by decide +kernel
theorem dX4_goOn_100 : decode cX4_goOn 100 = .ok (.aload_n 0, 1) := by decide +kernel
theorem dX4_goOn_101 : decode cX4_goOn 101 = .ok (.getfield 9, 3) := by decide +kernel
theorem dX4_goOn_104 : decode cX4_goOn 104 = .ok (.invokevirtual 54, 3) := by decide +kernel
theorem dX4_goOn_107 : decode cX4_goOn 107 = .ok (.istore 8, 2) := by decide +kernel
theorem dX4_goOn_109 : decode cX4_goOn 109 = .ok (.aload_n 0, 1) := by decide +kernel
theorem dX4_goOn_110 : decode cX4_goOn 110 = .ok (.dup, 1) := by decide +kernel
theorem dX4_goOn_111 : decode cX4_goOn 111 = .ok (.getfield 24, 3) := by decide +kernel
theorem dX4_goOn_114 : decode cX4_goOn 114 = .ok (.iload 8, 2) := by decide +kernel
theorem dX4_goOn_116 : decode cX4_goOn 116 = .ok (.iconst 2, 1) := by decide +kernel
theorem dX4_goOn_117 : decode cX4_goOn 117 = .ok (.iadd, 1) := by decide +kernel
theorem dX4_goOn_118 : decode cX4_goOn 118 = .ok (.iload 5, 2) := by decide +kernel
theorem dX4_goOn_120 : decode cX4_goOn 120 = .ok (.iadd, 1) := by decide +kernel
theorem dX4_goOn_121 : decode cX4_goOn 121 = .ok (.iload 7, 2) := by decide +kernel
theorem dX4_goOn_123 : decode cX4_goOn 123 = .ok (.bipush 40, 2) := by decide +kernel
theorem dX4_goOn_125 : decode cX4_goOn 125 = .ok (.imul, 1) := by decide +kernel
theorem dX4_goOn_126 : decode cX4_goOn 126 = .ok (.aload_n 0, 1) := by decide +kernel
theorem dX4_goOn_127 : decode cX4_goOn 127 = .ok (.getfield 21, 3) := by decide +kernel
theorem dX4_goOn_130 : decode cX4_goOn 130 = .ok (.idiv, 1) := by decide +kernel
theorem dX4_goOn_131 : decode cX4_goOn 131 = .ok (.iadd, 1) := by decide +kernel
theorem dX4_goOn_132 : decode cX4_goOn 132 = .ok (.isub, 1) := by decide +kernel
theorem dX4_goOn_133 : decode cX4_goOn 133 = .ok (.putfield 24, 3) := by decide +kernel
theorem dX4_goOn_136 : decode cX4_goOn 136 = .ok (.aload_n 0, 1) := by decide +kernel
theorem dX4_goOn_137 : decode cX4_goOn 137 = .ok (.getfield 24, 3) := by decide +kernel
theorem dX4_goOn_140 : decode cX4_goOn 140 = .ok (.ifCond .ge 5, 3) := by decide +kernel
theorem dX4_goOn_143 : decode cX4_goOn 143 = .ok (.iconst 0, 1) := by decide +kernel
theorem dX4_goOn_144 : decode cX4_goOn 144 = .ok (.ireturn, 1) := by decide +kernel
theorem dX4_goOn_145 : decode cX4_goOn 145 = .ok (.aload_n 0, 1) := by decide +kernel
theorem dX4_goOn_146 : decode cX4_goOn 146 = .ok (.iload 6, 2) := by decide +kernel
theorem dX4_goOn_148 : decode cX4_goOn 148 = .ok (.putfield 9, 3) := by decide +kernel
theorem dX4_goOn_151 : decode cX4_goOn 151 = .ok (.aload_n 0, 1) := by decide +kernel
theorem dX4_goOn_152 : decode cX4_goOn 152 = .ok (.dup, 1) := by decide +kernel
theorem dX4_goOn_153 : decode cX4_goOn 153 = .ok (.getfield 27, 3) := by decide +kernel
theorem dX4_goOn_156 : decode cX4_goOn 156 = .ok (.iconst 1, 1) := by decide +kernel
theorem dX4_goOn_157 : decode cX4_goOn 157 = .ok (.iadd, 1) := by decide +kernel
theorem dX4_goOn_158 : decode cX4_goOn 158 = .ok (.putfield 27, 3) := by decide +kernel
theorem dX4_goOn_161 : decode cX4_goOn 161 = .ok (.iload 4, 2) := by decide +kernel
theorem dX4_goOn_163 : decode cX4_goOn 163 = .ok (.iconst 1, 1) := by decide +kernel
theorem dX4_goOn_164 : decode cX4_goOn 164 = .ok (.if_icmp .ne 13, 3) := by decide +kernel
theorem dX4_goOn_167 : decode cX4_goOn 167 = .ok (.aload_n 0, 1) := by decide +kernel
theorem dX4_goOn_168 : decode cX4_goOn 168 = .ok (.dup, 1) := by decide +kernel
theorem dX4_goOn_169 : decode cX4_goOn 169 = .ok (.getfield 30, 3) := by decide +kernel
theorem dX4_goOn_172 : decode cX4_goOn 172 = .ok (.iconst 1, 1) := by decide +kernel
theorem dX4_goOn_173 : decode cX4_goOn 173 = .ok (.iadd, 1) := by decide +kernel
theorem dX4_goOn_174 : decode cX4_goOn 174 = .ok (.putfield 30, 3) := by decide +kernel
theorem dX4_goOn_177 : decode cX4_goOn 177 = .ok (.aload_n 0, 1) := by decide +kernel
theorem dX4_goOn_178 : decode cX4_goOn 178 = .ok (.dup, 1) := by decide +kernel
theorem dX4_goOn_179 : decode cX4_goOn 179 = .ok (.getfield 33, 3) := by decide +kernel
theorem dX4_goOn_182 : decode cX4_goOn 182 = .ok (.bipush 10, 2) := by decide +kernel
theorem dX4_goOn_184 : decode cX4_goOn 184 = .ok (.iload 5, 2) := by decide +kernel
theorem dX4_goOn_186 : decode cX4_goOn 186 = .ok (.imul, 1) := by decide +kernel
theorem dX4_goOn_187 : decode cX4_goOn 187 = .ok (.iload 4, 2) := by decide +kernel
theorem dX4_goOn_189 : decode cX4_goOn 189 = .ok (.iconst 1, 1) := by decide +kernel
theorem dX4_goOn_190 : decode cX4_goOn 190 = .ok (.if_icmp .ne 7, 3) := by decide +kernel
theorem dX4_goOn_193 : decode cX4_goOn 193 = .ok (.iconst 2, 1) := by decide +kernel
theorem dX4_goOn_194 : decode cX4_goOn 194 = .ok (.goto 4, 3) := by decide +kernel
theorem dX4_goOn_197 : decode cX4_goOn 197 = .ok (.iconst 5, 1) := by decide +kernel
theorem dX4_goOn_198 : decode cX4_goOn 198 = .ok (.iadd, 1) := by decide +kernel
theorem dX4_goOn_199 : decode cX4_goOn 199 = .ok (.iadd, 1) := by decide +kernel
theorem dX4_goOn_200 : decode cX4_goOn 200 = .ok (.putfield 33, 3) := by decide +kernel
theorem dX4_goOn_203 : decode cX4_goOn 203 = .ok (.iconst 1, 1) := by decide +kernel
theorem dX4_goOn_204 : decode cX4_goOn 204 = .ok (.ireturn, 1) := by decide +kernel
theorem dX4_tell_0 : decode cX4_tell 0 = .ok (.iload_n 1, 1) := by decide +kernel
theorem dX4_tell_1 : decode cX4_tell 1 = .ok (.tableswitch 60 0 4 #[35, 40, 45, 50, 55], 35) := by decide +kernel
theorem dX4_tell_36 : decode cX4_tell 36 = .ok (.aload_n 0, 1) := by decide +kernel
theorem dX4_tell_37 : decode cX4_tell 37 = .ok (.getfield 15, 3) := by decide +kernel
theorem dX4_tell_40 : decode cX4_tell 40 = .ok (.ireturn, 1) := by decide +kernel
theorem dX4_tell_41 : decode cX4_tell 41 = .ok (.aload_n 0, 1) := by decide +kernel
theorem dX4_tell_42 : decode cX4_tell 42 = .ok (.getfield 18, 3) := by decide +kernel
theorem dX4_tell_45 : decode cX4_tell 45 = .ok (.ireturn, 1) := by decide +kernel
theorem dX4_tell_46 : decode cX4_tell 46 = .ok (.aload_n 0, 1) := by decide +kernel
theorem dX4_tell_47 : decode cX4_tell 47 = .ok (.getfield 27, 3) := by decide +kernel
theorem dX4_tell_50 : decode cX4_tell 50 = .ok (.ireturn, 1) := by decide +kernel
theorem dX4_tell_51 : decode cX4_tell 51 = .ok (.aload_n 0, 1) := by decide +kernel
theorem dX4_tell_52 : decode cX4_tell 52 = .ok (.getfield 30, 3) := by decide +kernel
theorem dX4_tell_55 : decode cX4_tell 55 = .ok (.ireturn, 1) := by decide +kernel
theorem dX4_tell_56 : decode cX4_tell 56 = .ok (.aload_n 0, 1) := by decide +kernel
theorem dX4_tell_57 : decode cX4_tell 57 = .ok (.getfield 24, 3) := by decide +kernel
theorem dX4_tell_60 : decode cX4_tell 60 = .ok (.ireturn, 1) := by decide +kernel
theorem dX4_tell_61 : decode cX4_tell 61 = .ok (.aload_n 0, 1) := by decide +kernel
theorem dX4_tell_62 : decode cX4_tell 62 = .ok (.getfield 33, 3) := by decide +kernel
theorem dX4_tell_65 : decode cX4_tell 65 = .ok (.ireturn, 1) := by decide +kernel
theorem dX5_init_0 : decode cX5_init 0 = .ok (.aload_n 0, 1) := by decide +kernel
theorem dX5_init_1 : decode cX5_init 1 = .ok (.invokespecial 3, 3) := by decide +kernel
theorem dX5_init_4 : decode cX5_init 4 = .ok (.aload_n 0, 1) := by decide +kernel
theorem dX5_init_5 : decode cX5_init 5 = .ok (.iload_n 1, 1) := by decide +kernel
theorem dX5_init_6 : decode cX5_init 6 = .ok (.newarray .int, 2) := by decide +kernel
theorem dX5_init_8 : decode cX5_init 8 = .ok (.putfield 9, 3) := by decide +kernel
theorem dX5_init_11 : decode cX5_init 11 = .ok (.aload_n 0, 1) := by decide +kernel
theorem dX5_init_12 : decode cX5_init 12 = .ok (.iload_n 1, 1) := by decide +kernel
theorem dX5_init_13 : decode cX5_init 13 = .ok (.newarray .int, 2) := by decide +kernel
theorem dX5_init_15 : decode cX5_init 15 = .ok (.putfield 15, 3) := by decide +kernel
theorem dX5_init_18 : decode cX5_init 18 = .ok (.aload_n 0, 1) := by decide +kernel
theorem dX5_init_19 : decode cX5_init 19 = .ok (.iload_n 1, 1) := by decide +kernel
theorem dX5_init_20 : decode cX5_init 20 = .ok (.newarray .int, 2) := by decide +kernel
theorem dX5_init_22 : decode cX5_init 22 = .ok (.putfield 18, 3) := by decide +kernel
theorem dX5_init_25 : decode cX5_init 25 = .ok (.aload_n 0, 1) := by decide +kernel
theorem dX5_init_26 : decode cX5_init 26 = .ok (.iload_n 1, 1) := by decide +kernel
theorem dX5_init_27 : decode cX5_init 27 = .ok (.newarray .int, 2) := by decide +kernel
theorem dX5_init_29 : decode cX5_init 29 = .ok (.putfield 21, 3) := by decide +kernel
theorem dX5_init_32 : decode cX5_init 32 = .ok (.aload_n 0, 1) := by decide +kernel
theorem dX5_init_33 : decode cX5_init 33 = .ok (.iload_n 1, 1) := by decide +kernel
theorem dX5_init_34 : decode cX5_init 34 = .ok (.newarray .int, 2) := by decide +kernel
theorem dX5_init_36 : decode cX5_init 36 = .ok (.putfield 24, 3) := by decide +kernel
theorem dX5_init_39 : decode cX5_init 39 = .ok (.return_, 1) := by decide +kernel
theorem dX5_isFull_0 : decode cX5_isFull 0 = .ok (.aload_n 0, 1) := by decide +kernel
theorem dX5_isFull_1 : decode cX5_isFull 1 = .ok (.getfield 27, 3) := by decide +kernel
theorem dX5_isFull_4 : decode cX5_isFull 4 = .ok (.aload_n 0, 1) := by decide +kernel
theorem dX5_isFull_5 : decode cX5_isFull 5 = .ok (.getfield 9, 3) := by decide +kernel
theorem dX5_isFull_8 : decode cX5_isFull 8 = .ok (.arraylength, 1) := by decide +kernel
theorem dX5_isFull_9 : decode cX5_isFull 9 = .ok (.if_icmp .lt 7, 3) := by decide +kernel
theorem dX5_isFull_12 : decode cX5_isFull 12 = .ok (.iconst 1, 1) := by decide +kernel
theorem dX5_isFull_13 : decode cX5_isFull 13 = .ok (.goto 4, 3) := by decide +kernel
theorem dX5_isFull_16 : decode cX5_isFull 16 = .ok (.iconst 0, 1) := by decide +kernel
theorem dX5_isFull_17 : decode cX5_isFull 17 = .ok (.ireturn, 1) := by decide +kernel
theorem dX5_has_0 : decode cX5_has 0 = .ok (.iload_n 1, 1) := by decide +kernel
theorem dX5_has_1 : decode cX5_has 1 = .ok (.ifCond .lt 15, 3) := by decide +kernel
theorem dX5_has_4 : decode cX5_has 4 = .ok (.iload_n 1, 1) := by decide +kernel
theorem dX5_has_5 : decode cX5_has 5 = .ok (.aload_n 0, 1) := by decide +kernel
theorem dX5_has_6 : decode cX5_has 6 = .ok (.getfield 27, 3) := by decide +kernel
theorem dX5_has_9 : decode cX5_has 9 = .ok (.if_icmp .ge 7, 3) := by decide +kernel
theorem dX5_has_12 : decode cX5_has 12 = .ok (.iconst 1, 1) := by decide +kernel
theorem dX5_has_13 : decode cX5_has 13 = .ok (.goto 4, 3) := by decide +kernel
theorem dX5_has_16 : decode cX5_has 16 = .ok (.iconst 0, 1) := by decide +kernel
theorem dX5_has_17 : decode cX5_has 17 = .ok (.ireturn, 1) := by decide +kernel
theorem dX5_add_0 : decode cX5_add 0 = .ok (.aload_n 0, 1) := by decide +kernel
theorem dX5_add_1 : decode cX5_add 1 = .ok (.getfield 27, 3) := by decide +kernel
theorem dX5_add_4 : decode cX5_add 4 = .ok (.istore 6, 2) := by decide +kernel
theorem dX5_add_6 : decode cX5_add 6 = .ok (.aload_n 0, 1) := by decide +kernel
theorem dX5_add_7 : decode cX5_add 7 = .ok (.getfield 9, 3) := by decide +kernel
theorem dX5_add_10 : decode cX5_add 10 = .ok (.iload 6, 2) := by decide +kernel
theorem dX5_add_12 : decode cX5_add 12 = .ok (.iload_n 1, 1) := by decide +kernel
theorem dX5_add_13 : decode cX5_add 13 = .ok (.iastore, 1) := by decide +kernel
theorem dX5_add_14 : decode cX5_add 14 = .ok (.aload_n 0, 1) := by decide +kernel
theorem dX5_add_15 : decode cX5_add 15 = .ok (.getfield 15, 3) := by decide +kernel
theorem dX5_add_18 : decode cX5_add 18 = .ok (.iload 6, 2) := by decide +kernel
theorem dX5_add_20 : decode cX5_add 20 = .ok (.iload_n 2, 1) := by decide +kernel
theorem dX5_add_21 : decode cX5_add 21 = .ok (.iastore, 1) := by decide +kernel
theorem dX5_add_22 : decode cX5_add 22 = .ok (.aload_n 0, 1) := by decide +kernel
theorem dX5_add_23 : decode cX5_add 23 = .ok (.getfield 18, 3) := by decide +kernel
theorem dX5_add_26 : decode cX5_add 26 = .ok (.iload 6, 2) := by decide +kernel
theorem dX5_add_28 : decode cX5_add 28 = .ok (.iload_n 3, 1) := by decide +kernel
theorem dX5_add_29 : decode cX5_add 29 = .ok (.iastore, 1) := by decide +kernel
theorem dX5_add_30 : decode cX5_add 30 = .ok (.aload_n 0, 1) := by decide +kernel
theorem dX5_add_31 : decode cX5_add 31 = .ok (.getfield 21, 3) := by decide +kernel
theorem dX5_add_34 : decode cX5_add 34 = .ok (.iload 6, 2) := by decide +kernel
theorem dX5_add_36 : decode cX5_add 36 = .ok (.iload 4, 2) := by decide +kernel
theorem dX5_add_38 : decode cX5_add 38 = .ok (.iastore, 1) := by decide +kernel
theorem dX5_add_39 : decode cX5_add 39 = .ok (.aload_n 0, 1) := by decide +kernel
theorem dX5_add_40 : decode cX5_add 40 = .ok (.getfield 24, 3) := by decide +kernel
theorem dX5_add_43 : decode cX5_add 43 = .ok (.iload 6, 2) := by decide +kernel
theorem dX5_add_45 : decode cX5_add 45 = .ok (.iload 5, 2) := by decide +kernel
theorem dX5_add_47 : decode cX5_add 47 = .ok (.iastore, 1) := by decide +kernel
theorem dX5_add_48 : decode cX5_add 48 = .ok (.aload_n 0, 1) := by decide +kernel
theorem dX5_add_49 : decode cX5_add 49 = .ok (.dup, 1) := by decide +kernel
theorem dX5_add_50 : decode cX5_add 50 = .ok (.getfield 27, 3) := by decide +kernel
theorem dX5_add_53 : decode cX5_add 53 = .ok (.iconst 1, 1) := by decide +kernel
theorem dX5_add_54 : decode cX5_add 54 = .ok (.iadd, 1) := by decide +kernel
theorem dX5_add_55 : decode cX5_add 55 = .ok (.putfield 27, 3) := by decide +kernel
theorem dX5_add_58 : decode cX5_add 58 = .ok (.iload 6, 2) := by decide +kernel
theorem dX5_add_60 : decode cX5_add 60 = .ok (.ireturn, 1) := by decide +kernel
set_option maxRecDepth 20000 in
theorem ggX5_strengthAtFirst_X5_gain : GoodIn wsX5_strengthAtFirst wsX5_gain := goodIn_r _ [7] (by decide +kernel) (by decide +kernel)
set_option maxRecDepth 20000 in
theorem gX5_strengthAtFirst_X5_gain : GoodIn wsX5_strengthAtFirst (va_wsS RX5 31 yX5_gain wsX5_gain) := goodIn_app (goodIn_of _ (by decide +kernel)) ggX5_strengthAtFirst_X5_gain
set_option maxRecDepth 20000 in
theorem ggX5_strengthAtFirst_X5_aside : GoodIn wsX5_strengthAtFirst wsX5_aside := goodIn_r _ [10] (by decide +kernel) (by decide +kernel)
set_option maxRecDepth 20000 in
theorem gX5_strengthAtFirst_X5_aside : GoodIn wsX5_strengthAtFirst (va_wsS RX5 35 yX5_aside wsX5_aside) := goodIn_app (goodIn_of _ (by decide +kernel)) ggX5_strengthAtFirst_X5_aside
theorem dX5_strengthAtFirst_0 : decode cX5_strengthAtFirst 0 = .ok (.aload_n 0, 1) := by decide +kernel
theorem dX5_strengthAtFirst_1 : decode cX5_strengthAtFirst 1 = .ok (.getfield 15, 3) := by decide +kernel
theorem dX5_strengthAtFirst_4 : decode cX5_strengthAtFirst 4 = .ok (.iload_n 1, 1) := by decide +kernel
theorem dX5_strengthAtFirst_5 : decode cX5_strengthAtFirst 5 = .ok (.iaload, 1) := by decide +kernel
theorem dX5_strengthAtFirst_6 : decode cX5_strengthAtFirst 6 = .ok (.aload_n 0, 1) := by decide +kernel
theorem dX5_strengthAtFirst_7 : decode cX5_strengthAtFirst 7 = .ok (.getfield 18, 3) := by decide +kernel
theorem dX5_strengthAtFirst_10 : decode cX5_strengthAtFirst 10 = .ok (.iload_n 1, 1) := by decide +kernel
theorem dX5_strengthAtFirst_11 : decode cX5_strengthAtFirst 11 = .ok (.iaload, 1) := by decide +kernel
theorem dX5_strengthAtFirst_12 : decode cX5_strengthAtFirst 12 = .ok (.iload_n 3, 1) := by decide +kernel
theorem dX5_strengthAtFirst_13 : decode cX5_strengthAtFirst 13 = .ok (.invokestatic 31, 3) := by decide +kernel
theorem dX5_strengthAtFirst_16 : decode cX5_strengthAtFirst 16 = .ok (.iadd, 1) := by decide +kernel
theorem dX5_strengthAtFirst_17 : decode cX5_strengthAtFirst 17 = .ok (.aload_n 0, 1) := by decide +kernel
theorem dX5_strengthAtFirst_18 : decode cX5_strengthAtFirst 18 = .ok (.getfield 21, 3) := by decide +kernel
theorem dX5_strengthAtFirst_21 : decode cX5_strengthAtFirst 21 = .ok (.iload_n 1, 1) := by decide +kernel
theorem dX5_strengthAtFirst_22 : decode cX5_strengthAtFirst 22 = .ok (.iaload, 1) := by decide +kernel
theorem dX5_strengthAtFirst_23 : decode cX5_strengthAtFirst 23 = .ok (.iload_n 2, 1) := by decide +kernel
theorem dX5_strengthAtFirst_24 : decode cX5_strengthAtFirst 24 = .ok (.invokestatic 35, 3) := by decide +kernel
theorem dX5_strengthAtFirst_27 : decode cX5_strengthAtFirst 27 = .ok (.isub, 1) := by decide +kernel
theorem dX5_strengthAtFirst_28 : decode cX5_strengthAtFirst 28 = .ok (.ireturn, 1) := by decide +kernel
theorem dX5_gain_0 : decode cX5_gain 0 = .ok (.iload_n 0, 1) := by decide +kernel
theorem dX5_gain_1 : decode cX5_gain 1 = .ok (.lookupswitch 41 #[(0, 27), (1, 34)], 27) := by decide +kernel
theorem dX5_gain_28 : decode cX5_gain 28 = .ok (.bipush 10, 2) := by decide +kernel
theorem dX5_gain_30 : decode cX5_gain 30 = .ok (.iconst 2, 1) := by decide +kernel
theorem dX5_gain_31 : decode cX5_gain 31 = .ok (.iload_n 1, 1) := by decide +kernel
theorem dX5_gain_32 : decode cX5_gain 32 = .ok (.imul, 1) := by decide +kernel
theorem dX5_gain_33 : decode cX5_gain 33 = .ok (.isub, 1) := by decide +kernel
theorem dX5_gain_34 : decode cX5_gain 34 = .ok (.ireturn, 1) := by decide +kernel
theorem dX5_gain_35 : decode cX5_gain 35 = .ok (.iconst 2, 1) := by decide +kernel
theorem dX5_gain_36 : decode cX5_gain 36 = .ok (.iload_n 1, 1) := by decide +kernel
theorem dX5_gain_37 : decode cX5_gain 37 = .ok (.imul, 1) := by decide +kernel
theorem dX5_gain_38 : decode cX5_gain 38 = .ok (.bipush 10, 2) := by decide +kernel
theorem dX5_gain_40 : decode cX5_gain 40 = .ok (.isub, 1) := by decide +kernel
theorem dX5_gain_41 : decode cX5_gain 41 = .ok (.ireturn, 1) := by decide +kernel
theorem dX5_gain_42 : decode cX5_gain 42 = .ok (.iconst 0, 1) := by decide +kernel
theorem dX5_gain_43 : decode cX5_gain 43 = .ok (.ireturn, 1) := by decide +kernel
theorem dX5_aside_0 : decode cX5_aside 0 = .ok (.iload_n 0, 1) := by decide +kernel
theorem dX5_aside_1 : decode cX5_aside 1 = .ok (.iconst 2, 1) := by decide +kernel
theorem dX5_aside_2 : decode cX5_aside 2 = .ok (.if_icmp .ne 5, 3) := by decide +kernel
theorem dX5_aside_5 : decode cX5_aside 5 = .ok (.iconst 3, 1) := by decide +kernel
theorem dX5_aside_6 : decode cX5_aside 6 = .ok (.ireturn, 1) := by decide +kernel
theorem dX5_aside_7 : decode cX5_aside 7 = .ok (.iload_n 0, 1) := by decide +kernel
theorem dX5_aside_8 : decode cX5_aside 8 = .ok (.iload_n 1, 1) := by decide +kernel
theorem dX5_aside_9 : decode cX5_aside 9 = .ok (.if_icmp .ne 7, 3) := by decide +kernel
theorem dX5_aside_12 : decode cX5_aside 12 = .ok (.iconst 0, 1) := by decide +kernel
theorem dX5_aside_13 : decode cX5_aside 13 = .ok (.goto 5, 3) := by decide +kernel
theorem dX5_aside_16 : decode cX5_aside 16 = .ok (.bipush 20, 2) := by decide +kernel
theorem dX5_aside_18 : decode cX5_aside 18 = .ok (.ireturn, 1) := by decide +kernel
set_option maxRecDepth 20000 in
theorem ggX6_init_X0_init : GoodIn wsX6_init wsX0_init := goodIn_r _ [32, 33, 2, 3, 34, 35, 36, 37, 38, 39, 40, 41, 42, 6, 43, 44, 45, 46, 47, 48, 49, 50, 51, 52, 53, 54, 55, 56, 57, 92, 93, 94, 95, 96, 97, 98, 99] (by decide +kernel) (by decide +kernel)
set_option maxRecDepth 20000 in
theorem gX6_init_X0_init : GoodIn wsX6_init (wsX0_init) := ggX6_init_X0_init
set_option maxRecDepth 20000 in
theorem ggX6_init_X3_init : GoodIn wsX6_init wsX3_init := goodIn_r _ [59, 60, 2, 3, 61, 62, 35, 63, 110, 111] (by decide +kernel) (by decide +kernel)
set_option maxRecDepth 20000 in
theorem gX6_init_X3_init_n21 : GoodIn wsX6_init (wsX3_init) := ggX6_init_X3_init
set_option maxRecDepth 20000 in
theorem ggX6_init_X4_init : GoodIn wsX6_init wsX4_init := goodIn_r _ [65, 66, 2, 3] (by decide +kernel) (by decide +kernel)
set_option maxRecDepth 20000 in
theorem gX6_init_X4_init_n28 : GoodIn wsX6_init (wsX4_init) := ggX6_init_X4_init
set_option maxRecDepth 20000 in
theorem ggX6_init_X5_init : GoodIn wsX6_init wsX5_init := goodIn_r _ [69, 70, 2, 3, 35, 71, 72, 73, 74, 75, 120, 121, 122, 123, 124, 125] (by decide +kernel) (by decide +kernel)
set_option maxRecDepth 20000 in
theorem gX6_init_X5_init : GoodIn wsX6_init (wsX5_init) := ggX6_init_X5_init
set_option maxRecDepth 20000 in
theorem ggX6_init_X1_init : GoodIn wsX6_init wsX1_init := goodIn_r _ [77, 78, 2, 3, 35, 79, 80, 81, 82, 83, 126, 127, 128, 129, 130, 131] (by decide +kernel) (by decide +kernel)
set_option maxRecDepth 20000 in
theorem gX6_init_X1_init_n47 : GoodIn wsX6_init (wsX1_init) := ggX6_init_X1_init
set_option maxRecDepth 20000 in
theorem ggX6_init_X2_init : GoodIn wsX6_init wsX2_init := goodIn_r _ [85, 86, 2, 3, 35, 87, 88, 89, 90, 91, 132, 133, 134, 135, 136, 137, 138] (by decide +kernel) (by decide +kernel)
set_option maxRecDepth 20000 in
theorem gX6_init_X2_init_n54 : GoodIn wsX6_init (wsX2_init) := ggX6_init_X2_init
theorem dX6_init_0 : decode cX6_init 0 = .ok (.aload_n 0, 1) := by decide +kernel
theorem dX6_init_1 : decode cX6_init 1 = .ok (.invokespecial 3, 3) := by decide +kernel
theorem dX6_init_4 : decode cX6_init 4 = .ok (.aload_n 0, 1) := by decide +kernel
theorem dX6_init_5 : decode cX6_init 5 = .ok (.new 9, 3) := by decide +kernel
theorem dX6_init_8 : decode cX6_init 8 = .ok (.dup, 1) := by decide +kernel
theorem dX6_init_9 : decode cX6_init 9 = .ok (.invokespecial 11, 3) := by decide +kernel
theorem dX6_init_12 : decode cX6_init 12 = .ok (.putfield 12, 3) := by decide +kernel
theorem dX6_init_15 : decode cX6_init 15 = .ok (.aload_n 0, 1) := by decide +kernel
theorem dX6_init_16 : decode cX6_init 16 = .ok (.new 9, 3) := by decide +kernel
theorem dX6_init_19 : decode cX6_init 19 = .ok (.dup, 1) := by decide +kernel
theorem dX6_init_20 : decode cX6_init 20 = .ok (.invokespecial 11, 3) := by decide +kernel
theorem dX6_init_23 : decode cX6_init 23 = .ok (.putfield 16, 3) := by decide +kernel
theorem dX6_init_26 : decode cX6_init 26 = .ok (.aload_n 0, 1) := by decide +kernel
theorem dX6_init_27 : decode cX6_init 27 = .ok (.new 19, 3) := by decide +kernel
theorem dX6_init_30 : decode cX6_init 30 = .ok (.dup, 1) := by decide +kernel
theorem dX6_init_31 : decode cX6_init 31 = .ok (.invokespecial 21, 3) := by decide +kernel
theorem dX6_init_34 : decode cX6_init 34 = .ok (.putfield 22, 3) := by decide +kernel
theorem dX6_init_37 : decode cX6_init 37 = .ok (.aload_n 0, 1) := by decide +kernel
theorem dX6_init_38 : decode cX6_init 38 = .ok (.new 26, 3) := by decide +kernel
theorem dX6_init_41 : decode cX6_init 41 = .ok (.dup, 1) := by decide +kernel
theorem dX6_init_42 : decode cX6_init 42 = .ok (.invokespecial 28, 3) := by decide +kernel
theorem dX6_init_45 : decode cX6_init 45 = .ok (.putfield 29, 3) := by decide +kernel
theorem dX6_init_48 : decode cX6_init 48 = .ok (.aload_n 0, 1) := by decide +kernel
theorem dX6_init_49 : decode cX6_init 49 = .ok (.new 33, 3) := by decide +kernel
theorem dX6_init_52 : decode cX6_init 52 = .ok (.dup, 1) := by decide +kernel
theorem dX6_init_53 : decode cX6_init 53 = .ok (.bipush 12, 2) := by decide +kernel
theorem dX6_init_55 : decode cX6_init 55 = .ok (.invokespecial 35, 3) := by decide +kernel
theorem dX6_init_58 : decode cX6_init 58 = .ok (.putfield 38, 3) := by decide +kernel
theorem dX6_init_61 : decode cX6_init 61 = .ok (.aload_n 0, 1) := by decide +kernel
theorem dX6_init_62 : decode cX6_init 62 = .ok (.new 33, 3) := by decide +kernel
theorem dX6_init_65 : decode cX6_init 65 = .ok (.dup, 1) := by decide +kernel
theorem dX6_init_66 : decode cX6_init 66 = .ok (.bipush 6, 2) := by decide +kernel
theorem dX6_init_68 : decode cX6_init 68 = .ok (.invokespecial 35, 3) := by decide +kernel
theorem dX6_init_71 : decode cX6_init 71 = .ok (.putfield 42, 3) := by decide +kernel
theorem dX6_init_74 : decode cX6_init 74 = .ok (.aload_n 0, 1) := by decide +kernel
theorem dX6_init_75 : decode cX6_init 75 = .ok (.new 45, 3) := by decide +kernel
theorem dX6_init_78 : decode cX6_init 78 = .ok (.dup, 1) := by decide +kernel
theorem dX6_init_79 : decode cX6_init 79 = .ok (.invokespecial 47, 3) := by decide +kernel
theorem dX6_init_82 : decode cX6_init 82 = .ok (.putfield 48, 3) := by decide +kernel
theorem dX6_init_85 : decode cX6_init 85 = .ok (.aload_n 0, 1) := by decide +kernel
theorem dX6_init_86 : decode cX6_init 86 = .ok (.new 52, 3) := by decide +kernel
theorem dX6_init_89 : decode cX6_init 89 = .ok (.dup, 1) := by decide +kernel
theorem dX6_init_90 : decode cX6_init 90 = .ok (.invokespecial 54, 3) := by decide +kernel
theorem dX6_init_93 : decode cX6_init 93 = .ok (.putfield 55, 3) := by decide +kernel
theorem dX6_init_96 : decode cX6_init 96 = .ok (.return_, 1) := by decide +kernel
set_option maxRecDepth 20000 in
theorem ggX6_sun_X6_needRange : GoodIn wsX6_sun wsX6_needRange := goodIn_ca (goodIn_r _ [6, 7, 8] (by decide +kernel) (by decide +kernel)) (goodIn_sub (fun _ h => List.mem_cons_of_mem _ (List.mem_append_right _ h)) (by decide +kernel))
set_option maxRecDepth 20000 in
theorem gX6_sun_X6_needRange : GoodIn wsX6_sun (va_wsS RX6 59 yX6_needRange wsX6_needRange) := goodIn_app (goodIn_of _ (by decide +kernel)) ggX6_sun_X6_needRange
set_option maxRecDepth 20000 in
theorem ggX6_sun_X0_shineFrom : GoodIn wsX6_sun wsX0_shineFrom := goodIn_r _ [13, 14, 15, 16, 17, 12, 18, 19, 20, 21, 22, 23, 24, 25, 26, 27, 28, 5, 29, 30, 31, 32, 33, 44, 45, 46, 47, 48, 49, 50, 51] (by decide +kernel) (by decide +kernel)
set_option maxRecDepth 20000 in
theorem gX6_sun_X0_shineFrom : GoodIn wsX6_sun (wsV RX6 67 RX0 yX0_shineFrom wsX0_shineFrom) := goodIn_app (goodIn_of _ (by decide +kernel)) ggX6_sun_X0_shineFrom
theorem dX6_sun_0 : decode cX6_sun 0 = .ok (.iload_n 1, 1) := by decide +kernel
theorem dX6_sun_1 : decode cX6_sun 1 = .ok (.iconst 0, 1) := by decide +kernel
theorem dX6_sun_2 : decode cX6_sun 2 = .ok (.bipush 100, 2) := by decide +kernel
theorem dX6_sun_4 : decode cX6_sun 4 = .ok (.invokestatic 59, 3) := by decide +kernel
theorem dX6_sun_7 : decode cX6_sun 7 = .ok (.aload_n 0, 1) := by decide +kernel
theorem dX6_sun_8 : decode cX6_sun 8 = .ok (.getfield 12, 3) := by decide +kernel
theorem dX6_sun_11 : decode cX6_sun 11 = .ok (.getfield 63, 3) := by decide +kernel
theorem dX6_sun_14 : decode cX6_sun 14 = .ok (.istore_n 2, 1) := by decide +kernel
theorem dX6_sun_15 : decode cX6_sun 15 = .ok (.aload_n 0, 1) := by decide +kernel
theorem dX6_sun_16 : decode cX6_sun 16 = .ok (.getfield 12, 3) := by decide +kernel
theorem dX6_sun_19 : decode cX6_sun 19 = .ok (.iload_n 1, 1) := by decide +kernel
theorem dX6_sun_20 : decode cX6_sun 20 = .ok (.invokevirtual 67, 3) := by decide +kernel
theorem dX6_sun_23 : decode cX6_sun 23 = .ok (.aload_n 0, 1) := by decide +kernel
theorem dX6_sun_24 : decode cX6_sun 24 = .ok (.getfield 16, 3) := by decide +kernel
theorem dX6_sun_27 : decode cX6_sun 27 = .ok (.iload_n 1, 1) := by decide +kernel
theorem dX6_sun_28 : decode cX6_sun 28 = .ok (.invokevirtual 67, 3) := by decide +kernel
theorem dX6_sun_31 : decode cX6_sun 31 = .ok (.iload_n 2, 1) := by decide +kernel
theorem dX6_sun_32 : decode cX6_sun 32 = .ok (.ireturn, 1) := by decide +kernel
set_option maxRecDepth 20000 in
theorem ggX6_storm_X6_needRange : GoodIn wsX6_storm wsX6_needRange := goodIn_ca (goodIn_r _ [5, 6, 7] (by decide +kernel) (by decide +kernel)) (goodIn_sub (fun _ h => List.mem_cons_of_mem _ (List.mem_append_right _ h)) (by decide +kernel))
set_option maxRecDepth 20000 in
theorem gX6_storm_X6_needRange : GoodIn wsX6_storm (va_wsS RX6 59 yX6_needRange wsX6_needRange) := goodIn_app (goodIn_of _ (by decide +kernel)) ggX6_storm_X6_needRange
set_option maxRecDepth 20000 in
theorem ggX6_storm_X0_beginStorm : GoodIn wsX6_storm wsX0_beginStorm := goodIn_r _ [12, 13, 14, 15, 16, 17, 11, 18, 19, 20, 21, 22, 23, 24, 25, 26, 27, 28, 4, 29, 30, 31, 32, 33, 44, 45, 46, 47, 48, 49, 50, 51] (by decide +kernel) (by decide +kernel)
set_option maxRecDepth 20000 in
theorem gX6_storm_X0_beginStorm : GoodIn wsX6_storm (wsV RX6 70 RX0 yX0_beginStorm wsX0_beginStorm) := goodIn_app (goodIn_of _ (by decide +kernel)) ggX6_storm_X0_beginStorm
theorem dX6_storm_0 : decode cX6_storm 0 = .ok (.iload_n 1, 1) := by decide +kernel
theorem dX6_storm_1 : decode cX6_storm 1 = .ok (.iconst 1, 1) := by decide +kernel
theorem dX6_storm_2 : decode cX6_storm 2 = .ok (.bipush 60, 2) := by decide +kernel
theorem dX6_storm_4 : decode cX6_storm 4 = .ok (.invokestatic 59, 3) := by decide +kernel
theorem dX6_storm_7 : decode cX6_storm 7 = .ok (.iload_n 2, 1) := by decide +kernel
theorem dX6_storm_8 : decode cX6_storm 8 = .ok (.iconst 1, 1) := by decide +kernel
theorem dX6_storm_9 : decode cX6_storm 9 = .ok (.bipush 72, 2) := by decide +kernel
theorem dX6_storm_11 : decode cX6_storm 11 = .ok (.invokestatic 59, 3) := by decide +kernel
theorem dX6_storm_14 : decode cX6_storm 14 = .ok (.aload_n 0, 1) := by decide +kernel
theorem dX6_storm_15 : decode cX6_storm 15 = .ok (.getfield 12, 3) := by decide +kernel
theorem dX6_storm_18 : decode cX6_storm 18 = .ok (.iload_n 1, 1) := by decide +kernel
theorem dX6_storm_19 : decode cX6_storm 19 = .ok (.iload_n 2, 1) := by decide +kernel
theorem dX6_storm_20 : decode cX6_storm 20 = .ok (.invokevirtual 70, 3) := by decide +kernel
theorem dX6_storm_23 : decode cX6_storm 23 = .ok (.return_, 1) := by decide +kernel
set_option maxRecDepth 20000 in
theorem ggX6_flare_X6_needRange : GoodIn wsX6_flare wsX6_needRange := goodIn_ca (goodIn_r _ [5, 6, 7] (by decide +kernel) (by decide +kernel)) (goodIn_sub (fun _ h => List.mem_cons_of_mem _ (List.mem_append_right _ h)) (by decide +kernel))
set_option maxRecDepth 20000 in
theorem gX6_flare_X6_needRange : GoodIn wsX6_flare (va_wsS RX6 59 yX6_needRange wsX6_needRange) := goodIn_app (goodIn_of _ (by decide +kernel)) ggX6_flare_X6_needRange
set_option maxRecDepth 20000 in
theorem ggX6_flare_X0_burst : GoodIn wsX6_flare wsX0_burst := goodIn_r _ [12, 13, 14, 15, 16, 11, 17, 18, 19, 20, 21, 22, 23, 24, 25, 26, 27, 4, 28, 29, 30, 31, 32, 43, 44, 45, 46, 47, 48, 49, 50] (by decide +kernel) (by decide +kernel)
set_option maxRecDepth 20000 in
theorem gX6_flare_X0_burst : GoodIn wsX6_flare (wsV RX6 77 RX0 yX0_burst wsX0_burst) := goodIn_app (goodIn_of _ (by decide +kernel)) ggX6_flare_X0_burst
theorem dX6_flare_0 : decode cX6_flare 0 = .ok (.iload_n 1, 1) := by decide +kernel
theorem dX6_flare_1 : decode cX6_flare 1 = .ok (.iconst 1, 1) := by decide +kernel
theorem dX6_flare_2 : decode cX6_flare 2 = .ok (.bipush 80, 2) := by decide +kernel
theorem dX6_flare_4 : decode cX6_flare 4 = .ok (.invokestatic 59, 3) := by decide +kernel
theorem dX6_flare_7 : decode cX6_flare 7 = .ok (.aload_n 0, 1) := by decide +kernel
theorem dX6_flare_8 : decode cX6_flare 8 = .ok (.getfield 12, 3) := by decide +kernel
theorem dX6_flare_11 : decode cX6_flare 11 = .ok (.getfield 74, 3) := by decide +kernel
theorem dX6_flare_14 : decode cX6_flare 14 = .ok (.istore_n 2, 1) := by decide +kernel
theorem dX6_flare_15 : decode cX6_flare 15 = .ok (.aload_n 0, 1) := by decide +kernel
theorem dX6_flare_16 : decode cX6_flare 16 = .ok (.getfield 12, 3) := by decide +kernel
theorem dX6_flare_19 : decode cX6_flare 19 = .ok (.iload_n 1, 1) := by decide +kernel
theorem dX6_flare_20 : decode cX6_flare 20 = .ok (.invokevirtual 77, 3) := by decide +kernel
theorem dX6_flare_23 : decode cX6_flare 23 = .ok (.iload_n 2, 1) := by decide +kernel
theorem dX6_flare_24 : decode cX6_flare 24 = .ok (.ireturn, 1) := by decide +kernel
set_option maxRecDepth 20000 in
theorem ggX6_cloud_X6_needPlace : GoodIn wsX6_cloud wsX6_needPlace := goodIn_ca (goodIn_r _ [5, 6, 7] (by decide +kernel) (by decide +kernel)) (goodIn_sub (fun _ h => List.mem_cons_of_mem _ (List.mem_append_left _ (List.mem_append_right _ h))) (by decide +kernel))
set_option maxRecDepth 20000 in
theorem gX6_cloud_X6_needPlace : GoodIn wsX6_cloud (va_wsS RX6 80 yX6_needPlace wsX6_needPlace) := goodIn_app (goodIn_of _ (by decide +kernel)) ggX6_cloud_X6_needPlace
set_option maxRecDepth 20000 in
theorem ggX6_cloud_X6_needRange : GoodIn wsX6_cloud wsX6_needRange := goodIn_ca (goodIn_r _ [10, 11, 12] (by decide +kernel) (by decide +kernel)) (goodIn_sub (fun _ h => List.mem_cons_of_mem _ (List.mem_append_right _ h)) (by decide +kernel))
set_option maxRecDepth 20000 in
theorem gX6_cloud_X6_needRange : GoodIn wsX6_cloud (va_wsS RX6 59 yX6_needRange wsX6_needRange) := goodIn_app (goodIn_of _ (by decide +kernel)) ggX6_cloud_X6_needRange
set_option maxRecDepth 20000 in
theorem ggX6_cloud_X0_coverPlace : GoodIn wsX6_cloud wsX0_coverPlace := goodIn_r _ [17, 18, 19, 20, 21, 22, 16, 23, 24, 25, 26, 27, 28, 29, 30, 31, 32, 33, 4, 34, 35, 36, 37, 38, 49, 50, 51, 52, 53, 54, 55, 56] (by decide +kernel) (by decide +kernel)
set_option maxRecDepth 20000 in
theorem gX6_cloud_X0_coverPlace : GoodIn wsX6_cloud (wsV RX6 83 RX0 yX0_coverPlace wsX0_coverPlace) := goodIn_app (goodIn_of _ (by decide +kernel)) ggX6_cloud_X0_coverPlace
theorem dX6_cloud_0 : decode cX6_cloud 0 = .ok (.iload_n 1, 1) := by decide +kernel
theorem dX6_cloud_1 : decode cX6_cloud 1 = .ok (.invokestatic 80, 3) := by decide +kernel
theorem dX6_cloud_4 : decode cX6_cloud 4 = .ok (.iload_n 2, 1) := by decide +kernel
theorem dX6_cloud_5 : decode cX6_cloud 5 = .ok (.iconst 1, 1) := by decide +kernel
theorem dX6_cloud_6 : decode cX6_cloud 6 = .ok (.bipush 100, 2) := by decide +kernel
theorem dX6_cloud_8 : decode cX6_cloud 8 = .ok (.invokestatic 59, 3) := by decide +kernel
theorem dX6_cloud_11 : decode cX6_cloud 11 = .ok (.iload_n 3, 1) := by decide +kernel
theorem dX6_cloud_12 : decode cX6_cloud 12 = .ok (.iconst 1, 1) := by decide +kernel
theorem dX6_cloud_13 : decode cX6_cloud 13 = .ok (.bipush 24, 2) := by decide +kernel
theorem dX6_cloud_15 : decode cX6_cloud 15 = .ok (.invokestatic 59, 3) := by decide +kernel
theorem dX6_cloud_18 : decode cX6_cloud 18 = .ok (.aload_n 0, 1) := by decide +kernel
theorem dX6_cloud_19 : decode cX6_cloud 19 = .ok (.getfield 12, 3) := by decide +kernel
theorem dX6_cloud_22 : decode cX6_cloud 22 = .ok (.iload_n 1, 1) := by decide +kernel
theorem dX6_cloud_23 : decode cX6_cloud 23 = .ok (.iload_n 2, 1) := by decide +kernel
theorem dX6_cloud_24 : decode cX6_cloud 24 = .ok (.iload_n 3, 1) := by decide +kernel
theorem dX6_cloud_25 : decode cX6_cloud 25 = .ok (.invokevirtual 83, 3) := by decide +kernel
theorem dX6_cloud_28 : decode cX6_cloud 28 = .ok (.return_, 1) := by decide +kernel
set_option maxRecDepth 20000 in
theorem ggX6_sea_X6_needPlace : GoodIn wsX6_sea wsX6_needPlace := goodIn_ca (goodIn_r _ [5, 6, 7] (by decide +kernel) (by decide +kernel)) (goodIn_sub (fun _ h => List.mem_cons_of_mem _ (List.mem_append_right _ h)) (by decide +kernel))
set_option maxRecDepth 20000 in
theorem gX6_sea_X6_needPlace : GoodIn wsX6_sea (va_wsS RX6 80 yX6_needPlace wsX6_needPlace) := goodIn_app (goodIn_of _ (by decide +kernel)) ggX6_sea_X6_needPlace
theorem dX6_sea_0 : decode cX6_sea 0 = .ok (.iload_n 1, 1) := by decide +kernel
theorem dX6_sea_1 : decode cX6_sea 1 = .ok (.invokestatic 80, 3) := by decide +kernel
theorem dX6_sea_4 : decode cX6_sea 4 = .ok (.aload_n 0, 1) := by decide +kernel
theorem dX6_sea_5 : decode cX6_sea 5 = .ok (.getfield 22, 3) := by decide +kernel
theorem dX6_sea_8 : decode cX6_sea 8 = .ok (.getfield 86, 3) := by decide +kernel
theorem dX6_sea_11 : decode cX6_sea 11 = .ok (.iload_n 1, 1) := by decide +kernel
theorem dX6_sea_12 : decode cX6_sea 12 = .ok (.baload, 1) := by decide +kernel
theorem dX6_sea_13 : decode cX6_sea 13 = .ok (.istore_n 3, 1) := by decide +kernel
theorem dX6_sea_14 : decode cX6_sea 14 = .ok (.aload_n 0, 1) := by decide +kernel
theorem dX6_sea_15 : decode cX6_sea 15 = .ok (.getfield 22, 3) := by decide +kernel
theorem dX6_sea_18 : decode cX6_sea 18 = .ok (.getfield 86, 3) := by decide +kernel
theorem dX6_sea_21 : decode cX6_sea 21 = .ok (.iload_n 1, 1) := by decide +kernel
theorem dX6_sea_22 : decode cX6_sea 22 = .ok (.iload_n 2, 1) := by decide +kernel
theorem dX6_sea_23 : decode cX6_sea 23 = .ok (.bastore, 1) := by decide +kernel
theorem dX6_sea_24 : decode cX6_sea 24 = .ok (.iload_n 3, 1) := by decide +kernel
theorem dX6_sea_25 : decode cX6_sea 25 = .ok (.ireturn, 1) := by decide +kernel
set_option maxRecDepth 20000 in
theorem ggX6_noise_X6_needPlace : GoodIn wsX6_noise wsX6_needPlace := goodIn_ca (goodIn_r _ [5, 6, 7] (by decide +kernel) (by decide +kernel)) (goodIn_sub (fun _ h => List.mem_cons_of_mem _ (List.mem_append_left _ (List.mem_append_right _ h))) (by decide +kernel))
set_option maxRecDepth 20000 in
theorem gX6_noise_X6_needPlace : GoodIn wsX6_noise (va_wsS RX6 80 yX6_needPlace wsX6_needPlace) := goodIn_app (goodIn_of _ (by decide +kernel)) ggX6_noise_X6_needPlace
set_option maxRecDepth 20000 in
theorem ggX6_noise_X6_needRange : GoodIn wsX6_noise wsX6_needRange := goodIn_ca (goodIn_r _ [10, 11, 12] (by decide +kernel) (by decide +kernel)) (goodIn_sub (fun _ h => List.mem_cons_of_mem _ (List.mem_append_right _ h)) (by decide +kernel))
set_option maxRecDepth 20000 in
theorem gX6_noise_X6_needRange : GoodIn wsX6_noise (va_wsS RX6 59 yX6_needRange wsX6_needRange) := goodIn_app (goodIn_of _ (by decide +kernel)) ggX6_noise_X6_needRange
theorem dX6_noise_0 : decode cX6_noise 0 = .ok (.iload_n 1, 1) := by decide +kernel
theorem dX6_noise_1 : decode cX6_noise 1 = .ok (.invokestatic 80, 3) := by decide +kernel
theorem dX6_noise_4 : decode cX6_noise 4 = .ok (.iload_n 2, 1) := by decide +kernel
theorem dX6_noise_5 : decode cX6_noise 5 = .ok (.iconst 0, 1) := by decide +kernel
theorem dX6_noise_6 : decode cX6_noise 6 = .ok (.bipush 40, 2) := by decide +kernel
theorem dX6_noise_8 : decode cX6_noise 8 = .ok (.invokestatic 59, 3) := by decide +kernel
theorem dX6_noise_11 : decode cX6_noise 11 = .ok (.aload_n 0, 1) := by decide +kernel
theorem dX6_noise_12 : decode cX6_noise 12 = .ok (.getfield 22, 3) := by decide +kernel
theorem dX6_noise_15 : decode cX6_noise 15 = .ok (.getfield 90, 3) := by decide +kernel
theorem dX6_noise_18 : decode cX6_noise 18 = .ok (.iload_n 1, 1) := by decide +kernel
theorem dX6_noise_19 : decode cX6_noise 19 = .ok (.iaload, 1) := by decide +kernel
theorem dX6_noise_20 : decode cX6_noise 20 = .ok (.istore_n 3, 1) := by decide +kernel
theorem dX6_noise_21 : decode cX6_noise 21 = .ok (.aload_n 0, 1) := by decide +kernel
theorem dX6_noise_22 : decode cX6_noise 22 = .ok (.getfield 22, 3) := by decide +kernel
theorem dX6_noise_25 : decode cX6_noise 25 = .ok (.getfield 90, 3) := by decide +kernel
theorem dX6_noise_28 : decode cX6_noise 28 = .ok (.iload_n 1, 1) := by decide +kernel
theorem dX6_noise_29 : decode cX6_noise 29 = .ok (.iload_n 2, 1) := by decide +kernel
theorem dX6_noise_30 : decode cX6_noise 30 = .ok (.iastore, 1) := by decide +kernel
theorem dX6_noise_31 : decode cX6_noise 31 = .ok (.iload_n 3, 1) := by decide +kernel
theorem dX6_noise_32 : decode cX6_noise 32 = .ok (.ireturn, 1) := by decide +kernel
set_option maxRecDepth 20000 in
theorem ggX6_pass_X6_needRange : GoodIn wsX6_pass wsX6_needRange := goodIn_ca (goodIn_r _ [8, 9, 10] (by decide +kernel) (by decide +kernel)) (goodIn_sub (fun _ h => List.mem_cons_of_mem _ (List.mem_append_right _ h)) (by decide +kernel))
set_option maxRecDepth 20000 in
theorem gX6_pass_X6_needRange : GoodIn wsX6_pass (va_wsS RX6 59 yX6_needRange wsX6_needRange) := goodIn_app (goodIn_of _ (by decide +kernel)) ggX6_pass_X6_needRange
set_option maxRecDepth 20000 in
theorem ggX6_pass_X0_letGoBy : GoodIn wsX6_pass wsX0_letGoBy := goodIn_r _ [15, 16, 17, 18, 14, 19, 20, 21, 22, 23, 24, 25, 26, 27, 28, 29, 30, 31, 32, 33, 34, 35, 36, 7, 37, 38, 39, 40, 41, 52, 53, 54, 55, 56, 57, 58, 59] (by decide +kernel) (by decide +kernel)
set_option maxRecDepth 20000 in
theorem gX6_pass_X0_letGoBy : GoodIn wsX6_pass (wsV RX6 104 RX0 yX0_letGoBy wsX0_letGoBy) := goodIn_app (goodIn_of _ (by decide +kernel)) ggX6_pass_X0_letGoBy
theorem dX6_pass_0 : decode cX6_pass 0 = .ok (.iload_n 1, 1) := by decide +kernel
theorem dX6_pass_1 : decode cX6_pass 1 = .ok (.iconst 1, 1) := by decide +kernel
theorem dX6_pass_2 : decode cX6_pass 2 = .ok (.bipush 48, 2) := by decide +kernel
theorem dX6_pass_4 : decode cX6_pass 4 = .ok (.invokestatic 59, 3) := by decide +kernel
theorem dX6_pass_7 : decode cX6_pass 7 = .ok (.aload_n 0, 1) := by decide +kernel
theorem dX6_pass_8 : decode cX6_pass 8 = .ok (.getfield 12, 3) := by decide +kernel
theorem dX6_pass_11 : decode cX6_pass 11 = .ok (.getfield 94, 3) := by decide +kernel
theorem dX6_pass_14 : decode cX6_pass 14 = .ok (.iload_n 1, 1) := by decide +kernel
theorem dX6_pass_15 : decode cX6_pass 15 = .ok (.iadd, 1) := by decide +kernel
theorem dX6_pass_16 : decode cX6_pass 16 = .ok (.sipush 5000, 3) := by decide +kernel
theorem dX6_pass_19 : decode cX6_pass 19 = .ok (.if_icmp .le 13, 3) := by decide +kernel
theorem dX6_pass_22 : decode cX6_pass 22 = .ok (.new 97, 3) := by decide +kernel
theorem dX6_pass_25 : decode cX6_pass 25 = .ok (.dup, 1) := by decide +kernel
theorem dX6_pass_26 : decode cX6_pass 26 = .ok (.ldc 99, 2) := by decide +kernel
theorem dX6_pass_28 : decode cX6_pass 28 = .ok (.invokespecial 101, 3) := by decide +kernel
theorem dX6_pass_31 : decode cX6_pass 31 = .ok (.athrow, 1) := by decide +kernel
theorem dX6_pass_32 : decode cX6_pass 32 = .ok (.aload_n 0, 1) := by decide +kernel
theorem dX6_pass_33 : decode cX6_pass 33 = .ok (.getfield 12, 3) := by decide +kernel
theorem dX6_pass_36 : decode cX6_pass 36 = .ok (.iload_n 1, 1) := by decide +kernel
theorem dX6_pass_37 : decode cX6_pass 37 = .ok (.invokevirtual 104, 3) := by decide +kernel
theorem dX6_pass_40 : decode cX6_pass 40 = .ok (.aload_n 0, 1) := by decide +kernel
theorem dX6_pass_41 : decode cX6_pass 41 = .ok (.getfield 16, 3) := by decide +kernel
theorem dX6_pass_44 : decode cX6_pass 44 = .ok (.iload_n 1, 1) := by decide +kernel
theorem dX6_pass_45 : decode cX6_pass 45 = .ok (.invokevirtual 104, 3) := by decide +kernel
theorem dX6_pass_48 : decode cX6_pass 48 = .ok (.aload_n 0, 1) := by decide +kernel
theorem dX6_pass_49 : decode cX6_pass 49 = .ok (.getfield 12, 3) := by decide +kernel
theorem dX6_pass_52 : decode cX6_pass 52 = .ok (.getfield 94, 3) := by decide +kernel
theorem dX6_pass_55 : decode cX6_pass 55 = .ok (.ireturn, 1) := by decide +kernel
set_option maxRecDepth 20000 in
theorem ggX6_station_X6_needPlace : GoodIn wsX6_station wsX6_needPlace := goodIn_ca (goodIn_r _ [7, 8, 9] (by decide +kernel) (by decide +kernel)) (goodIn_sub (fun _ h => List.mem_cons_of_mem _ (List.mem_append_left _ (List.mem_append_right _ h))) (by decide +kernel))
set_option maxRecDepth 20000 in
theorem gX6_station_X6_needPlace : GoodIn wsX6_station (va_wsS RX6 80 yX6_needPlace wsX6_needPlace) := goodIn_app (goodIn_of _ (by decide +kernel)) ggX6_station_X6_needPlace
set_option maxRecDepth 20000 in
theorem ggX6_station_X6_needRange : GoodIn wsX6_station wsX6_needRange := goodIn_ca (goodIn_r _ [12, 13, 14] (by decide +kernel) (by decide +kernel)) (goodIn_sub (fun _ h => List.mem_cons_of_mem _ (List.mem_append_right _ h)) (by decide +kernel))
set_option maxRecDepth 20000 in
theorem gX6_station_X6_needRange : GoodIn wsX6_station (va_wsS RX6 59 yX6_needRange wsX6_needRange) := goodIn_app (goodIn_of _ (by decide +kernel)) ggX6_station_X6_needRange
set_option maxRecDepth 20000 in
theorem ggX6_station_X5_isFull : GoodIn wsX6_station wsX5_isFull := goodIn_r _ [19, 20, 21, 40, 41, 42, 43, 44, 45] (by decide +kernel) (by decide +kernel)
set_option maxRecDepth 20000 in
theorem gX6_station_X5_isFull : GoodIn wsX6_station (wsV RX6 107 RX5 yX5_isFull wsX5_isFull) := goodIn_app (goodIn_of _ (by decide +kernel)) ggX6_station_X5_isFull
set_option maxRecDepth 20000 in
theorem ggX6_station_X5_add : GoodIn wsX6_station wsX5_add := goodIn_r _ [25, 20, 21, 26, 27, 28, 29, 40, 41, 42, 43, 44, 45] (by decide +kernel) (by decide +kernel)
set_option maxRecDepth 20000 in
theorem gX6_station_X5_add : GoodIn wsX6_station (wsV RX6 113 RX5 yX5_add wsX5_add) := goodIn_app (goodIn_of _ (by decide +kernel)) ggX6_station_X5_add
theorem dX6_station_0 : decode cX6_station 0 = .ok (.iload_n 1, 1) := by decide +kernel
theorem dX6_station_1 : decode cX6_station 1 = .ok (.invokestatic 80, 3) := by decide +kernel
theorem dX6_station_4 : decode cX6_station 4 = .ok (.iload_n 2, 1) := by decide +kernel
theorem dX6_station_5 : decode cX6_station 5 = .ok (.iconst 1, 1) := by decide +kernel
theorem dX6_station_6 : decode cX6_station 6 = .ok (.bipush 80, 2) := by decide +kernel
theorem dX6_station_8 : decode cX6_station 8 = .ok (.invokestatic 59, 3) := by decide +kernel
theorem dX6_station_11 : decode cX6_station 11 = .ok (.iload_n 3, 1) := by decide +kernel
theorem dX6_station_12 : decode cX6_station 12 = .ok (.iconst 0, 1) := by decide +kernel
theorem dX6_station_13 : decode cX6_station 13 = .ok (.iconst 2, 1) := by decide +kernel
theorem dX6_station_14 : decode cX6_station 14 = .ok (.invokestatic 59, 3) := by decide +kernel
theorem dX6_station_17 : decode cX6_station 17 = .ok (.iload 4, 2) := by decide +kernel
theorem dX6_station_19 : decode cX6_station 19 = .ok (.iconst 0, 1) := by decide +kernel
theorem dX6_station_20 : decode cX6_station 20 = .ok (.iconst 2, 1) := by decide +kernel
theorem dX6_station_21 : decode cX6_station 21 = .ok (.invokestatic 59, 3) := by decide +kernel
theorem dX6_station_24 : decode cX6_station 24 = .ok (.aload_n 0, 1) := by decide +kernel
theorem dX6_station_25 : decode cX6_station 25 = .ok (.getfield 38, 3) := by decide +kernel
theorem dX6_station_28 : decode cX6_station 28 = .ok (.invokevirtual 107, 3) := by decide +kernel
theorem dX6_station_31 : decode cX6_station 31 = .ok (.ifCond .eq 13, 3) := by decide +kernel
theorem dX6_station_34 : decode cX6_station 34 = .ok (.new 97, 3) := by decide +kernel
theorem dX6_station_37 : decode cX6_station 37 = .ok (.dup, 1) := by decide +kernel
theorem dX6_station_38 : decode cX6_station 38 = .ok (.ldc 111, 2) := by decide +kernel
theorem dX6_station_40 : decode cX6_station 40 = .ok (.invokespecial 101, 3) := by decide +kernel
theorem dX6_station_43 : decode cX6_station 43 = .ok (.athrow, 1) := by decide +kernel
theorem dX6_station_44 : decode cX6_station 44 = .ok (.aload_n 0, 1) := by decide +kernel
theorem dX6_station_45 : decode cX6_station 45 = .ok (.getfield 38, 3) := by decide +kernel
theorem dX6_station_48 : decode cX6_station 48 = .ok (.iload_n 1, 1) := by decide +kernel
theorem dX6_station_49 : decode cX6_station 49 = .ok (.iload_n 2, 1) := by decide +kernel
theorem dX6_station_50 : decode cX6_station 50 = .ok (.iload_n 3, 1) := by decide +kernel
theorem dX6_station_51 : decode cX6_station 51 = .ok (.iload 4, 2) := by decide +kernel
theorem dX6_station_53 : decode cX6_station 53 = .ok (.iconst (-1), 1) := by decide +kernel
theorem dX6_station_54 : decode cX6_station 54 = .ok (.invokevirtual 113, 3) := by decide +kernel
theorem dX6_station_57 : decode cX6_station 57 = .ok (.ireturn, 1) := by decide +kernel
set_option maxRecDepth 20000 in
theorem ggX6_beacon_X6_needPlace : GoodIn wsX6_beacon wsX6_needPlace := goodIn_ca (goodIn_r _ [7, 8, 9] (by decide +kernel) (by decide +kernel)) (goodIn_sub (fun _ h => List.mem_cons_of_mem _ (List.mem_append_left _ (List.mem_append_right _ h))) (by decide +kernel))
set_option maxRecDepth 20000 in
theorem gX6_beacon_X6_needPlace : GoodIn wsX6_beacon (va_wsS RX6 80 yX6_needPlace wsX6_needPlace) := goodIn_app (goodIn_of _ (by decide +kernel)) ggX6_beacon_X6_needPlace
set_option maxRecDepth 20000 in
theorem ggX6_beacon_X6_needFrequency : GoodIn wsX6_beacon wsX6_needFrequency := goodIn_ca (goodIn_r _ [12, 13, 14, 6, 15, 16, 17] (by decide +kernel) (by decide +kernel)) (goodIn_sub (fun _ h => List.mem_cons_of_mem _ (List.mem_append_right _ h)) (by decide +kernel))
set_option maxRecDepth 20000 in
theorem gX6_beacon_X6_needFrequency : GoodIn wsX6_beacon (va_wsS RX6 117 yX6_needFrequency wsX6_needFrequency) := goodIn_app (goodIn_of _ (by decide +kernel)) ggX6_beacon_X6_needFrequency
set_option maxRecDepth 20000 in
theorem ggX6_beacon_X6_needRange : GoodIn wsX6_beacon wsX6_needRange := goodIn_ca (goodIn_r _ [15, 16, 17] (by decide +kernel) (by decide +kernel)) (goodIn_sub (fun _ h => List.mem_cons_of_mem _ (List.mem_append_right _ h)) (by decide +kernel))
set_option maxRecDepth 20000 in
theorem gX6_beacon_X6_needRange : GoodIn wsX6_beacon (va_wsS RX6 59 yX6_needRange wsX6_needRange) := goodIn_app (goodIn_of _ (by decide +kernel)) ggX6_beacon_X6_needRange
set_option maxRecDepth 20000 in
theorem ggX6_beacon_X5_isFull : GoodIn wsX6_beacon wsX5_isFull := goodIn_r _ [22, 23, 24, 43, 44, 45, 46, 47, 48] (by decide +kernel) (by decide +kernel)
set_option maxRecDepth 20000 in
theorem gX6_beacon_X5_isFull : GoodIn wsX6_beacon (wsV RX6 107 RX5 yX5_isFull wsX5_isFull) := goodIn_app (goodIn_of _ (by decide +kernel)) ggX6_beacon_X5_isFull
set_option maxRecDepth 20000 in
theorem ggX6_beacon_X5_add : GoodIn wsX6_beacon wsX5_add := goodIn_r _ [28, 23, 24, 29, 30, 31, 32, 43, 44, 45, 46, 47, 48] (by decide +kernel) (by decide +kernel)
set_option maxRecDepth 20000 in
theorem gX6_beacon_X5_add : GoodIn wsX6_beacon (wsV RX6 113 RX5 yX5_add wsX5_add) := goodIn_app (goodIn_of _ (by decide +kernel)) ggX6_beacon_X5_add
theorem dX6_beacon_0 : decode cX6_beacon 0 = .ok (.iload_n 1, 1) := by decide +kernel
theorem dX6_beacon_1 : decode cX6_beacon 1 = .ok (.invokestatic 80, 3) := by decide +kernel
theorem dX6_beacon_4 : decode cX6_beacon 4 = .ok (.iload_n 2, 1) := by decide +kernel
theorem dX6_beacon_5 : decode cX6_beacon 5 = .ok (.invokestatic 117, 3) := by decide +kernel
theorem dX6_beacon_8 : decode cX6_beacon 8 = .ok (.iload_n 3, 1) := by decide +kernel
theorem dX6_beacon_9 : decode cX6_beacon 9 = .ok (.iconst 1, 1) := by decide +kernel
theorem dX6_beacon_10 : decode cX6_beacon 10 = .ok (.bipush 80, 2) := by decide +kernel
theorem dX6_beacon_12 : decode cX6_beacon 12 = .ok (.invokestatic 59, 3) := by decide +kernel
theorem dX6_beacon_15 : decode cX6_beacon 15 = .ok (.aload_n 0, 1) := by decide +kernel
theorem dX6_beacon_16 : decode cX6_beacon 16 = .ok (.getfield 42, 3) := by decide +kernel
theorem dX6_beacon_19 : decode cX6_beacon 19 = .ok (.invokevirtual 107, 3) := by decide +kernel
theorem dX6_beacon_22 : decode cX6_beacon 22 = .ok (.ifCond .eq 13, 3) := by decide +kernel
theorem dX6_beacon_25 : decode cX6_beacon 25 = .ok (.new 97, 3) := by decide +kernel
theorem dX6_beacon_28 : decode cX6_beacon 28 = .ok (.dup, 1) := by decide +kernel
theorem dX6_beacon_29 : decode cX6_beacon 29 = .ok (.ldc 120, 2) := by decide +kernel
theorem dX6_beacon_31 : decode cX6_beacon 31 = .ok (.invokespecial 101, 3) := by decide +kernel
theorem dX6_beacon_34 : decode cX6_beacon 34 = .ok (.athrow, 1) := by decide +kernel
theorem dX6_beacon_35 : decode cX6_beacon 35 = .ok (.aload_n 0, 1) := by decide +kernel
theorem dX6_beacon_36 : decode cX6_beacon 36 = .ok (.getfield 42, 3) := by decide +kernel
theorem dX6_beacon_39 : decode cX6_beacon 39 = .ok (.iload_n 1, 1) := by decide +kernel
theorem dX6_beacon_40 : decode cX6_beacon 40 = .ok (.iload_n 3, 1) := by decide +kernel
theorem dX6_beacon_41 : decode cX6_beacon 41 = .ok (.iconst 2, 1) := by decide +kernel
theorem dX6_beacon_42 : decode cX6_beacon 42 = .ok (.iconst 2, 1) := by decide +kernel
theorem dX6_beacon_43 : decode cX6_beacon 43 = .ok (.iload_n 2, 1) := by decide +kernel
theorem dX6_beacon_44 : decode cX6_beacon 44 = .ok (.invokevirtual 113, 3) := by decide +kernel
theorem dX6_beacon_47 : decode cX6_beacon 47 = .ok (.ireturn, 1) := by decide +kernel
set_option maxRecDepth 20000 in
theorem ggX6_call_X6_needStation : GoodIn wsX6_call wsX6_needStation := goodIn_ca (goodIn_r _ [9, 10, 11, 12, 13, 14, 15, 16, 17, 18, 130, 131, 132, 133, 134, 135, 136, 137, 138, 139, 148, 149, 150, 151, 152, 153] (by decide +kernel) (by decide +kernel)) (goodIn_sub (fun _ h => List.mem_cons_of_mem _ (List.mem_append_left _ (List.mem_append_right _ h))) (by decide +kernel))
set_option maxRecDepth 20000 in
theorem gX6_call_X6_needStation : GoodIn wsX6_call (wsV RX6 122 RX6 yX6_needStation wsX6_needStation) := goodIn_app (goodIn_of _ (by decide +kernel)) ggX6_call_X6_needStation
set_option maxRecDepth 20000 in
theorem ggX6_call_X6_needFrequency : GoodIn wsX6_call wsX6_needFrequency := goodIn_ca (goodIn_r _ [21, 22, 23, 8, 24, 25, 26] (by decide +kernel) (by decide +kernel)) (goodIn_sub (fun _ h => List.mem_cons_of_mem _ (List.mem_append_right _ h)) (by decide +kernel))
set_option maxRecDepth 20000 in
theorem gX6_call_X6_needFrequency : GoodIn wsX6_call (va_wsS RX6 117 yX6_needFrequency wsX6_needFrequency) := goodIn_app (goodIn_of _ (by decide +kernel)) ggX6_call_X6_needFrequency
set_option maxRecDepth 20000 in
theorem ggX6_call_X6_needRange : GoodIn wsX6_call wsX6_needRange := goodIn_ca (goodIn_r _ [24, 25, 26] (by decide +kernel) (by decide +kernel)) (goodIn_sub (fun _ h => List.mem_cons_of_mem _ (List.mem_append_right _ h)) (by decide +kernel))
set_option maxRecDepth 20000 in
theorem gX6_call_X6_needRange : GoodIn wsX6_call (va_wsS RX6 59 yX6_needRange wsX6_needRange) := goodIn_app (goodIn_of _ (by decide +kernel)) ggX6_call_X6_needRange
set_option maxRecDepth 20000 in
theorem ggX6_call_X6_needDifferent : GoodIn wsX6_call wsX6_needDifferent := goodIn_ca (goodIn_r _ [29, 25, 26] (by decide +kernel) (by decide +kernel)) (goodIn_sub (fun _ h => List.mem_cons_of_mem _ (List.mem_append_right _ h)) (by decide +kernel))
set_option maxRecDepth 20000 in
theorem gX6_call_X6_needDifferent : GoodIn wsX6_call (va_wsS RX6 125 yX6_needDifferent wsX6_needDifferent) := goodIn_app (goodIn_of _ (by decide +kernel)) ggX6_call_X6_needDifferent
set_option maxRecDepth 20000 in
theorem ggX6_call_X1_isFull : GoodIn wsX6_call wsX1_isFull := goodIn_r _ [34, 35, 154, 155, 156, 157, 158, 159] (by decide +kernel) (by decide +kernel)
set_option maxRecDepth 20000 in
theorem gX6_call_X1_isFull : GoodIn wsX6_call (wsV RX6 128 RX1 yX1_isFull wsX1_isFull) := goodIn_app (goodIn_of _ (by decide +kernel)) ggX6_call_X1_isFull
set_option maxRecDepth 20000 in
theorem ggX6_call_X6_neededFor : GoodIn wsX6_call wsX6_neededFor := goodIn_r _ [38] (by decide +kernel) (by decide +kernel)
set_option maxRecDepth 20000 in
theorem gX6_call_X6_neededFor : GoodIn wsX6_call (va_wsS RX6 131 yX6_neededFor wsX6_neededFor) := goodIn_app (goodIn_of _ (by decide +kernel)) ggX6_call_X6_neededFor
set_option maxRecDepth 20000 in
theorem ggX6_call_X6_signalBetween : GoodIn wsX6_call wsX6_signalBetween := goodIn_r _ [42, 4, 12, 43, 44, 45, 8, 46, 47, 48, 49, 50, 51, 52, 53, 54, 55, 56, 57, 58, 59, 60, 16, 61, 62, 63, 64, 65, 66, 67, 68, 69, 70, 71, 72, 73, 74, 75, 76, 77, 78, 79, 80, 81, 82, 83, 84, 85, 86, 87, 88, 89, 90, 91, 92, 93, 94, 95, 96, 97, 98, 99, 100, 101, 102, 103, 104, 105, 106, 107, 108, 109, 110, 111, 112, 113, 114, 115, 116, 117, 118, 119, 120, 130, 131, 132, 133, 134, 135, 136, 137, 138, 139, 148, 149, 150, 151, 152, 153, 160, 161, 162, 163, 164, 165, 166, 167, 140, 141, 142, 143, 144, 145, 146, 147, 168, 169] (by decide +kernel) (by decide +kernel)
set_option maxRecDepth 20000 in
theorem gX6_call_X6_signalBetween : GoodIn wsX6_call (wsV RX6 135 RX6 yX6_signalBetween wsX6_signalBetween) := goodIn_app (goodIn_of _ (by decide +kernel)) ggX6_call_X6_signalBetween
set_option maxRecDepth 20000 in
theorem ggX6_call_X1_add : GoodIn wsX6_call wsX1_add := goodIn_r _ [124, 125, 35, 126, 127, 128, 129, 154, 155, 156, 157, 158, 159] (by decide +kernel) (by decide +kernel)
set_option maxRecDepth 20000 in
theorem gX6_call_X1_add : GoodIn wsX6_call (wsV RX6 139 RX1 yX1_add wsX1_add) := goodIn_app (goodIn_of _ (by decide +kernel)) ggX6_call_X1_add
theorem dX6_call_0 : decode cX6_call 0 = .ok (.aload_n 0, 1) := by decide +kernel
theorem dX6_call_1 : decode cX6_call 1 = .ok (.iload_n 1, 1) := by decide +kernel
theorem dX6_call_2 : decode cX6_call 2 = .ok (.invokevirtual 122, 3) := by decide +kernel
theorem dX6_call_5 : decode cX6_call 5 = .ok (.aload_n 0, 1) := by decide +kernel
theorem dX6_call_6 : decode cX6_call 6 = .ok (.iload_n 2, 1) := by decide +kernel
theorem dX6_call_7 : decode cX6_call 7 = .ok (.invokevirtual 122, 3) := by decide +kernel
theorem dX6_call_10 : decode cX6_call 10 = .ok (.iload_n 3, 1) := by decide +kernel
theorem dX6_call_11 : decode cX6_call 11 = .ok (.invokestatic 117, 3) := by decide +kernel
theorem dX6_call_14 : decode cX6_call 14 = .ok (.iload 4, 2) := by decide +kernel
theorem dX6_call_16 : decode cX6_call 16 = .ok (.iconst 0, 1) := by decide +kernel
theorem dX6_call_17 : decode cX6_call 17 = .ok (.iconst 2, 1) := by decide +kernel
theorem dX6_call_18 : decode cX6_call 18 = .ok (.invokestatic 59, 3) := by decide +kernel
theorem dX6_call_21 : decode cX6_call 21 = .ok (.iload_n 1, 1) := by decide +kernel
theorem dX6_call_22 : decode cX6_call 22 = .ok (.iload_n 2, 1) := by decide +kernel
theorem dX6_call_23 : decode cX6_call 23 = .ok (.invokestatic 125, 3) := by decide +kernel
theorem dX6_call_26 : decode cX6_call 26 = .ok (.aload_n 0, 1) := by decide +kernel
theorem dX6_call_27 : decode cX6_call 27 = .ok (.getfield 48, 3) := by decide +kernel
theorem dX6_call_30 : decode cX6_call 30 = .ok (.invokevirtual 128, 3) := by decide +kernel
theorem dX6_call_33 : decode cX6_call 33 = .ok (.ifCond .eq 13, 3) := by decide +kernel
theorem dX6_call_36 : decode cX6_call 36 = .ok (.new 97, 3) := by decide +kernel
theorem dX6_call_39 : decode cX6_call 39 = .ok (.dup, 1) := by decide +kernel
theorem dX6_call_40 : decode cX6_call 40 = .ok (.ldc 129, 2) := by decide +kernel
theorem dX6_call_42 : decode cX6_call 42 = .ok (.invokespecial 101, 3) := by decide +kernel
theorem dX6_call_45 : decode cX6_call 45 = .ok (.athrow, 1) := by decide +kernel
theorem dX6_call_46 : decode cX6_call 46 = .ok (.iload 4, 2) := by decide +kernel
theorem dX6_call_48 : decode cX6_call 48 = .ok (.invokestatic 131, 3) := by decide +kernel
theorem dX6_call_51 : decode cX6_call 51 = .ok (.istore 5, 2) := by decide +kernel
theorem dX6_call_53 : decode cX6_call 53 = .ok (.aload_n 0, 1) := by decide +kernel
theorem dX6_call_54 : decode cX6_call 54 = .ok (.iload_n 1, 1) := by decide +kernel
theorem dX6_call_55 : decode cX6_call 55 = .ok (.iload_n 2, 1) := by decide +kernel
theorem dX6_call_56 : decode cX6_call 56 = .ok (.iload_n 3, 1) := by decide +kernel
theorem dX6_call_57 : decode cX6_call 57 = .ok (.invokevirtual 135, 3) := by decide +kernel
theorem dX6_call_60 : decode cX6_call 60 = .ok (.iload 5, 2) := by decide +kernel
theorem dX6_call_62 : decode cX6_call 62 = .ok (.if_icmp .lt 15, 3) := by decide +kernel
theorem dX6_call_65 : decode cX6_call 65 = .ok (.aload_n 0, 1) := by decide +kernel
theorem dX6_call_66 : decode cX6_call 66 = .ok (.iload_n 2, 1) := by decide +kernel
theorem dX6_call_67 : decode cX6_call 67 = .ok (.iload_n 1, 1) := by decide +kernel
theorem dX6_call_68 : decode cX6_call 68 = .ok (.iload_n 3, 1) := by decide +kernel
theorem dX6_call_69 : decode cX6_call 69 = .ok (.invokevirtual 135, 3) := by decide +kernel
theorem dX6_call_72 : decode cX6_call 72 = .ok (.iload 5, 2) := by decide +kernel
theorem dX6_call_74 : decode cX6_call 74 = .ok (.if_icmp .ge 5, 3) := by decide +kernel
theorem dX6_call_77 : decode cX6_call 77 = .ok (.iconst 0, 1) := by decide +kernel
theorem dX6_call_78 : decode cX6_call 78 = .ok (.ireturn, 1) := by decide +kernel
theorem dX6_call_79 : decode cX6_call 79 = .ok (.aload_n 0, 1) := by decide +kernel
theorem dX6_call_80 : decode cX6_call 80 = .ok (.getfield 48, 3) := by decide +kernel
theorem dX6_call_83 : decode cX6_call 83 = .ok (.iload_n 1, 1) := by decide +kernel
theorem dX6_call_84 : decode cX6_call 84 = .ok (.iload_n 2, 1) := by decide +kernel
theorem dX6_call_85 : decode cX6_call 85 = .ok (.iload_n 3, 1) := by decide +kernel
theorem dX6_call_86 : decode cX6_call 86 = .ok (.iload 4, 2) := by decide +kernel
theorem dX6_call_88 : decode cX6_call 88 = .ok (.aload_n 0, 1) := by decide +kernel
theorem dX6_call_89 : decode cX6_call 89 = .ok (.getfield 12, 3) := by decide +kernel
theorem dX6_call_92 : decode cX6_call 92 = .ok (.getfield 94, 3) := by decide +kernel
theorem dX6_call_95 : decode cX6_call 95 = .ok (.invokevirtual 139, 3) := by decide +kernel
theorem dX6_call_98 : decode cX6_call 98 = .ok (.iconst 1, 1) := by decide +kernel
theorem dX6_call_99 : decode cX6_call 99 = .ok (.ireturn, 1) := by decide +kernel
set_option maxRecDepth 20000 in
theorem ggX6_log_X6_needStation : GoodIn wsX6_log wsX6_needStation := goodIn_ca (goodIn_r _ [9, 10, 11, 12, 13, 14, 15, 16, 17, 18, 50, 51, 52, 53, 54, 55, 56, 57, 58, 59, 68, 69, 70, 71, 72, 73] (by decide +kernel) (by decide +kernel)) (goodIn_sub (fun _ h => List.mem_cons_of_mem _ (List.mem_append_left _ (List.mem_append_right _ h))) (by decide +kernel))
set_option maxRecDepth 20000 in
theorem gX6_log_X6_needStation : GoodIn wsX6_log (wsV RX6 122 RX6 yX6_needStation wsX6_needStation) := goodIn_app (goodIn_of _ (by decide +kernel)) ggX6_log_X6_needStation
set_option maxRecDepth 20000 in
theorem ggX6_log_X6_needFrequency : GoodIn wsX6_log wsX6_needFrequency := goodIn_ca (goodIn_r _ [21, 22, 23, 8, 24, 25, 26] (by decide +kernel) (by decide +kernel)) (goodIn_sub (fun _ h => List.mem_cons_of_mem _ (List.mem_append_right _ h)) (by decide +kernel))
set_option maxRecDepth 20000 in
theorem gX6_log_X6_needFrequency : GoodIn wsX6_log (va_wsS RX6 117 yX6_needFrequency wsX6_needFrequency) := goodIn_app (goodIn_of _ (by decide +kernel)) ggX6_log_X6_needFrequency
set_option maxRecDepth 20000 in
theorem ggX6_log_X6_needDifferent : GoodIn wsX6_log wsX6_needDifferent := goodIn_ca (goodIn_r _ [29, 25, 26] (by decide +kernel) (by decide +kernel)) (goodIn_sub (fun _ h => List.mem_cons_of_mem _ (List.mem_append_right _ h)) (by decide +kernel))
set_option maxRecDepth 20000 in
theorem gX6_log_X6_needDifferent : GoodIn wsX6_log (va_wsS RX6 125 yX6_needDifferent wsX6_needDifferent) := goodIn_app (goodIn_of _ (by decide +kernel)) ggX6_log_X6_needDifferent
set_option maxRecDepth 20000 in
theorem ggX6_log_X2_isFull : GoodIn wsX6_log wsX2_isFull := goodIn_r _ [34, 35, 74, 75, 76, 77, 78, 79, 80] (by decide +kernel) (by decide +kernel)
set_option maxRecDepth 20000 in
theorem gX6_log_X2_isFull : GoodIn wsX6_log (wsV RX6 142 RX2 yX2_isFull wsX2_isFull) := goodIn_app (goodIn_of _ (by decide +kernel)) ggX6_log_X2_isFull
set_option maxRecDepth 20000 in
theorem ggX6_log_X2_add : GoodIn wsX6_log wsX2_add := goodIn_r _ [39, 35, 40, 41, 42, 43, 44, 45, 46, 47, 48, 33, 49, 74, 75, 76, 77, 78, 79, 80] (by decide +kernel) (by decide +kernel)
set_option maxRecDepth 20000 in
theorem gX6_log_X2_add : GoodIn wsX6_log (wsV RX6 145 RX2 yX2_add wsX2_add) := goodIn_app (goodIn_of _ (by decide +kernel)) ggX6_log_X2_add
theorem dX6_log_0 : decode cX6_log 0 = .ok (.aload_n 0, 1) := by decide +kernel
theorem dX6_log_1 : decode cX6_log 1 = .ok (.iload_n 1, 1) := by decide +kernel
theorem dX6_log_2 : decode cX6_log 2 = .ok (.invokevirtual 122, 3) := by decide +kernel
theorem dX6_log_5 : decode cX6_log 5 = .ok (.aload_n 0, 1) := by decide +kernel
theorem dX6_log_6 : decode cX6_log 6 = .ok (.iload_n 2, 1) := by decide +kernel
theorem dX6_log_7 : decode cX6_log 7 = .ok (.invokevirtual 122, 3) := by decide +kernel
theorem dX6_log_10 : decode cX6_log 10 = .ok (.iload_n 3, 1) := by decide +kernel
theorem dX6_log_11 : decode cX6_log 11 = .ok (.invokestatic 117, 3) := by decide +kernel
theorem dX6_log_14 : decode cX6_log 14 = .ok (.iload_n 1, 1) := by decide +kernel
theorem dX6_log_15 : decode cX6_log 15 = .ok (.iload_n 2, 1) := by decide +kernel
theorem dX6_log_16 : decode cX6_log 16 = .ok (.invokestatic 125, 3) := by decide +kernel
theorem dX6_log_19 : decode cX6_log 19 = .ok (.aload_n 0, 1) := by decide +kernel
theorem dX6_log_20 : decode cX6_log 20 = .ok (.getfield 55, 3) := by decide +kernel
theorem dX6_log_23 : decode cX6_log 23 = .ok (.invokevirtual 142, 3) := by decide +kernel
theorem dX6_log_26 : decode cX6_log 26 = .ok (.ifCond .eq 13, 3) := by decide +kernel
theorem dX6_log_29 : decode cX6_log 29 = .ok (.new 97, 3) := by decide +kernel
theorem dX6_log_32 : decode cX6_log 32 = .ok (.dup, 1) := by decide +kernel
theorem dX6_log_33 : decode cX6_log 33 = .ok (.ldc 143, 2) := by decide +kernel
theorem dX6_log_35 : decode cX6_log 35 = .ok (.invokespecial 101, 3) := by decide +kernel
theorem dX6_log_38 : decode cX6_log 38 = .ok (.athrow, 1) := by decide +kernel
theorem dX6_log_39 : decode cX6_log 39 = .ok (.aload_n 0, 1) := by decide +kernel
theorem dX6_log_40 : decode cX6_log 40 = .ok (.getfield 55, 3) := by decide +kernel
theorem dX6_log_43 : decode cX6_log 43 = .ok (.iload_n 1, 1) := by decide +kernel
theorem dX6_log_44 : decode cX6_log 44 = .ok (.iload_n 2, 1) := by decide +kernel
theorem dX6_log_45 : decode cX6_log 45 = .ok (.iload_n 3, 1) := by decide +kernel
theorem dX6_log_46 : decode cX6_log 46 = .ok (.aload_n 0, 1) := by decide +kernel
theorem dX6_log_47 : decode cX6_log 47 = .ok (.getfield 12, 3) := by decide +kernel
theorem dX6_log_50 : decode cX6_log 50 = .ok (.getfield 94, 3) := by decide +kernel
theorem dX6_log_53 : decode cX6_log 53 = .ok (.invokevirtual 145, 3) := by decide +kernel
theorem dX6_log_56 : decode cX6_log 56 = .ok (.ireturn, 1) := by decide +kernel
set_option maxRecDepth 20000 in
theorem ggX6_listen_X6_needPlace : GoodIn wsX6_listen wsX6_needPlace := goodIn_ca (goodIn_r _ [9, 10, 11] (by decide +kernel) (by decide +kernel)) (goodIn_sub (fun _ h => List.mem_cons_of_mem _ (List.mem_append_right _ h)) (by decide +kernel))
set_option maxRecDepth 20000 in
theorem gX6_listen_X6_needPlace : GoodIn wsX6_listen (va_wsS RX6 80 yX6_needPlace wsX6_needPlace) := goodIn_app (goodIn_of _ (by decide +kernel)) ggX6_listen_X6_needPlace
set_option maxRecDepth 20000 in
theorem ggX6_listen_X6_signalAt : GoodIn wsX6_listen wsX6_signalAt := goodIn_r _ [15, 16, 17, 18, 19, 20, 21, 22, 8, 23, 24, 25, 26, 27, 28, 29, 30, 31, 32, 33, 34, 35, 36, 37, 38, 39, 40, 41, 42, 43, 44, 45, 46, 47, 48, 49, 50, 51, 52, 53, 54, 55, 56, 57, 58, 59, 60, 61, 62, 63, 64, 65, 66, 67, 68, 69, 70, 71, 72, 73, 74, 75, 76, 77, 78, 79, 80, 81, 82, 83, 84, 2, 85, 86, 87, 88, 89, 90, 101, 102, 103, 104, 105, 106, 91, 92, 93, 94, 95, 96, 97, 98, 99, 100, 107, 108, 109, 110, 111, 112, 113, 114, 115, 116, 117, 118, 119, 120, 121, 122, 123, 124] (by decide +kernel) (by decide +kernel)
set_option maxRecDepth 20000 in
theorem gX6_listen_X6_signalAt : GoodIn wsX6_listen (wsV RX6 154 RX6 yX6_signalAt wsX6_signalAt) := goodIn_app (goodIn_of _ (by decide +kernel)) ggX6_listen_X6_signalAt
theorem dX6_listen_0 : decode cX6_listen 0 = .ok (.iload_n 1, 1) := by decide +kernel
theorem dX6_listen_1 : decode cX6_listen 1 = .ok (.invokestatic 80, 3) := by decide +kernel
theorem dX6_listen_4 : decode cX6_listen 4 = .ok (.iconst 0, 1) := by decide +kernel
theorem dX6_listen_5 : decode cX6_listen 5 = .ok (.istore_n 2, 1) := by decide +kernel
theorem dX6_listen_6 : decode cX6_listen 6 = .ok (.iconst 0, 1) := by decide +kernel
theorem dX6_listen_7 : decode cX6_listen 7 = .ok (.istore_n 3, 1) := by decide +kernel
theorem dX6_listen_8 : decode cX6_listen 8 = .ok (.iload_n 3, 1) := by decide +kernel
theorem dX6_listen_9 : decode cX6_listen 9 = .ok (.aload_n 0, 1) := by decide +kernel
theorem dX6_listen_10 : decode cX6_listen 10 = .ok (.getfield 42, 3) := by decide +kernel
theorem dX6_listen_13 : decode cX6_listen 13 = .ok (.getfield 148, 3) := by decide +kernel
theorem dX6_listen_16 : decode cX6_listen 16 = .ok (.if_icmp .ge 110, 3) := by decide +kernel
theorem dX6_listen_19 : decode cX6_listen 19 = .ok (.aload_n 0, 1) := by decide +kernel
theorem dX6_listen_20 : decode cX6_listen 20 = .ok (.getfield 42, 3) := by decide +kernel
theorem dX6_listen_23 : decode cX6_listen 23 = .ok (.getfield 151, 3) := by decide +kernel
theorem dX6_listen_26 : decode cX6_listen 26 = .ok (.iload_n 3, 1) := by decide +kernel
theorem dX6_listen_27 : decode cX6_listen 27 = .ok (.iaload, 1) := by decide +kernel
theorem dX6_listen_28 : decode cX6_listen 28 = .ok (.istore 4, 2) := by decide +kernel
theorem dX6_listen_30 : decode cX6_listen 30 = .ok (.aload_n 0, 1) := by decide +kernel
theorem dX6_listen_31 : decode cX6_listen 31 = .ok (.aload_n 0, 1) := by decide +kernel
theorem dX6_listen_32 : decode cX6_listen 32 = .ok (.getfield 12, 3) := by decide +kernel
theorem dX6_listen_35 : decode cX6_listen 35 = .ok (.aload_n 0, 1) := by decide +kernel
theorem dX6_listen_36 : decode cX6_listen 36 = .ok (.getfield 42, 3) := by decide +kernel
theorem dX6_listen_39 : decode cX6_listen 39 = .ok (.iload_n 3, 1) := by decide +kernel
theorem dX6_listen_40 : decode cX6_listen 40 = .ok (.iload 4, 2) := by decide +kernel
theorem dX6_listen_42 : decode cX6_listen 42 = .ok (.iload_n 1, 1) := by decide +kernel
theorem dX6_listen_43 : decode cX6_listen 43 = .ok (.invokevirtual 154, 3) := by decide +kernel
theorem dX6_listen_46 : decode cX6_listen 46 = .ok (.ifCond .lt 7, 3) := by decide +kernel
theorem dX6_listen_49 : decode cX6_listen 49 = .ok (.iconst 1, 1) := by decide +kernel
theorem dX6_listen_50 : decode cX6_listen 50 = .ok (.goto 4, 3) := by decide +kernel
theorem dX6_listen_53 : decode cX6_listen 53 = .ok (.iconst 0, 1) := by decide +kernel
theorem dX6_listen_54 : decode cX6_listen 54 = .ok (.istore 5, 2) := by decide +kernel
theorem dX6_listen_56 : decode cX6_listen 56 = .ok (.aload_n 0, 1) := by decide +kernel
theorem dX6_listen_57 : decode cX6_listen 57 = .ok (.aload_n 0, 1) := by decide +kernel
theorem dX6_listen_58 : decode cX6_listen 58 = .ok (.getfield 16, 3) := by decide +kernel
theorem dX6_listen_61 : decode cX6_listen 61 = .ok (.aload_n 0, 1) := by decide +kernel
theorem dX6_listen_62 : decode cX6_listen 62 = .ok (.getfield 42, 3) := by decide +kernel
theorem dX6_listen_65 : decode cX6_listen 65 = .ok (.iload_n 3, 1) := by decide +kernel
theorem dX6_listen_66 : decode cX6_listen 66 = .ok (.iload 4, 2) := by decide +kernel
theorem dX6_listen_68 : decode cX6_listen 68 = .ok (.iload_n 1, 1) := by decide +kernel
theorem dX6_listen_69 : decode cX6_listen 69 = .ok (.invokevirtual 154, 3) := by decide +kernel
theorem dX6_listen_72 : decode cX6_listen 72 = .ok (.ifCond .lt 7, 3) := by decide +kernel
theorem dX6_listen_75 : decode cX6_listen 75 = .ok (.iconst 1, 1) := by decide +kernel
theorem dX6_listen_76 : decode cX6_listen 76 = .ok (.goto 4, 3) := by decide +kernel
theorem dX6_listen_79 : decode cX6_listen 79 = .ok (.iconst 0, 1) := by decide +kernel
theorem dX6_listen_80 : decode cX6_listen 80 = .ok (.istore 6, 2) := by decide +kernel
theorem dX6_listen_82 : decode cX6_listen 82 = .ok (.iload 5, 2) := by decide +kernel
theorem dX6_listen_84 : decode cX6_listen 84 = .ok (.ifCond .eq 9, 3) := by decide +kernel
theorem dX6_listen_87 : decode cX6_listen 87 = .ok (.iload_n 2, 1) := by decide +kernel
theorem dX6_listen_88 : decode cX6_listen 88 = .ok (.iconst 1, 1) := by decide +kernel
theorem dX6_listen_89 : decode cX6_listen 89 = .ok (.iload_n 3, 1) := by decide +kernel
theorem dX6_listen_90 : decode cX6_listen 90 = .ok (.ishl, 1) := by decide +kernel
theorem dX6_listen_91 : decode cX6_listen 91 = .ok (.ior, 1) := by decide +kernel
theorem dX6_listen_92 : decode cX6_listen 92 = .ok (.istore_n 2, 1) := by decide +kernel
theorem dX6_listen_93 : decode cX6_listen 93 = .ok (.iload 5, 2) := by decide +kernel
theorem dX6_listen_95 : decode cX6_listen 95 = .ok (.iload 6, 2) := by decide +kernel
theorem dX6_listen_97 : decode cX6_listen 97 = .ok (.if_icmp .ne 13, 3) := by decide +kernel
theorem dX6_listen_100 : decode cX6_listen 100 = .ok (.aload_n 0, 1) := by decide +kernel
theorem dX6_listen_101 : decode cX6_listen 101 = .ok (.dup, 1) := by decide +kernel
theorem dX6_listen_102 : decode cX6_listen 102 = .ok (.getfield 158, 3) := by decide +kernel
theorem dX6_listen_105 : decode cX6_listen 105 = .ok (.iconst 1, 1) := by decide +kernel
theorem dX6_listen_106 : decode cX6_listen 106 = .ok (.iadd, 1) := by decide +kernel
theorem dX6_listen_107 : decode cX6_listen 107 = .ok (.putfield 158, 3) := by decide +kernel
theorem dX6_listen_110 : decode cX6_listen 110 = .ok (.aload_n 0, 1) := by decide +kernel
theorem dX6_listen_111 : decode cX6_listen 111 = .ok (.dup, 1) := by decide +kernel
theorem dX6_listen_112 : decode cX6_listen 112 = .ok (.getfield 161, 3) := by decide +kernel
theorem dX6_listen_115 : decode cX6_listen 115 = .ok (.iconst 1, 1) := by decide +kernel
theorem dX6_listen_116 : decode cX6_listen 116 = .ok (.iadd, 1) := by decide +kernel
theorem dX6_listen_117 : decode cX6_listen 117 = .ok (.putfield 161, 3) := by decide +kernel
theorem dX6_listen_120 : decode cX6_listen 120 = .ok (.iinc 3 1, 3) := by decide +kernel
theorem dX6_listen_123 : decode cX6_listen 123 = .ok (.goto (-115), 3) := by decide +kernel
theorem dX6_listen_126 : decode cX6_listen 126 = .ok (.iload_n 2, 1) := by decide +kernel
theorem dX6_listen_127 : decode cX6_listen 127 = .ok (.ireturn, 1) := by decide +kernel
theorem dX6_hour_0 : decode cX6_hour 0 = .ok (.aload_n 0, 1) := by decide +kernel
theorem dX6_hour_1 : decode cX6_hour 1 = .ok (.getfield 12, 3) := by decide +kernel
theorem dX6_hour_4 : decode cX6_hour 4 = .ok (.getfield 94, 3) := by decide +kernel
theorem dX6_hour_7 : decode cX6_hour 7 = .ok (.ireturn, 1) := by decide +kernel
set_option maxRecDepth 20000 in
theorem ggX6_light_X6_needPlace : GoodIn wsX6_light wsX6_needPlace := goodIn_ca (goodIn_r _ [5, 6, 7] (by decide +kernel) (by decide +kernel)) (goodIn_sub (fun _ h => List.mem_cons_of_mem _ (List.mem_append_left _ (List.mem_append_right _ h))) (by decide +kernel))
set_option maxRecDepth 20000 in
theorem gX6_light_X6_needPlace : GoodIn wsX6_light (va_wsS RX6 80 yX6_needPlace wsX6_needPlace) := goodIn_app (goodIn_of _ (by decide +kernel)) ggX6_light_X6_needPlace
set_option maxRecDepth 20000 in
theorem ggX6_light_X6_needRange : GoodIn wsX6_light wsX6_needRange := goodIn_ca (goodIn_r _ [10, 11, 12] (by decide +kernel) (by decide +kernel)) (goodIn_sub (fun _ h => List.mem_cons_of_mem _ (List.mem_append_right _ h)) (by decide +kernel))
set_option maxRecDepth 20000 in
theorem gX6_light_X6_needRange : GoodIn wsX6_light (va_wsS RX6 59 yX6_needRange wsX6_needRange) := goodIn_app (goodIn_of _ (by decide +kernel)) ggX6_light_X6_needRange
set_option maxRecDepth 20000 in
theorem ggX6_light_X6_lightIn : GoodIn wsX6_light wsX6_lightIn := goodIn_r _ [15, 16, 17, 18, 19, 20, 21, 22] (by decide +kernel) (by decide +kernel)
set_option maxRecDepth 20000 in
theorem gX6_light_X6_lightIn : GoodIn wsX6_light (va_wsS RX6 164 yX6_lightIn wsX6_lightIn) := goodIn_app (goodIn_of _ (by decide +kernel)) ggX6_light_X6_lightIn
theorem dX6_light_0 : decode cX6_light 0 = .ok (.iload_n 1, 1) := by decide +kernel
theorem dX6_light_1 : decode cX6_light 1 = .ok (.invokestatic 80, 3) := by decide +kernel
theorem dX6_light_4 : decode cX6_light 4 = .ok (.iload_n 2, 1) := by decide +kernel
theorem dX6_light_5 : decode cX6_light 5 = .ok (.iconst 0, 1) := by decide +kernel
theorem dX6_light_6 : decode cX6_light 6 = .ok (.bipush 24, 2) := by decide +kernel
theorem dX6_light_8 : decode cX6_light 8 = .ok (.invokestatic 59, 3) := by decide +kernel
theorem dX6_light_11 : decode cX6_light 11 = .ok (.aload_n 0, 1) := by decide +kernel
theorem dX6_light_12 : decode cX6_light 12 = .ok (.getfield 12, 3) := by decide +kernel
theorem dX6_light_15 : decode cX6_light 15 = .ok (.getfield 94, 3) := by decide +kernel
theorem dX6_light_18 : decode cX6_light 18 = .ok (.iload_n 2, 1) := by decide +kernel
theorem dX6_light_19 : decode cX6_light 19 = .ok (.iadd, 1) := by decide +kernel
theorem dX6_light_20 : decode cX6_light 20 = .ok (.iload_n 1, 1) := by decide +kernel
theorem dX6_light_21 : decode cX6_light 21 = .ok (.invokestatic 164, 3) := by decide +kernel
theorem dX6_light_24 : decode cX6_light 24 = .ok (.ireturn, 1) := by decide +kernel
set_option maxRecDepth 20000 in
theorem ggX6_density_X6_needPlace : GoodIn wsX6_density wsX6_needPlace := goodIn_ca (goodIn_r _ [5, 6, 7] (by decide +kernel) (by decide +kernel)) (goodIn_sub (fun _ h => List.mem_cons_of_mem _ (List.mem_append_left _ (List.mem_append_right _ h))) (by decide +kernel))
set_option maxRecDepth 20000 in
theorem gX6_density_X6_needPlace : GoodIn wsX6_density (va_wsS RX6 80 yX6_needPlace wsX6_needPlace) := goodIn_app (goodIn_of _ (by decide +kernel)) ggX6_density_X6_needPlace
set_option maxRecDepth 20000 in
theorem ggX6_density_X6_needRange : GoodIn wsX6_density wsX6_needRange := goodIn_ca (goodIn_r _ [10, 11, 12] (by decide +kernel) (by decide +kernel)) (goodIn_sub (fun _ h => List.mem_cons_of_mem _ (List.mem_append_right _ h)) (by decide +kernel))
set_option maxRecDepth 20000 in
theorem gX6_density_X6_needRange : GoodIn wsX6_density (va_wsS RX6 59 yX6_needRange wsX6_needRange) := goodIn_app (goodIn_of _ (by decide +kernel)) ggX6_density_X6_needRange
theorem dX6_density_0 : decode cX6_density 0 = .ok (.iload_n 1, 1) := by decide +kernel
theorem dX6_density_1 : decode cX6_density 1 = .ok (.invokestatic 80, 3) := by decide +kernel
theorem dX6_density_4 : decode cX6_density 4 = .ok (.iload_n 2, 1) := by decide +kernel
theorem dX6_density_5 : decode cX6_density 5 = .ok (.iconst 0, 1) := by decide +kernel
theorem dX6_density_6 : decode cX6_density 6 = .ok (.iconst 2, 1) := by decide +kernel
theorem dX6_density_7 : decode cX6_density 7 = .ok (.invokestatic 59, 3) := by decide +kernel
theorem dX6_density_10 : decode cX6_density 10 = .ok (.aload_n 0, 1) := by decide +kernel
theorem dX6_density_11 : decode cX6_density 11 = .ok (.getfield 12, 3) := by decide +kernel
theorem dX6_density_14 : decode cX6_density 14 = .ok (.getfield 168, 3) := by decide +kernel
theorem dX6_density_17 : decode cX6_density 17 = .ok (.iload_n 2, 1) := by decide +kernel
theorem dX6_density_18 : decode cX6_density 18 = .ok (.aaload, 1) := by decide +kernel
theorem dX6_density_19 : decode cX6_density 19 = .ok (.iload_n 1, 1) := by decide +kernel
theorem dX6_density_20 : decode cX6_density 20 = .ok (.iaload, 1) := by decide +kernel
theorem dX6_density_21 : decode cX6_density 21 = .ok (.ireturn, 1) := by decide +kernel
set_option maxRecDepth 20000 in
theorem ggX6_landing_X6_needRay : GoodIn wsX6_landing wsX6_needRay := goodIn_ca (goodIn_ca (goodIn_r _ [5, 6, 7, 4, 8, 9, 10, 11, 12, 13, 14, 15, 16, 17, 18] (by decide +kernel) (by decide +kernel)) (goodIn_sub (fun _ h => List.mem_cons_of_mem _ (List.mem_append_left _ (List.mem_append_right _ h))) (by decide +kernel))) (goodIn_sub (fun _ h => List.mem_cons_of_mem _ (List.mem_append_right _ h)) (by decide +kernel))
set_option maxRecDepth 20000 in
theorem gX6_landing_X6_needRay : GoodIn wsX6_landing (va_wsS RX6 172 yX6_needRay wsX6_needRay) := goodIn_app (goodIn_of _ (by decide +kernel)) ggX6_landing_X6_needRay
set_option maxRecDepth 20000 in
theorem ggX6_landing_X0_bender : GoodIn wsX6_landing wsX0_bender := goodIn_r _ [23, 24, 25, 4, 26, 27, 28, 29, 30, 43, 44, 45, 46, 47, 48, 49, 50] (by decide +kernel) (by decide +kernel)
set_option maxRecDepth 20000 in
theorem gX6_landing_X0_bender : GoodIn wsX6_landing (wsV RX6 176 RX0 yX0_bender wsX0_bender) := goodIn_app (goodIn_of _ (by decide +kernel)) ggX6_landing_X0_bender
set_option maxRecDepth 20000 in
theorem ggX6_landing_X6_lengthBy : GoodIn wsX6_landing wsX6_lengthBy := goodIn_r _ [26] (by decide +kernel) (by decide +kernel)
set_option maxRecDepth 20000 in
theorem gX6_landing_X6_lengthBy : GoodIn wsX6_landing (va_wsS RX6 179 yX6_lengthBy wsX6_lengthBy) := goodIn_app (goodIn_of _ (by decide +kernel)) ggX6_landing_X6_lengthBy
set_option maxRecDepth 20000 in
theorem ggX6_landing_X6_ring : GoodIn wsX6_landing wsX6_ring := goodIn_r _ [28] (by decide +kernel) (by decide +kernel)
set_option maxRecDepth 20000 in
theorem gX6_landing_X6_ring : GoodIn wsX6_landing (va_wsS RX6 182 yX6_ring wsX6_ring) := goodIn_app (goodIn_of _ (by decide +kernel)) ggX6_landing_X6_ring
theorem dX6_landing_0 : decode cX6_landing 0 = .ok (.iload_n 1, 1) := by decide +kernel
theorem dX6_landing_1 : decode cX6_landing 1 = .ok (.iload_n 3, 1) := by decide +kernel
theorem dX6_landing_2 : decode cX6_landing 2 = .ok (.iload 4, 2) := by decide +kernel
theorem dX6_landing_4 : decode cX6_landing 4 = .ok (.iload 5, 2) := by decide +kernel
theorem dX6_landing_6 : decode cX6_landing 6 = .ok (.invokestatic 172, 3) := by decide +kernel
theorem dX6_landing_9 : decode cX6_landing 9 = .ok (.iload_n 2, 1) := by decide +kernel
theorem dX6_landing_10 : decode cX6_landing 10 = .ok (.ifCond .eq 7, 3) := by decide +kernel
theorem dX6_landing_13 : decode cX6_landing 13 = .ok (.iconst 1, 1) := by decide +kernel
theorem dX6_landing_14 : decode cX6_landing 14 = .ok (.goto 4, 3) := by decide +kernel
theorem dX6_landing_17 : decode cX6_landing 17 = .ok (.iconst (-1), 1) := by decide +kernel
theorem dX6_landing_18 : decode cX6_landing 18 = .ok (.istore 6, 2) := by decide +kernel
theorem dX6_landing_20 : decode cX6_landing 20 = .ok (.iload_n 1, 1) := by decide +kernel
theorem dX6_landing_21 : decode cX6_landing 21 = .ok (.istore 7, 2) := by decide +kernel
theorem dX6_landing_23 : decode cX6_landing 23 = .ok (.iconst 0, 1) := by decide +kernel
theorem dX6_landing_24 : decode cX6_landing 24 = .ok (.istore 8, 2) := by decide +kernel
theorem dX6_landing_26 : decode cX6_landing 26 = .ok (.iload 8, 2) := by decide +kernel
theorem dX6_landing_28 : decode cX6_landing 28 = .ok (.iload 5, 2) := by decide +kernel
theorem dX6_landing_30 : decode cX6_landing 30 = .ok (.if_icmp .ge 50, 3) := by decide +kernel
theorem dX6_landing_33 : decode cX6_landing 33 = .ok (.aload_n 0, 1) := by decide +kernel
theorem dX6_landing_34 : decode cX6_landing 34 = .ok (.getfield 12, 3) := by decide +kernel
theorem dX6_landing_37 : decode cX6_landing 37 = .ok (.iload 7, 2) := by decide +kernel
theorem dX6_landing_39 : decode cX6_landing 39 = .ok (.iload 6, 2) := by decide +kernel
theorem dX6_landing_41 : decode cX6_landing 41 = .ok (.iload_n 3, 1) := by decide +kernel
theorem dX6_landing_42 : decode cX6_landing 42 = .ok (.iload 4, 2) := by decide +kernel
theorem dX6_landing_44 : decode cX6_landing 44 = .ok (.invokevirtual 176, 3) := by decide +kernel
theorem dX6_landing_47 : decode cX6_landing 47 = .ok (.istore 9, 2) := by decide +kernel
theorem dX6_landing_49 : decode cX6_landing 49 = .ok (.iload 9, 2) := by decide +kernel
theorem dX6_landing_51 : decode cX6_landing 51 = .ok (.iconst (-1), 1) := by decide +kernel
theorem dX6_landing_52 : decode cX6_landing 52 = .ok (.if_icmp .ne 5, 3) := by decide +kernel
theorem dX6_landing_55 : decode cX6_landing 55 = .ok (.iconst (-1), 1) := by decide +kernel
theorem dX6_landing_56 : decode cX6_landing 56 = .ok (.ireturn, 1) := by decide +kernel
theorem dX6_landing_57 : decode cX6_landing 57 = .ok (.iload 7, 2) := by decide +kernel
theorem dX6_landing_59 : decode cX6_landing 59 = .ok (.iload 6, 2) := by decide +kernel
theorem dX6_landing_61 : decode cX6_landing 61 = .ok (.iload 9, 2) := by decide +kernel
theorem dX6_landing_63 : decode cX6_landing 63 = .ok (.iload_n 3, 1) := by decide +kernel
theorem dX6_landing_64 : decode cX6_landing 64 = .ok (.invokestatic 179, 3) := by decide +kernel
theorem dX6_landing_67 : decode cX6_landing 67 = .ok (.imul, 1) := by decide +kernel
theorem dX6_landing_68 : decode cX6_landing 68 = .ok (.iadd, 1) := by decide +kernel
theorem dX6_landing_69 : decode cX6_landing 69 = .ok (.invokestatic 182, 3) := by decide +kernel
theorem dX6_landing_72 : decode cX6_landing 72 = .ok (.istore 7, 2) := by decide +kernel
theorem dX6_landing_74 : decode cX6_landing 74 = .ok (.iinc 8 1, 3) := by decide +kernel
theorem dX6_landing_77 : decode cX6_landing 77 = .ok (.goto (-51), 3) := by decide +kernel
theorem dX6_landing_80 : decode cX6_landing 80 = .ok (.iload 7, 2) := by decide +kernel
theorem dX6_landing_82 : decode cX6_landing 82 = .ok (.ireturn, 1) := by decide +kernel
set_option maxRecDepth 20000 in
theorem ggX6_landingAnew_X6_needRay : GoodIn wsX6_landingAnew wsX6_needRay := goodIn_ca (goodIn_ca (goodIn_r _ [4, 5, 6, 3, 7, 8, 9, 10, 11, 12, 13, 14, 15, 16, 17] (by decide +kernel) (by decide +kernel)) (goodIn_sub (fun _ h => List.mem_cons_of_mem _ (List.mem_append_left _ (List.mem_append_right _ h))) (by decide +kernel))) (goodIn_sub (fun _ h => List.mem_cons_of_mem _ (List.mem_append_right _ h)) (by decide +kernel))
set_option maxRecDepth 20000 in
theorem gX6_landingAnew_X6_needRay : GoodIn wsX6_landingAnew (va_wsS RX6 172 yX6_needRay wsX6_needRay) := goodIn_app (goodIn_of _ (by decide +kernel)) ggX6_landingAnew_X6_needRay
set_option maxRecDepth 20000 in
theorem ggX6_landingAnew_X6_legAnew : GoodIn wsX6_landingAnew wsX6_legAnew := goodIn_r _ [21, 22, 23, 24, 3, 25, 26, 27, 28, 29, 30, 31, 32, 33, 34, 35, 36, 37, 38, 39, 40, 41, 42, 43, 44, 45, 46, 47, 48, 49] (by decide +kernel) (by decide +kernel)
set_option maxRecDepth 20000 in
theorem gX6_landingAnew_X6_legAnew : GoodIn wsX6_landingAnew (wsV RX6 185 RX6 yX6_legAnew wsX6_legAnew) := goodIn_app (goodIn_of _ (by decide +kernel)) ggX6_landingAnew_X6_legAnew
set_option maxRecDepth 20000 in
theorem ggX6_landingAnew_X6_walked : GoodIn wsX6_landingAnew wsX6_walked := goodIn_r _ [28] (by decide +kernel) (by decide +kernel)
set_option maxRecDepth 20000 in
theorem gX6_landingAnew_X6_walked : GoodIn wsX6_landingAnew (va_wsS RX6 189 yX6_walked wsX6_walked) := goodIn_app (goodIn_of _ (by decide +kernel)) ggX6_landingAnew_X6_walked
theorem dX6_landingAnew_0 : decode cX6_landingAnew 0 = .ok (.iload_n 1, 1) := by decide +kernel
theorem dX6_landingAnew_1 : decode cX6_landingAnew 1 = .ok (.iload_n 3, 1) := by decide +kernel
theorem dX6_landingAnew_2 : decode cX6_landingAnew 2 = .ok (.iload 4, 2) := by decide +kernel
theorem dX6_landingAnew_4 : decode cX6_landingAnew 4 = .ok (.iload 5, 2) := by decide +kernel
theorem dX6_landingAnew_6 : decode cX6_landingAnew 6 = .ok (.invokestatic 172, 3) := by decide +kernel
theorem dX6_landingAnew_9 : decode cX6_landingAnew 9 = .ok (.iload_n 1, 1) := by decide +kernel
theorem dX6_landingAnew_10 : decode cX6_landingAnew 10 = .ok (.istore 6, 2) := by decide +kernel
theorem dX6_landingAnew_12 : decode cX6_landingAnew 12 = .ok (.iconst 0, 1) := by decide +kernel
theorem dX6_landingAnew_13 : decode cX6_landingAnew 13 = .ok (.istore 7, 2) := by decide +kernel
theorem dX6_landingAnew_15 : decode cX6_landingAnew 15 = .ok (.iload 7, 2) := by decide +kernel
theorem dX6_landingAnew_17 : decode cX6_landingAnew 17 = .ok (.iload 5, 2) := by decide +kernel
theorem dX6_landingAnew_19 : decode cX6_landingAnew 19 = .ok (.if_icmp .ge 39, 3) := by decide +kernel
theorem dX6_landingAnew_22 : decode cX6_landingAnew 22 = .ok (.aload_n 0, 1) := by decide +kernel
theorem dX6_landingAnew_23 : decode cX6_landingAnew 23 = .ok (.iload 6, 2) := by decide +kernel
theorem dX6_landingAnew_25 : decode cX6_landingAnew 25 = .ok (.iload_n 2, 1) := by decide +kernel
theorem dX6_landingAnew_26 : decode cX6_landingAnew 26 = .ok (.iload_n 3, 1) := by decide +kernel
theorem dX6_landingAnew_27 : decode cX6_landingAnew 27 = .ok (.iload 4, 2) := by decide +kernel
theorem dX6_landingAnew_29 : decode cX6_landingAnew 29 = .ok (.invokevirtual 185, 3) := by decide +kernel
theorem dX6_landingAnew_32 : decode cX6_landingAnew 32 = .ok (.istore 8, 2) := by decide +kernel
theorem dX6_landingAnew_34 : decode cX6_landingAnew 34 = .ok (.iload 8, 2) := by decide +kernel
theorem dX6_landingAnew_36 : decode cX6_landingAnew 36 = .ok (.iconst (-1), 1) := by decide +kernel
theorem dX6_landingAnew_37 : decode cX6_landingAnew 37 = .ok (.if_icmp .ne 5, 3) := by decide +kernel
theorem dX6_landingAnew_40 : decode cX6_landingAnew 40 = .ok (.iconst (-1), 1) := by decide +kernel
theorem dX6_landingAnew_41 : decode cX6_landingAnew 41 = .ok (.ireturn, 1) := by decide +kernel
theorem dX6_landingAnew_42 : decode cX6_landingAnew 42 = .ok (.iload 6, 2) := by decide +kernel
theorem dX6_landingAnew_44 : decode cX6_landingAnew 44 = .ok (.iload_n 2, 1) := by decide +kernel
theorem dX6_landingAnew_45 : decode cX6_landingAnew 45 = .ok (.iload 8, 2) := by decide +kernel
theorem dX6_landingAnew_47 : decode cX6_landingAnew 47 = .ok (.invokestatic 189, 3) := by decide +kernel
theorem dX6_landingAnew_50 : decode cX6_landingAnew 50 = .ok (.istore 6, 2) := by decide +kernel
theorem dX6_landingAnew_52 : decode cX6_landingAnew 52 = .ok (.iinc 7 1, 3) := by decide +kernel
theorem dX6_landingAnew_55 : decode cX6_landingAnew 55 = .ok (.goto (-40), 3) := by decide +kernel
theorem dX6_landingAnew_58 : decode cX6_landingAnew 58 = .ok (.iload 6, 2) := by decide +kernel
theorem dX6_landingAnew_60 : decode cX6_landingAnew 60 = .ok (.ireturn, 1) := by decide +kernel
set_option maxRecDepth 20000 in
theorem ggX6_paths_X6_needPath : GoodIn wsX6_paths wsX6_needPath := goodIn_ca (goodIn_ca (goodIn_r _ [5, 6, 7, 4, 8, 9, 10, 11, 12, 13, 14, 15, 16, 17, 18, 19, 20, 21] (by decide +kernel) (by decide +kernel)) (goodIn_sub (fun _ h => List.mem_cons_of_mem _ (List.mem_append_left _ (List.mem_append_right _ h))) (by decide +kernel))) (goodIn_sub (fun _ h => List.mem_cons_of_mem _ (List.mem_append_right _ h)) (by decide +kernel))
set_option maxRecDepth 20000 in
theorem gX6_paths_X6_needPath : GoodIn wsX6_paths (va_wsS RX6 193 yX6_needPath wsX6_needPath) := goodIn_app (goodIn_of _ (by decide +kernel)) ggX6_paths_X6_needPath
set_option maxRecDepth 20000 in
theorem ggX6_paths_X6_reaches : GoodIn wsX6_paths wsX6_reaches := goodIn_r _ [25, 26, 27, 28, 29, 4, 30, 31, 32, 33, 34, 35, 36, 37, 38, 39, 40, 41, 42, 43, 44, 45, 46, 47, 48, 49, 50, 51, 52, 53, 54, 55, 56, 57, 58, 59, 60, 61, 62, 63, 64, 65, 66, 67, 68, 69, 70, 71, 72, 73, 74, 75, 76, 77, 78, 79, 80, 81, 82, 83, 84, 85, 86, 87, 88, 89, 90, 91, 92, 93, 94, 95, 96] (by decide +kernel) (by decide +kernel)
set_option maxRecDepth 20000 in
theorem gX6_paths_X6_reaches : GoodIn wsX6_paths (wsV RX6 196 RX6 yX6_reaches wsX6_reaches) := goodIn_app (goodIn_of _ (by decide +kernel)) ggX6_paths_X6_reaches
theorem dX6_paths_0 : decode cX6_paths 0 = .ok (.iload_n 1, 1) := by decide +kernel
theorem dX6_paths_1 : decode cX6_paths 1 = .ok (.iload_n 2, 1) := by decide +kernel
theorem dX6_paths_2 : decode cX6_paths 2 = .ok (.iload_n 3, 1) := by decide +kernel
theorem dX6_paths_3 : decode cX6_paths 3 = .ok (.iload 4, 2) := by decide +kernel
theorem dX6_paths_5 : decode cX6_paths 5 = .ok (.invokestatic 193, 3) := by decide +kernel
theorem dX6_paths_8 : decode cX6_paths 8 = .ok (.iconst 0, 1) := by decide +kernel
theorem dX6_paths_9 : decode cX6_paths 9 = .ok (.istore 5, 2) := by decide +kernel
theorem dX6_paths_11 : decode cX6_paths 11 = .ok (.iconst 0, 1) := by decide +kernel
theorem dX6_paths_12 : decode cX6_paths 12 = .ok (.istore 6, 2) := by decide +kernel
theorem dX6_paths_14 : decode cX6_paths 14 = .ok (.iload 6, 2) := by decide +kernel
theorem dX6_paths_16 : decode cX6_paths 16 = .ok (.bipush 18, 2) := by decide +kernel
theorem dX6_paths_18 : decode cX6_paths 18 = .ok (.if_icmp .ge 30, 3) := by decide +kernel
theorem dX6_paths_21 : decode cX6_paths 21 = .ok (.aload_n 0, 1) := by decide +kernel
theorem dX6_paths_22 : decode cX6_paths 22 = .ok (.aload_n 0, 1) := by decide +kernel
theorem dX6_paths_23 : decode cX6_paths 23 = .ok (.getfield 12, 3) := by decide +kernel
theorem dX6_paths_26 : decode cX6_paths 26 = .ok (.iload_n 1, 1) := by decide +kernel
theorem dX6_paths_27 : decode cX6_paths 27 = .ok (.iload_n 2, 1) := by decide +kernel
theorem dX6_paths_28 : decode cX6_paths 28 = .ok (.iload 6, 2) := by decide +kernel
theorem dX6_paths_30 : decode cX6_paths 30 = .ok (.iload_n 3, 1) := by decide +kernel
theorem dX6_paths_31 : decode cX6_paths 31 = .ok (.iload 4, 2) := by decide +kernel
theorem dX6_paths_33 : decode cX6_paths 33 = .ok (.invokevirtual 196, 3) := by decide +kernel
theorem dX6_paths_36 : decode cX6_paths 36 = .ok (.ifCond .eq 6, 3) := by decide +kernel
theorem dX6_paths_39 : decode cX6_paths 39 = .ok (.iinc 5 1, 3) := by decide +kernel
theorem dX6_paths_42 : decode cX6_paths 42 = .ok (.iinc 6 1, 3) := by decide +kernel
theorem dX6_paths_45 : decode cX6_paths 45 = .ok (.goto (-31), 3) := by decide +kernel
theorem dX6_paths_48 : decode cX6_paths 48 = .ok (.iload 5, 2) := by decide +kernel
theorem dX6_paths_50 : decode cX6_paths 50 = .ok (.ireturn, 1) := by decide +kernel
set_option maxRecDepth 20000 in
theorem ggX6_path_X6_needPath : GoodIn wsX6_path wsX6_needPath := goodIn_ca (goodIn_ca (goodIn_r _ [8, 9, 10, 7, 11, 1, 2, 12, 13, 14, 15, 16, 17, 18, 19, 20, 21, 22] (by decide +kernel) (by decide +kernel)) (goodIn_sub (fun _ h => List.mem_cons_of_mem _ (List.mem_append_left _ (List.mem_append_right _ h))) (by decide +kernel))) (goodIn_sub (fun _ h => List.mem_cons_of_mem _ (List.mem_append_right _ h)) (by decide +kernel))
set_option maxRecDepth 20000 in
theorem gX6_path_X6_needPath : GoodIn wsX6_path (va_wsS RX6 193 yX6_needPath wsX6_needPath) := goodIn_app (goodIn_of _ (by decide +kernel)) ggX6_path_X6_needPath
set_option maxRecDepth 20000 in
theorem ggX6_path_X6_needRange : GoodIn wsX6_path wsX6_needRange := goodIn_ca (goodIn_r _ [17, 18, 19] (by decide +kernel) (by decide +kernel)) (goodIn_sub (fun _ h => List.mem_cons_of_mem _ (List.mem_append_right _ h)) (by decide +kernel))
set_option maxRecDepth 20000 in
theorem gX6_path_X6_needRange : GoodIn wsX6_path (va_wsS RX6 59 yX6_needRange wsX6_needRange) := goodIn_app (goodIn_of _ (by decide +kernel)) ggX6_path_X6_needRange
set_option maxRecDepth 20000 in
theorem ggX6_path_X6_reaches : GoodIn wsX6_path wsX6_reaches := goodIn_r _ [26, 4, 27, 28, 29, 7, 30, 31, 32, 33, 34, 35, 36, 37, 38, 39, 40, 41, 42, 43, 44, 45, 46, 47, 48, 49, 50, 51, 52, 53, 54, 55, 56, 57, 58, 59, 60, 61, 62, 63, 64, 65, 66, 67, 68, 73, 74, 75, 76, 77, 78, 79, 80, 81, 82, 83, 84, 85, 86, 87, 88, 89, 90, 91, 92, 93, 94, 95, 96, 97, 98, 99, 100] (by decide +kernel) (by decide +kernel)
set_option maxRecDepth 20000 in
theorem gX6_path_X6_reaches : GoodIn wsX6_path (wsV RX6 196 RX6 yX6_reaches wsX6_reaches) := goodIn_app (goodIn_of _ (by decide +kernel)) ggX6_path_X6_reaches
set_option maxRecDepth 20000 in
theorem ggX6_path_X4_tell : GoodIn wsX6_path wsX4_tell := goodIn_r _ [72, 40, 41, 44, 45, 43, 46, 83, 84, 85, 86, 87, 88, 89, 90] (by decide +kernel) (by decide +kernel)
set_option maxRecDepth 20000 in
theorem gX6_path_X4_tell : GoodIn wsX6_path (wsV RX6 200 RX4 yX4_tell wsX4_tell) := goodIn_app (goodIn_of _ (by decide +kernel)) ggX6_path_X4_tell
theorem dX6_path_0 : decode cX6_path 0 = .ok (.iload_n 1, 1) := by decide +kernel
theorem dX6_path_1 : decode cX6_path 1 = .ok (.iload_n 2, 1) := by decide +kernel
theorem dX6_path_2 : decode cX6_path 2 = .ok (.iload_n 3, 1) := by decide +kernel
theorem dX6_path_3 : decode cX6_path 3 = .ok (.iload 4, 2) := by decide +kernel
theorem dX6_path_5 : decode cX6_path 5 = .ok (.invokestatic 193, 3) := by decide +kernel
theorem dX6_path_8 : decode cX6_path 8 = .ok (.iload 6, 2) := by decide +kernel
theorem dX6_path_10 : decode cX6_path 10 = .ok (.iconst 0, 1) := by decide +kernel
theorem dX6_path_11 : decode cX6_path 11 = .ok (.iconst 5, 1) := by decide +kernel
theorem dX6_path_12 : decode cX6_path 12 = .ok (.invokestatic 59, 3) := by decide +kernel
theorem dX6_path_15 : decode cX6_path 15 = .ok (.iconst 0, 1) := by decide +kernel
theorem dX6_path_16 : decode cX6_path 16 = .ok (.istore 7, 2) := by decide +kernel
theorem dX6_path_18 : decode cX6_path 18 = .ok (.iconst 0, 1) := by decide +kernel
theorem dX6_path_19 : decode cX6_path 19 = .ok (.istore 8, 2) := by decide +kernel
theorem dX6_path_21 : decode cX6_path 21 = .ok (.iload 8, 2) := by decide +kernel
theorem dX6_path_23 : decode cX6_path 23 = .ok (.bipush 18, 2) := by decide +kernel
theorem dX6_path_25 : decode cX6_path 25 = .ok (.if_icmp .ge 47, 3) := by decide +kernel
theorem dX6_path_28 : decode cX6_path 28 = .ok (.aload_n 0, 1) := by decide +kernel
theorem dX6_path_29 : decode cX6_path 29 = .ok (.aload_n 0, 1) := by decide +kernel
theorem dX6_path_30 : decode cX6_path 30 = .ok (.getfield 12, 3) := by decide +kernel
theorem dX6_path_33 : decode cX6_path 33 = .ok (.iload_n 1, 1) := by decide +kernel
theorem dX6_path_34 : decode cX6_path 34 = .ok (.iload_n 2, 1) := by decide +kernel
theorem dX6_path_35 : decode cX6_path 35 = .ok (.iload 8, 2) := by decide +kernel
theorem dX6_path_37 : decode cX6_path 37 = .ok (.iload_n 3, 1) := by decide +kernel
theorem dX6_path_38 : decode cX6_path 38 = .ok (.iload 4, 2) := by decide +kernel
theorem dX6_path_40 : decode cX6_path 40 = .ok (.invokevirtual 196, 3) := by decide +kernel
theorem dX6_path_43 : decode cX6_path 43 = .ok (.ifCond .eq 23, 3) := by decide +kernel
theorem dX6_path_46 : decode cX6_path 46 = .ok (.iload 7, 2) := by decide +kernel
theorem dX6_path_48 : decode cX6_path 48 = .ok (.iload 5, 2) := by decide +kernel
theorem dX6_path_50 : decode cX6_path 50 = .ok (.if_icmp .ne 13, 3) := by decide +kernel
theorem dX6_path_53 : decode cX6_path 53 = .ok (.aload_n 0, 1) := by decide +kernel
theorem dX6_path_54 : decode cX6_path 54 = .ok (.getfield 29, 3) := by decide +kernel
theorem dX6_path_57 : decode cX6_path 57 = .ok (.iload 6, 2) := by decide +kernel
theorem dX6_path_59 : decode cX6_path 59 = .ok (.invokevirtual 200, 3) := by decide +kernel
theorem dX6_path_62 : decode cX6_path 62 = .ok (.ireturn, 1) := by decide +kernel
theorem dX6_path_63 : decode cX6_path 63 = .ok (.iinc 7 1, 3) := by decide +kernel
theorem dX6_path_66 : decode cX6_path 66 = .ok (.iinc 8 1, 3) := by decide +kernel
theorem dX6_path_69 : decode cX6_path 69 = .ok (.goto (-48), 3) := by decide +kernel
theorem dX6_path_72 : decode cX6_path 72 = .ok (.new 203, 3) := by decide +kernel
theorem dX6_path_75 : decode cX6_path 75 = .ok (.dup, 1) := by decide +kernel
theorem dX6_path_76 : decode cX6_path 76 = .ok (.ldc 205, 2) := by decide +kernel
theorem dX6_path_78 : decode cX6_path 78 = .ok (.invokespecial 207, 3) := by decide +kernel
theorem dX6_path_81 : decode cX6_path 81 = .ok (.athrow, 1) := by decide +kernel
set_option maxRecDepth 20000 in
theorem ggX6_explain_X6_needPath : GoodIn wsX6_explain wsX6_needPath := goodIn_ca (goodIn_ca (goodIn_r _ [10, 11, 12, 9, 13, 14, 15, 16, 17, 18, 19, 20, 21, 22, 23, 24, 25, 26] (by decide +kernel) (by decide +kernel)) (goodIn_sub (fun _ h => List.mem_cons_of_mem _ (List.mem_append_left _ (List.mem_append_right _ h))) (by decide +kernel))) (goodIn_sub (fun _ h => List.mem_cons_of_mem _ (List.mem_append_right _ h)) (by decide +kernel))
set_option maxRecDepth 20000 in
theorem gX6_explain_X6_needPath : GoodIn wsX6_explain (va_wsS RX6 193 yX6_needPath wsX6_needPath) := goodIn_app (goodIn_of _ (by decide +kernel)) ggX6_explain_X6_needPath
set_option maxRecDepth 20000 in
theorem ggX6_explain_X6_needRange : GoodIn wsX6_explain wsX6_needRange := goodIn_ca (goodIn_r _ [21, 22, 23] (by decide +kernel) (by decide +kernel)) (goodIn_sub (fun _ h => List.mem_cons_of_mem _ (List.mem_append_right _ h)) (by decide +kernel))
set_option maxRecDepth 20000 in
theorem gX6_explain_X6_needRange : GoodIn wsX6_explain (va_wsS RX6 59 yX6_needRange wsX6_needRange) := goodIn_app (goodIn_of _ (by decide +kernel)) ggX6_explain_X6_needRange
set_option maxRecDepth 20000 in
theorem ggX6_explain_X6_reaches : GoodIn wsX6_explain wsX6_reaches := goodIn_r _ [30, 2, 31, 32, 33, 9, 34, 35, 36, 37, 38, 39, 40, 41, 42, 43, 44, 45, 46, 47, 48, 49, 50, 51, 52, 53, 54, 55, 56, 57, 58, 59, 60, 61, 62, 63, 64, 65, 66, 67, 68, 69, 70, 71, 72, 73, 74, 75, 76, 77, 78, 79, 80, 81, 82, 83, 84, 85, 86, 87, 88, 89, 90, 91, 92, 93, 94, 95, 96, 97, 98, 99, 100] (by decide +kernel) (by decide +kernel)
set_option maxRecDepth 20000 in
theorem gX6_explain_X6_reaches : GoodIn wsX6_explain (wsV RX6 196 RX6 yX6_reaches wsX6_reaches) := goodIn_app (goodIn_of _ (by decide +kernel)) ggX6_explain_X6_reaches
theorem dX6_explain_0 : decode cX6_explain 0 = .ok (.iload_n 1, 1) := by decide +kernel
theorem dX6_explain_1 : decode cX6_explain 1 = .ok (.iload_n 2, 1) := by decide +kernel
theorem dX6_explain_2 : decode cX6_explain 2 = .ok (.iload_n 3, 1) := by decide +kernel
theorem dX6_explain_3 : decode cX6_explain 3 = .ok (.iload 4, 2) := by decide +kernel
theorem dX6_explain_5 : decode cX6_explain 5 = .ok (.invokestatic 193, 3) := by decide +kernel
theorem dX6_explain_8 : decode cX6_explain 8 = .ok (.iload 5, 2) := by decide +kernel
theorem dX6_explain_10 : decode cX6_explain 10 = .ok (.iconst 0, 1) := by decide +kernel
theorem dX6_explain_11 : decode cX6_explain 11 = .ok (.sipush 1000, 3) := by decide +kernel
theorem dX6_explain_14 : decode cX6_explain 14 = .ok (.invokestatic 59, 3) := by decide +kernel
theorem dX6_explain_17 : decode cX6_explain 17 = .ok (.iconst 0, 1) := by decide +kernel
theorem dX6_explain_18 : decode cX6_explain 18 = .ok (.istore 6, 2) := by decide +kernel
theorem dX6_explain_20 : decode cX6_explain 20 = .ok (.iconst (-1), 1) := by decide +kernel
theorem dX6_explain_21 : decode cX6_explain 21 = .ok (.istore 7, 2) := by decide +kernel
theorem dX6_explain_23 : decode cX6_explain 23 = .ok (.iconst 0, 1) := by decide +kernel
theorem dX6_explain_24 : decode cX6_explain 24 = .ok (.istore 8, 2) := by decide +kernel
theorem dX6_explain_26 : decode cX6_explain 26 = .ok (.iconst 0, 1) := by decide +kernel
theorem dX6_explain_27 : decode cX6_explain 27 = .ok (.istore 9, 2) := by decide +kernel
theorem dX6_explain_29 : decode cX6_explain 29 = .ok (.iload 9, 2) := by decide +kernel
theorem dX6_explain_31 : decode cX6_explain 31 = .ok (.bipush 18, 2) := by decide +kernel
theorem dX6_explain_33 : decode cX6_explain 33 = .ok (.if_icmp .ge 66, 3) := by decide +kernel
theorem dX6_explain_36 : decode cX6_explain 36 = .ok (.aload_n 0, 1) := by decide +kernel
theorem dX6_explain_37 : decode cX6_explain 37 = .ok (.aload_n 0, 1) := by decide +kernel
theorem dX6_explain_38 : decode cX6_explain 38 = .ok (.getfield 12, 3) := by decide +kernel
theorem dX6_explain_41 : decode cX6_explain 41 = .ok (.iload_n 1, 1) := by decide +kernel
theorem dX6_explain_42 : decode cX6_explain 42 = .ok (.iload_n 2, 1) := by decide +kernel
theorem dX6_explain_43 : decode cX6_explain 43 = .ok (.iload 9, 2) := by decide +kernel
theorem dX6_explain_45 : decode cX6_explain 45 = .ok (.iload_n 3, 1) := by decide +kernel
theorem dX6_explain_46 : decode cX6_explain 46 = .ok (.iload 4, 2) := by decide +kernel
theorem dX6_explain_48 : decode cX6_explain 48 = .ok (.invokevirtual 196, 3) := by decide +kernel
theorem dX6_explain_51 : decode cX6_explain 51 = .ok (.ifCond .eq 42, 3) := by decide +kernel
theorem dX6_explain_54 : decode cX6_explain 54 = .ok (.aload_n 0, 1) := by decide +kernel
theorem dX6_explain_55 : decode cX6_explain 55 = .ok (.getfield 29, 3) := by decide +kernel
theorem dX6_explain_58 : decode cX6_explain 58 = .ok (.getfield 208, 3) := by decide +kernel
theorem dX6_explain_61 : decode cX6_explain 61 = .ok (.iload 5, 2) := by decide +kernel
theorem dX6_explain_63 : decode cX6_explain 63 = .ok (.isub, 1) := by decide +kernel
theorem dX6_explain_64 : decode cX6_explain 64 = .ok (.invokestatic 211, 3) := by decide +kernel
theorem dX6_explain_67 : decode cX6_explain 67 = .ok (.istore 10, 2) := by decide +kernel
theorem dX6_explain_69 : decode cX6_explain 69 = .ok (.iload 7, 2) := by decide +kernel
theorem dX6_explain_71 : decode cX6_explain 71 = .ok (.iconst (-1), 1) := by decide +kernel
theorem dX6_explain_72 : decode cX6_explain 72 = .ok (.if_icmp .eq 10, 3) := by decide +kernel
theorem dX6_explain_75 : decode cX6_explain 75 = .ok (.iload 10, 2) := by decide +kernel
theorem dX6_explain_77 : decode cX6_explain 77 = .ok (.iload 8, 2) := by decide +kernel
theorem dX6_explain_79 : decode cX6_explain 79 = .ok (.if_icmp .ge 11, 3) := by decide +kernel
theorem dX6_explain_82 : decode cX6_explain 82 = .ok (.iload 6, 2) := by decide +kernel
theorem dX6_explain_84 : decode cX6_explain 84 = .ok (.istore 7, 2) := by decide +kernel
theorem dX6_explain_86 : decode cX6_explain 86 = .ok (.iload 10, 2) := by decide +kernel
theorem dX6_explain_88 : decode cX6_explain 88 = .ok (.istore 8, 2) := by decide +kernel
theorem dX6_explain_90 : decode cX6_explain 90 = .ok (.iinc 6 1, 3) := by decide +kernel
theorem dX6_explain_93 : decode cX6_explain 93 = .ok (.iinc 9 1, 3) := by decide +kernel
theorem dX6_explain_96 : decode cX6_explain 96 = .ok (.goto (-67), 3) := by decide +kernel
theorem dX6_explain_99 : decode cX6_explain 99 = .ok (.iload 7, 2) := by decide +kernel
theorem dX6_explain_101 : decode cX6_explain 101 = .ok (.ireturn, 1) := by decide +kernel
set_option maxRecDepth 20000 in
theorem ggX6_usable_X6_needPlace : GoodIn wsX6_usable wsX6_needPlace := goodIn_ca (goodIn_r _ [4, 5, 6] (by decide +kernel) (by decide +kernel)) (goodIn_sub (fun _ h => List.mem_cons_of_mem _ (List.mem_append_left _ (List.mem_append_right _ h))) (by decide +kernel))
set_option maxRecDepth 20000 in
theorem gX6_usable_X6_needPlace : GoodIn wsX6_usable (va_wsS RX6 80 yX6_needPlace wsX6_needPlace) := goodIn_app (goodIn_of _ (by decide +kernel)) ggX6_usable_X6_needPlace
set_option maxRecDepth 20000 in
theorem ggX6_usable_X6_needStrength : GoodIn wsX6_usable wsX6_needStrength := goodIn_ca (goodIn_r _ [9, 10, 11, 3, 12, 13, 14] (by decide +kernel) (by decide +kernel)) (goodIn_sub (fun _ h => List.mem_cons_of_mem _ (List.mem_append_right _ h)) (by decide +kernel))
set_option maxRecDepth 20000 in
theorem gX6_usable_X6_needStrength : GoodIn wsX6_usable (va_wsS RX6 216 yX6_needStrength wsX6_needStrength) := goodIn_app (goodIn_of _ (by decide +kernel)) ggX6_usable_X6_needStrength
set_option maxRecDepth 20000 in
theorem ggX6_usable_X6_hasPath : GoodIn wsX6_usable wsX6_hasPath := goodIn_r _ [18, 19, 20, 21, 22, 3, 23, 24, 25, 26, 27, 28, 29, 30, 31, 32, 33, 34, 35, 36, 37, 38, 39, 40, 41, 42, 43, 44, 45, 46, 47, 48, 49, 50, 51, 52, 53, 54, 55, 56, 57, 58, 59, 60, 61, 62, 63, 64, 65, 66, 67, 68, 69, 70, 71, 72, 73, 74, 75, 76, 77, 78, 79, 80, 81, 82, 83, 84, 85, 86, 87, 88, 89, 90, 91, 92, 93, 94] (by decide +kernel) (by decide +kernel)
set_option maxRecDepth 20000 in
theorem gX6_usable_X6_hasPath : GoodIn wsX6_usable (wsV RX6 219 RX6 yX6_hasPath wsX6_hasPath) := goodIn_app (goodIn_of _ (by decide +kernel)) ggX6_usable_X6_hasPath
theorem dX6_usable_0 : decode cX6_usable 0 = .ok (.iload_n 1, 1) := by decide +kernel
theorem dX6_usable_1 : decode cX6_usable 1 = .ok (.invokestatic 80, 3) := by decide +kernel
theorem dX6_usable_4 : decode cX6_usable 4 = .ok (.iload_n 2, 1) := by decide +kernel
theorem dX6_usable_5 : decode cX6_usable 5 = .ok (.invokestatic 80, 3) := by decide +kernel
theorem dX6_usable_8 : decode cX6_usable 8 = .ok (.iload_n 3, 1) := by decide +kernel
theorem dX6_usable_9 : decode cX6_usable 9 = .ok (.invokestatic 216, 3) := by decide +kernel
theorem dX6_usable_12 : decode cX6_usable 12 = .ok (.iload 4, 2) := by decide +kernel
theorem dX6_usable_14 : decode cX6_usable 14 = .ok (.ifCond .eq 9, 3) := by decide +kernel
theorem dX6_usable_17 : decode cX6_usable 17 = .ok (.sipush 300, 3) := by decide +kernel
theorem dX6_usable_20 : decode cX6_usable 20 = .ok (.goto 5, 3) := by decide +kernel
theorem dX6_usable_23 : decode cX6_usable 23 = .ok (.bipush 10, 2) := by decide +kernel
theorem dX6_usable_25 : decode cX6_usable 25 = .ok (.istore 5, 2) := by decide +kernel
theorem dX6_usable_27 : decode cX6_usable 27 = .ok (.iload 4, 2) := by decide +kernel
theorem dX6_usable_29 : decode cX6_usable 29 = .ok (.ifCond .eq 8, 3) := by decide +kernel
theorem dX6_usable_32 : decode cX6_usable 32 = .ok (.bipush (-10), 2) := by decide +kernel
theorem dX6_usable_34 : decode cX6_usable 34 = .ok (.goto 5, 3) := by decide +kernel
theorem dX6_usable_37 : decode cX6_usable 37 = .ok (.bipush 10, 2) := by decide +kernel
theorem dX6_usable_39 : decode cX6_usable 39 = .ok (.istore 6, 2) := by decide +kernel
theorem dX6_usable_41 : decode cX6_usable 41 = .ok (.bipush 30, 2) := by decide +kernel
theorem dX6_usable_43 : decode cX6_usable 43 = .ok (.istore 7, 2) := by decide +kernel
theorem dX6_usable_45 : decode cX6_usable 45 = .ok (.iconst 0, 1) := by decide +kernel
theorem dX6_usable_46 : decode cX6_usable 46 = .ok (.istore 8, 2) := by decide +kernel
theorem dX6_usable_48 : decode cX6_usable 48 = .ok (.iload 8, 2) := by decide +kernel
theorem dX6_usable_50 : decode cX6_usable 50 = .ok (.iload 7, 2) := by decide +kernel
theorem dX6_usable_52 : decode cX6_usable 52 = .ok (.if_icmp .ge 34, 3) := by decide +kernel
theorem dX6_usable_55 : decode cX6_usable 55 = .ok (.iload 5, 2) := by decide +kernel
theorem dX6_usable_57 : decode cX6_usable 57 = .ok (.iload 8, 2) := by decide +kernel
theorem dX6_usable_59 : decode cX6_usable 59 = .ok (.iload 6, 2) := by decide +kernel
theorem dX6_usable_61 : decode cX6_usable 61 = .ok (.imul, 1) := by decide +kernel
theorem dX6_usable_62 : decode cX6_usable 62 = .ok (.iadd, 1) := by decide +kernel
theorem dX6_usable_63 : decode cX6_usable 63 = .ok (.istore 9, 2) := by decide +kernel
theorem dX6_usable_65 : decode cX6_usable 65 = .ok (.aload_n 0, 1) := by decide +kernel
theorem dX6_usable_66 : decode cX6_usable 66 = .ok (.iload_n 1, 1) := by decide +kernel
theorem dX6_usable_67 : decode cX6_usable 67 = .ok (.iload_n 2, 1) := by decide +kernel
theorem dX6_usable_68 : decode cX6_usable 68 = .ok (.iload 9, 2) := by decide +kernel
theorem dX6_usable_70 : decode cX6_usable 70 = .ok (.iload_n 3, 1) := by decide +kernel
theorem dX6_usable_71 : decode cX6_usable 71 = .ok (.invokevirtual 219, 3) := by decide +kernel
theorem dX6_usable_74 : decode cX6_usable 74 = .ok (.ifCond .eq 6, 3) := by decide +kernel
theorem dX6_usable_77 : decode cX6_usable 77 = .ok (.iload 9, 2) := by decide +kernel
theorem dX6_usable_79 : decode cX6_usable 79 = .ok (.ireturn, 1) := by decide +kernel
theorem dX6_usable_80 : decode cX6_usable 80 = .ok (.iinc 8 1, 3) := by decide +kernel
theorem dX6_usable_83 : decode cX6_usable 83 = .ok (.goto (-35), 3) := by decide +kernel
theorem dX6_usable_86 : decode cX6_usable 86 = .ok (.iconst (-1), 1) := by decide +kernel
theorem dX6_usable_87 : decode cX6_usable 87 = .ok (.ireturn, 1) := by decide +kernel
set_option maxRecDepth 20000 in
theorem ggX6_skipped_X6_needPlace : GoodIn wsX6_skipped wsX6_needPlace := goodIn_ca (goodIn_r _ [12, 13, 14] (by decide +kernel) (by decide +kernel)) (goodIn_sub (fun _ h => List.mem_cons_of_mem _ (List.mem_append_left _ (List.mem_append_right _ h))) (by decide +kernel))
set_option maxRecDepth 20000 in
theorem gX6_skipped_X6_needPlace : GoodIn wsX6_skipped (va_wsS RX6 80 yX6_needPlace wsX6_needPlace) := goodIn_app (goodIn_of _ (by decide +kernel)) ggX6_skipped_X6_needPlace
set_option maxRecDepth 20000 in
theorem ggX6_skipped_X6_needFrequency : GoodIn wsX6_skipped wsX6_needFrequency := goodIn_ca (goodIn_r _ [17, 18, 19, 11, 20, 21, 22] (by decide +kernel) (by decide +kernel)) (goodIn_sub (fun _ h => List.mem_cons_of_mem _ (List.mem_append_right _ h)) (by decide +kernel))
set_option maxRecDepth 20000 in
theorem gX6_skipped_X6_needFrequency : GoodIn wsX6_skipped (va_wsS RX6 117 yX6_needFrequency wsX6_needFrequency) := goodIn_app (goodIn_of _ (by decide +kernel)) ggX6_skipped_X6_needFrequency
set_option maxRecDepth 20000 in
theorem ggX6_skipped_X0_bender : GoodIn wsX6_skipped wsX0_bender := goodIn_r _ [27, 28, 29, 11, 30, 31, 32, 33, 34, 46, 47, 48, 49, 50, 51, 52, 53] (by decide +kernel) (by decide +kernel)
set_option maxRecDepth 20000 in
theorem gX6_skipped_X0_bender : GoodIn wsX6_skipped (wsV RX6 176 RX0 yX0_bender wsX0_bender) := goodIn_app (goodIn_of _ (by decide +kernel)) ggX6_skipped_X0_bender
set_option maxRecDepth 20000 in
theorem ggX6_skipped_X6_lengthBy : GoodIn wsX6_skipped wsX6_lengthBy := goodIn_r _ [30] (by decide +kernel) (by decide +kernel)
set_option maxRecDepth 20000 in
theorem gX6_skipped_X6_lengthBy : GoodIn wsX6_skipped (va_wsS RX6 179 yX6_lengthBy wsX6_lengthBy) := goodIn_app (goodIn_of _ (by decide +kernel)) ggX6_skipped_X6_lengthBy
theorem dX6_skipped_0 : decode cX6_skipped 0 = .ok (.iload_n 1, 1) := by decide +kernel
theorem dX6_skipped_1 : decode cX6_skipped 1 = .ok (.invokestatic 80, 3) := by decide +kernel
theorem dX6_skipped_4 : decode cX6_skipped 4 = .ok (.iload_n 3, 1) := by decide +kernel
theorem dX6_skipped_5 : decode cX6_skipped 5 = .ok (.invokestatic 117, 3) := by decide +kernel
theorem dX6_skipped_8 : decode cX6_skipped 8 = .ok (.iconst (-1), 1) := by decide +kernel
theorem dX6_skipped_9 : decode cX6_skipped 9 = .ok (.istore 4, 2) := by decide +kernel
theorem dX6_skipped_11 : decode cX6_skipped 11 = .ok (.iconst 1, 1) := by decide +kernel
theorem dX6_skipped_12 : decode cX6_skipped 12 = .ok (.istore 5, 2) := by decide +kernel
theorem dX6_skipped_14 : decode cX6_skipped 14 = .ok (.iload 5, 2) := by decide +kernel
theorem dX6_skipped_16 : decode cX6_skipped 16 = .ok (.bipush 9, 2) := by decide +kernel
theorem dX6_skipped_18 : decode cX6_skipped 18 = .ok (.if_icmp .gt 66, 3) := by decide +kernel
theorem dX6_skipped_21 : decode cX6_skipped 21 = .ok (.aload_n 0, 1) := by decide +kernel
theorem dX6_skipped_22 : decode cX6_skipped 22 = .ok (.getfield 12, 3) := by decide +kernel
theorem dX6_skipped_25 : decode cX6_skipped 25 = .ok (.iload_n 1, 1) := by decide +kernel
theorem dX6_skipped_26 : decode cX6_skipped 26 = .ok (.iload_n 2, 1) := by decide +kernel
theorem dX6_skipped_27 : decode cX6_skipped 27 = .ok (.ifCond .eq 7, 3) := by decide +kernel
theorem dX6_skipped_30 : decode cX6_skipped 30 = .ok (.iconst 1, 1) := by decide +kernel
theorem dX6_skipped_31 : decode cX6_skipped 31 = .ok (.goto 4, 3) := by decide +kernel
theorem dX6_skipped_34 : decode cX6_skipped 34 = .ok (.iconst (-1), 1) := by decide +kernel
theorem dX6_skipped_35 : decode cX6_skipped 35 = .ok (.iload 5, 2) := by decide +kernel
theorem dX6_skipped_37 : decode cX6_skipped 37 = .ok (.iload_n 3, 1) := by decide +kernel
theorem dX6_skipped_38 : decode cX6_skipped 38 = .ok (.invokevirtual 176, 3) := by decide +kernel
theorem dX6_skipped_41 : decode cX6_skipped 41 = .ok (.istore 6, 2) := by decide +kernel
theorem dX6_skipped_43 : decode cX6_skipped 43 = .ok (.iload 6, 2) := by decide +kernel
theorem dX6_skipped_45 : decode cX6_skipped 45 = .ok (.iconst (-1), 1) := by decide +kernel
theorem dX6_skipped_46 : decode cX6_skipped 46 = .ok (.if_icmp .eq 32, 3) := by decide +kernel
theorem dX6_skipped_49 : decode cX6_skipped 49 = .ok (.iload 6, 2) := by decide +kernel
theorem dX6_skipped_51 : decode cX6_skipped 51 = .ok (.iload 5, 2) := by decide +kernel
theorem dX6_skipped_53 : decode cX6_skipped 53 = .ok (.invokestatic 179, 3) := by decide +kernel
theorem dX6_skipped_56 : decode cX6_skipped 56 = .ok (.istore 7, 2) := by decide +kernel
theorem dX6_skipped_58 : decode cX6_skipped 58 = .ok (.iload 4, 2) := by decide +kernel
theorem dX6_skipped_60 : decode cX6_skipped 60 = .ok (.iconst (-1), 1) := by decide +kernel
theorem dX6_skipped_61 : decode cX6_skipped 61 = .ok (.if_icmp .ne 8, 3) := by decide +kernel
theorem dX6_skipped_64 : decode cX6_skipped 64 = .ok (.iload 7, 2) := by decide +kernel
theorem dX6_skipped_66 : decode cX6_skipped 66 = .ok (.goto 10, 3) := by decide +kernel
theorem dX6_skipped_69 : decode cX6_skipped 69 = .ok (.iload 4, 2) := by decide +kernel
theorem dX6_skipped_71 : decode cX6_skipped 71 = .ok (.iload 7, 2) := by decide +kernel
theorem dX6_skipped_73 : decode cX6_skipped 73 = .ok (.invokestatic 223, 3) := by decide +kernel
theorem dX6_skipped_76 : decode cX6_skipped 76 = .ok (.istore 4, 2) := by decide +kernel
theorem dX6_skipped_78 : decode cX6_skipped 78 = .ok (.iinc 5 1, 3) := by decide +kernel
theorem dX6_skipped_81 : decode cX6_skipped 81 = .ok (.goto (-67), 3) := by decide +kernel
theorem dX6_skipped_84 : decode cX6_skipped 84 = .ok (.iload 4, 2) := by decide +kernel
theorem dX6_skipped_86 : decode cX6_skipped 86 = .ok (.iconst (-1), 1) := by decide +kernel
theorem dX6_skipped_87 : decode cX6_skipped 87 = .ok (.if_icmp .ne 7, 3) := by decide +kernel
theorem dX6_skipped_90 : decode cX6_skipped 90 = .ok (.iconst (-1), 1) := by decide +kernel
theorem dX6_skipped_91 : decode cX6_skipped 91 = .ok (.goto 11, 3) := by decide +kernel
theorem dX6_skipped_94 : decode cX6_skipped 94 = .ok (.iconst 0, 1) := by decide +kernel
theorem dX6_skipped_95 : decode cX6_skipped 95 = .ok (.iload 4, 2) := by decide +kernel
theorem dX6_skipped_97 : decode cX6_skipped 97 = .ok (.iconst 1, 1) := by decide +kernel
theorem dX6_skipped_98 : decode cX6_skipped 98 = .ok (.isub, 1) := by decide +kernel
theorem dX6_skipped_99 : decode cX6_skipped 99 = .ok (.invokestatic 226, 3) := by decide +kernel
theorem dX6_skipped_102 : decode cX6_skipped 102 = .ok (.ireturn, 1) := by decide +kernel
set_option maxRecDepth 20000 in
theorem ggX6_signal_X6_needStation : GoodIn wsX6_signal wsX6_needStation := goodIn_ca (goodIn_r _ [5, 6, 7, 8, 9, 10, 11, 12, 13, 14, 109, 110, 111, 112, 113, 114, 115, 116, 117, 118, 119, 120, 121, 122, 123, 124] (by decide +kernel) (by decide +kernel)) (goodIn_sub (fun _ h => List.mem_cons_of_mem _ (List.mem_append_left _ (List.mem_append_right _ h))) (by decide +kernel))
set_option maxRecDepth 20000 in
theorem gX6_signal_X6_needStation : GoodIn wsX6_signal (wsV RX6 122 RX6 yX6_needStation wsX6_needStation) := goodIn_app (goodIn_of _ (by decide +kernel)) ggX6_signal_X6_needStation
set_option maxRecDepth 20000 in
theorem ggX6_signal_X6_needFrequency : GoodIn wsX6_signal wsX6_needFrequency := goodIn_ca (goodIn_r _ [17, 18, 19, 4, 20, 21, 22] (by decide +kernel) (by decide +kernel)) (goodIn_sub (fun _ h => List.mem_cons_of_mem _ (List.mem_append_right _ h)) (by decide +kernel))
set_option maxRecDepth 20000 in
theorem gX6_signal_X6_needFrequency : GoodIn wsX6_signal (va_wsS RX6 117 yX6_needFrequency wsX6_needFrequency) := goodIn_app (goodIn_of _ (by decide +kernel)) ggX6_signal_X6_needFrequency
set_option maxRecDepth 20000 in
theorem ggX6_signal_X6_needDifferent : GoodIn wsX6_signal wsX6_needDifferent := goodIn_ca (goodIn_r _ [25, 21, 22] (by decide +kernel) (by decide +kernel)) (goodIn_sub (fun _ h => List.mem_cons_of_mem _ (List.mem_append_right _ h)) (by decide +kernel))
set_option maxRecDepth 20000 in
theorem gX6_signal_X6_needDifferent : GoodIn wsX6_signal (va_wsS RX6 125 yX6_needDifferent wsX6_needDifferent) := goodIn_app (goodIn_of _ (by decide +kernel)) ggX6_signal_X6_needDifferent
set_option maxRecDepth 20000 in
theorem ggX6_signal_X6_signalBetween : GoodIn wsX6_signal wsX6_signalBetween := goodIn_r _ [29, 30, 8, 31, 32, 33, 4, 34, 35, 36, 37, 38, 39, 40, 41, 42, 43, 44, 45, 46, 47, 48, 12, 49, 50, 51, 52, 53, 54, 55, 56, 57, 58, 59, 60, 61, 62, 63, 64, 65, 66, 67, 68, 69, 70, 71, 72, 73, 74, 75, 76, 77, 78, 79, 80, 81, 82, 83, 84, 85, 86, 87, 88, 89, 90, 91, 92, 93, 94, 95, 96, 97, 98, 99, 100, 101, 102, 103, 104, 105, 106, 107, 108, 109, 110, 111, 112, 113, 114, 115, 116, 117, 118, 119, 120, 121, 122, 123, 124, 125, 126, 127, 128, 129, 130, 131, 132, 133, 134, 135, 136, 137, 138, 139, 140, 141, 142] (by decide +kernel) (by decide +kernel)
set_option maxRecDepth 20000 in
theorem gX6_signal_X6_signalBetween : GoodIn wsX6_signal (wsV RX6 135 RX6 yX6_signalBetween wsX6_signalBetween) := goodIn_app (goodIn_of _ (by decide +kernel)) ggX6_signal_X6_signalBetween
theorem dX6_signal_0 : decode cX6_signal 0 = .ok (.aload_n 0, 1) := by decide +kernel
theorem dX6_signal_1 : decode cX6_signal 1 = .ok (.iload_n 1, 1) := by decide +kernel
theorem dX6_signal_2 : decode cX6_signal 2 = .ok (.invokevirtual 122, 3) := by decide +kernel
theorem dX6_signal_5 : decode cX6_signal 5 = .ok (.aload_n 0, 1) := by decide +kernel
theorem dX6_signal_6 : decode cX6_signal 6 = .ok (.iload_n 2, 1) := by decide +kernel
theorem dX6_signal_7 : decode cX6_signal 7 = .ok (.invokevirtual 122, 3) := by decide +kernel
theorem dX6_signal_10 : decode cX6_signal 10 = .ok (.iload_n 3, 1) := by decide +kernel
theorem dX6_signal_11 : decode cX6_signal 11 = .ok (.invokestatic 117, 3) := by decide +kernel
theorem dX6_signal_14 : decode cX6_signal 14 = .ok (.iload_n 1, 1) := by decide +kernel
theorem dX6_signal_15 : decode cX6_signal 15 = .ok (.iload_n 2, 1) := by decide +kernel
theorem dX6_signal_16 : decode cX6_signal 16 = .ok (.invokestatic 125, 3) := by decide +kernel
theorem dX6_signal_19 : decode cX6_signal 19 = .ok (.aload_n 0, 1) := by decide +kernel
theorem dX6_signal_20 : decode cX6_signal 20 = .ok (.iload_n 1, 1) := by decide +kernel
theorem dX6_signal_21 : decode cX6_signal 21 = .ok (.iload_n 2, 1) := by decide +kernel
theorem dX6_signal_22 : decode cX6_signal 22 = .ok (.iload_n 3, 1) := by decide +kernel
theorem dX6_signal_23 : decode cX6_signal 23 = .ok (.invokevirtual 135, 3) := by decide +kernel
theorem dX6_signal_26 : decode cX6_signal 26 = .ok (.ireturn, 1) := by decide +kernel
set_option maxRecDepth 20000 in
theorem ggX6_contactOf_X1_has : GoodIn wsX6_contactOf wsX1_has := goodIn_r _ [8, 9, 35, 36, 37, 38, 39, 40] (by decide +kernel) (by decide +kernel)
set_option maxRecDepth 20000 in
theorem gX6_contactOf_X1_has : GoodIn wsX6_contactOf (wsV RX6 229 RX1 yX1_has wsX1_has) := goodIn_app (goodIn_of _ (by decide +kernel)) ggX6_contactOf_X1_has
set_option maxRecDepth 20000 in
theorem ggX6_contactOf_X6_needRange : GoodIn wsX6_contactOf wsX6_needRange := goodIn_ca (goodIn_r _ [13, 14, 15] (by decide +kernel) (by decide +kernel)) (goodIn_sub (fun _ h => List.mem_cons_of_mem _ (List.mem_append_right _ h)) (by decide +kernel))
set_option maxRecDepth 20000 in
theorem gX6_contactOf_X6_needRange : GoodIn wsX6_contactOf (va_wsS RX6 59 yX6_needRange wsX6_needRange) := goodIn_app (goodIn_of _ (by decide +kernel)) ggX6_contactOf_X6_needRange
set_option maxRecDepth 20000 in
theorem ggX6_contactOf_X1_tell : GoodIn wsX6_contactOf wsX1_tell := goodIn_r _ [19, 20, 21, 22, 23, 24, 35, 36, 37, 38, 39, 40] (by decide +kernel) (by decide +kernel)
set_option maxRecDepth 20000 in
theorem gX6_contactOf_X1_tell : GoodIn wsX6_contactOf (wsV RX6 235 RX1 yX1_tell wsX1_tell) := goodIn_app (goodIn_of _ (by decide +kernel)) ggX6_contactOf_X1_tell
theorem dX6_contactOf_0 : decode cX6_contactOf 0 = .ok (.aload_n 0, 1) := by decide +kernel
theorem dX6_contactOf_1 : decode cX6_contactOf 1 = .ok (.getfield 48, 3) := by decide +kernel
theorem dX6_contactOf_4 : decode cX6_contactOf 4 = .ok (.iload_n 1, 1) := by decide +kernel
theorem dX6_contactOf_5 : decode cX6_contactOf 5 = .ok (.invokevirtual 229, 3) := by decide +kernel
theorem dX6_contactOf_8 : decode cX6_contactOf 8 = .ok (.ifCond .ne 13, 3) := by decide +kernel
theorem dX6_contactOf_11 : decode cX6_contactOf 11 = .ok (.new 203, 3) := by decide +kernel
theorem dX6_contactOf_14 : decode cX6_contactOf 14 = .ok (.dup, 1) := by decide +kernel
theorem dX6_contactOf_15 : decode cX6_contactOf 15 = .ok (.ldc 233, 2) := by decide +kernel
theorem dX6_contactOf_17 : decode cX6_contactOf 17 = .ok (.invokespecial 207, 3) := by decide +kernel
theorem dX6_contactOf_20 : decode cX6_contactOf 20 = .ok (.athrow, 1) := by decide +kernel
theorem dX6_contactOf_21 : decode cX6_contactOf 21 = .ok (.iload_n 2, 1) := by decide +kernel
theorem dX6_contactOf_22 : decode cX6_contactOf 22 = .ok (.iconst 0, 1) := by decide +kernel
theorem dX6_contactOf_23 : decode cX6_contactOf 23 = .ok (.iconst 4, 1) := by decide +kernel
theorem dX6_contactOf_24 : decode cX6_contactOf 24 = .ok (.invokestatic 59, 3) := by decide +kernel
theorem dX6_contactOf_27 : decode cX6_contactOf 27 = .ok (.aload_n 0, 1) := by decide +kernel
theorem dX6_contactOf_28 : decode cX6_contactOf 28 = .ok (.getfield 48, 3) := by decide +kernel
theorem dX6_contactOf_31 : decode cX6_contactOf 31 = .ok (.iload_n 1, 1) := by decide +kernel
theorem dX6_contactOf_32 : decode cX6_contactOf 32 = .ok (.iload_n 2, 1) := by decide +kernel
theorem dX6_contactOf_33 : decode cX6_contactOf 33 = .ok (.invokevirtual 235, 3) := by decide +kernel
theorem dX6_contactOf_36 : decode cX6_contactOf 36 = .ok (.ireturn, 1) := by decide +kernel
set_option maxRecDepth 20000 in
theorem ggX6_entryOf_X2_has : GoodIn wsX6_entryOf wsX2_has := goodIn_r _ [8, 9, 47, 48, 49, 50, 51, 52, 53] (by decide +kernel) (by decide +kernel)
set_option maxRecDepth 20000 in
theorem gX6_entryOf_X2_has : GoodIn wsX6_entryOf (wsV RX6 237 RX2 yX2_has wsX2_has) := goodIn_app (goodIn_of _ (by decide +kernel)) ggX6_entryOf_X2_has
set_option maxRecDepth 20000 in
theorem ggX6_entryOf_X6_needRange : GoodIn wsX6_entryOf wsX6_needRange := goodIn_ca (goodIn_r _ [13, 14, 15] (by decide +kernel) (by decide +kernel)) (goodIn_sub (fun _ h => List.mem_cons_of_mem _ (List.mem_append_right _ h)) (by decide +kernel))
set_option maxRecDepth 20000 in
theorem gX6_entryOf_X6_needRange : GoodIn wsX6_entryOf (va_wsS RX6 59 yX6_needRange wsX6_needRange) := goodIn_app (goodIn_of _ (by decide +kernel)) ggX6_entryOf_X6_needRange
set_option maxRecDepth 20000 in
theorem ggX6_entryOf_X6_counts : GoodIn wsX6_entryOf wsX6_counts := goodIn_r _ [19, 3, 20, 21, 22, 23, 24, 25, 26, 27, 37, 38, 39, 40, 41, 42, 43, 44, 45, 46, 47, 48, 49, 50, 51, 52, 53, 54, 55, 56, 57, 58, 59] (by decide +kernel) (by decide +kernel)
set_option maxRecDepth 20000 in
theorem gX6_entryOf_X6_counts : GoodIn wsX6_entryOf (wsV RX6 240 RX6 yX6_counts wsX6_counts) := goodIn_app (goodIn_of _ (by decide +kernel)) ggX6_entryOf_X6_counts
set_option maxRecDepth 20000 in
theorem ggX6_entryOf_X2_tell : GoodIn wsX6_entryOf wsX2_tell := goodIn_r _ [31, 32, 33, 34, 35, 36, 47, 48, 49, 50, 51, 52, 53] (by decide +kernel) (by decide +kernel)
set_option maxRecDepth 20000 in
theorem gX6_entryOf_X2_tell : GoodIn wsX6_entryOf (wsV RX6 243 RX2 yX2_tell wsX2_tell) := goodIn_app (goodIn_of _ (by decide +kernel)) ggX6_entryOf_X2_tell
