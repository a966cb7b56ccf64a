/-! names, fields, types: out of the printed names -/
def RX0 : String := "RindDates$Deeds"
def TX0 : u_T := fun k => match k with
  | 0 => ("RindDates$Deeds", "whats", "[I", true)
  | 1 => ("RindDates$Deeds", "whiches", "[I", true)
  | _ => ("RindDates$Deeds", "size", "I", false)
def tyX0 : Nat → FieldType := fun k => match k with
  | 0 => .array .int
  | 1 => .array .int
  | _ => .int
abbrev wsX00 : List Cond := u_ws RX0 TX0 3
theorem nmX0 : ∀ a, a < 3 → ∀ b, b < 3 → a ≠ b → (TX0 a).2.1 ≠ (TX0 b).2.1 := by decide +kernel
theorem tyX0_ok : ∀ k, k < 3 → parseFieldDescriptor (TX0 k).2.2.1 = some (tyX0 k) := by decide +kernel
abbrev cX0_init : ByteArray := prog_2_method_1_code
def yX0_init : MethodName := ⟨RX0, "<init>", "()V"⟩
abbrev cX0_isMissing : ByteArray := prog_2_method_2_code
def yX0_isMissing : MethodName := ⟨RX0, "isMissing", "()Z"⟩
abbrev cX0_hasRoom : ByteArray := prog_2_method_3_code
def yX0_hasRoom : MethodName := ⟨RX0, "hasRoom", "(I)Z"⟩
abbrev cX0_add : ByteArray := prog_2_method_4_code
def yX0_add : MethodName := ⟨RX0, "add", "(II)V"⟩
abbrev cX0_takeFrom : ByteArray := prog_2_method_5_code
def yX0_takeFrom : MethodName := ⟨RX0, "takeFrom", "(LRindDates$Deeds;)V"⟩
def RX1 : String := "RindDates$Farm"
def TX1 : u_T := fun k => match k with
  | 0 => ("RindDates$Farm", "first", "LRindDates$Grudges;", true)
  | 1 => ("RindDates$Farm", "now", "LRindDates$Grudges;", true)
  | 2 => ("RindDates$Farm", "wheels", "[LRindDates$Wheel;", true)
  | 3 => ("RindDates$Farm", "deeds", "LRindDates$Deeds;", true)
  | 4 => ("RindDates$Farm", "kept", "[LRindDates$Deeds;", true)
  | 5 => ("RindDates$Farm", "limit", "I", false)
  | 6 => ("RindDates$Farm", "size", "I", false)
  | _ => ("RindDates$Farm", "date", "I", false)
def tyX1 : Nat → FieldType := fun k => match k with
  | 0 => .object "RindDates$Grudges"
  | 1 => .object "RindDates$Grudges"
  | 2 => .array (.object "RindDates$Wheel")
  | 3 => .object "RindDates$Deeds"
  | 4 => .array (.object "RindDates$Deeds")
  | 5 => .int
  | 6 => .int
  | _ => .int
abbrev wsX10 : List Cond := u_ws RX1 TX1 8
theorem nmX1 : ∀ a, a < 8 → ∀ b, b < 8 → a ≠ b → (TX1 a).2.1 ≠ (TX1 b).2.1 := by decide +kernel
theorem tyX1_ok : ∀ k, k < 8 → parseFieldDescriptor (TX1 k).2.2.1 = some (tyX1 k) := by decide +kernel
abbrev cX1_init : ByteArray := prog_3_method_1_code
def yX1_init : MethodName := ⟨RX1, "<init>", "()V"⟩
abbrev cX1_isEmpty : ByteArray := prog_3_method_2_code
def yX1_isEmpty : MethodName := ⟨RX1, "isEmpty", "()Z"⟩
abbrev cX1_wheelOf : ByteArray := prog_3_method_3_code
def yX1_wheelOf : MethodName := ⟨RX1, "wheelOf", "(I)LRindDates$Wheel;"⟩
abbrev cX1_keptOf : ByteArray := prog_3_method_4_code
def yX1_keptOf : MethodName := ⟨RX1, "keptOf", "(I)LRindDates$Deeds;"⟩
abbrev cX1_isSilentBy : ByteArray := prog_3_method_5_code
def yX1_isSilentBy : MethodName := ⟨RX1, "isSilentBy", "(I)Z"⟩
abbrev cX1_begin : ByteArray := prog_3_method_6_code
def yX1_begin : MethodName := ⟨RX1, "begin", "(LRindDates$Reading;)V"⟩
abbrev cX1_replay : ByteArray := prog_3_method_7_code
def yX1_replay : MethodName := ⟨RX1, "replay", "()V"⟩
abbrev cX1_enact : ByteArray := prog_3_method_8_code
def yX1_enact : MethodName := ⟨RX1, "enact", "(II)V"⟩
abbrev cX1_act : ByteArray := prog_3_method_9_code
def yX1_act : MethodName := ⟨RX1, "act", "(II)V"⟩
abbrev cX1_actOn : ByteArray := prog_3_method_10_code
def yX1_actOn : MethodName := ⟨RX1, "actOn", "(LRindDates$Wheel;I)V"⟩
abbrev cX1_isOnShelf : ByteArray := prog_3_method_11_code
def yX1_isOnShelf : MethodName := ⟨RX1, "isOnShelf", "(LRindDates$Wheel;)Z"⟩
abbrev cX1_tellOf : ByteArray := prog_3_method_12_code
def yX1_tellOf : MethodName := ⟨RX1, "tellOf", "(LRindDates$Wheel;I)I"⟩
abbrev cX1_shelfBits : ByteArray := prog_3_method_13_code
def yX1_shelfBits : MethodName := ⟨RX1, "shelfBits", "()I"⟩
abbrev cX1_shelfRind : ByteArray := prog_3_method_14_code
def yX1_shelfRind : MethodName := ⟨RX1, "shelfRind", "()I"⟩
abbrev cX1_oldWheels : ByteArray := prog_3_method_15_code
def yX1_oldWheels : MethodName := ⟨RX1, "oldWheels", "()I"⟩
abbrev cX1_keptThere : ByteArray := prog_3_method_16_code
def yX1_keptThere : MethodName := ⟨RX1, "keptThere", "()I"⟩
abbrev cX1_digestFrom : ByteArray := prog_3_method_17_code
def yX1_digestFrom : MethodName := ⟨RX1, "digestFrom", "(J)J"⟩
def RX2 : String := "RindDates$Grudges"
def TX2 : u_T := fun k => match k with
  | _ => ("RindDates$Grudges", "held", "[I", true)
def tyX2 : Nat → FieldType := fun k => match k with
  | _ => .array .int
abbrev wsX20 : List Cond := u_ws RX2 TX2 1
theorem nmX2 : ∀ a, a < 1 → ∀ b, b < 1 → a ≠ b → (TX2 a).2.1 ≠ (TX2 b).2.1 := by decide +kernel
theorem tyX2_ok : ∀ k, k < 1 → parseFieldDescriptor (TX2 k).2.2.1 = some (tyX2 k) := by decide +kernel
abbrev cX2_init : ByteArray := prog_4_method_1_code
def yX2_init : MethodName := ⟨RX2, "<init>", "()V"⟩
abbrev cX2_get : ByteArray := prog_4_method_2_code
def yX2_get : MethodName := ⟨RX2, "get", "(II)I"⟩
abbrev cX2_set : ByteArray := prog_4_method_3_code
def yX2_set : MethodName := ⟨RX2, "set", "(III)V"⟩
abbrev cX2_takeFrom : ByteArray := prog_4_method_4_code
def yX2_takeFrom : MethodName := ⟨RX2, "takeFrom", "(LRindDates$Grudges;)V"⟩
abbrev cX2_total : ByteArray := prog_4_method_5_code
def yX2_total : MethodName := ⟨RX2, "total", "()I"⟩
abbrev cX2_heldByBoth : ByteArray := prog_4_method_6_code
def yX2_heldByBoth : MethodName := ⟨RX2, "heldByBoth", "()I"⟩
abbrev cX2_passDay : ByteArray := prog_4_method_7_code
def yX2_passDay : MethodName := ⟨RX2, "passDay", "()V"⟩
abbrev cX2_raise : ByteArray := prog_4_method_8_code
def yX2_raise : MethodName := ⟨RX2, "raise", "(I)V"⟩
abbrev cX2_passDayWith : ByteArray := prog_4_method_9_code
def yX2_passDayWith : MethodName := ⟨RX2, "passDayWith", "(I)V"⟩
def RX3 : String := "RindDates$Plans"
def TX3 : u_T := fun k => match k with
  | 0 => ("RindDates$Plans", "said", "[I", true)
  | 1 => ("RindDates$Plans", "behind", "[LRindDates$Grudges;", true)
  | _ => ("RindDates$Plans", "days", "I", false)
def tyX3 : Nat → FieldType := fun k => match k with
  | 0 => .array .int
  | 1 => .array (.object "RindDates$Grudges")
  | _ => .int
abbrev wsX30 : List Cond := u_ws RX3 TX3 3
theorem nmX3 : ∀ a, a < 3 → ∀ b, b < 3 → a ≠ b → (TX3 a).2.1 ≠ (TX3 b).2.1 := by decide +kernel
theorem tyX3_ok : ∀ k, k < 3 → parseFieldDescriptor (TX3 k).2.2.1 = some (tyX3 k) := by decide +kernel
abbrev cX3_init : ByteArray := prog_5_method_1_code
def yX3_init : MethodName := ⟨RX3, "<init>", "()V"⟩
abbrev cX3_begin : ByteArray := prog_5_method_2_code
def yX3_begin : MethodName := ⟨RX3, "begin", "(LRindDates$Grudges;I)V"⟩
abbrev cX3_howMany : ByteArray := prog_5_method_3_code
def yX3_howMany : MethodName := ⟨RX3, "howMany", "()I"⟩
abbrev cX3_advance : ByteArray := prog_5_method_4_code
def yX3_advance : MethodName := ⟨RX3, "advance", "()V"⟩
abbrev cX3_after : ByteArray := prog_5_method_5_code
def yX3_after : MethodName := ⟨RX3, "after", "(I)I"⟩
abbrev cX3_reckonFrom : ByteArray := prog_5_method_6_code
def yX3_reckonFrom : MethodName := ⟨RX3, "reckonFrom", "(I)V"⟩
abbrev cX3_lastAnger : ByteArray := prog_5_method_7_code
def yX3_lastAnger : MethodName := ⟨RX3, "lastAnger", "()I"⟩
abbrev cX3_firstSaid : ByteArray := prog_5_method_8_code
def yX3_firstSaid : MethodName := ⟨RX3, "firstSaid", "()I"⟩
abbrev cX3_sayings : ByteArray := prog_5_method_9_code
def yX3_sayings : MethodName := ⟨RX3, "sayings", "()I"⟩
abbrev cX3_mattersSaid : ByteArray := prog_5_method_10_code
def yX3_mattersSaid : MethodName := ⟨RX3, "mattersSaid", "()I"⟩
abbrev cX3_leadsBy : ByteArray := prog_5_method_11_code
def yX3_leadsBy : MethodName := ⟨RX3, "leadsBy", "(LRindDates$Row;)Z"⟩
abbrev cX3_writeTo : ByteArray := prog_5_method_12_code
def yX3_writeTo : MethodName := ⟨RX3, "writeTo", "(LRindDates$Row;)V"⟩
def RX4 : String := "RindDates$Reading"
def TX4 : u_T := fun k => match k with
  | 0 => ("RindDates$Reading", "grudges", "LRindDates$Grudges;", true)
  | 1 => ("RindDates$Reading", "kinds", "[I", true)
  | 2 => ("RindDates$Reading", "keeps", "[I", true)
  | 3 => ("RindDates$Reading", "salts", "[I", true)
  | 4 => ("RindDates$Reading", "limit", "I", false)
  | 5 => ("RindDates$Reading", "wheels", "I", false)
  | _ => ("RindDates$Reading", "place", "I", false)
def tyX4 : Nat → FieldType := fun k => match k with
  | 0 => .object "RindDates$Grudges"
  | 1 => .array .int
  | 2 => .array .int
  | 3 => .array .int
  | 4 => .int
  | 5 => .int
  | _ => .int
abbrev wsX40 : List Cond := u_ws RX4 TX4 7
theorem nmX4 : ∀ a, a < 7 → ∀ b, b < 7 → a ≠ b → (TX4 a).2.1 ≠ (TX4 b).2.1 := by decide +kernel
theorem tyX4_ok : ∀ k, k < 7 → parseFieldDescriptor (TX4 k).2.2.1 = some (tyX4 k) := by decide +kernel
abbrev cX4_init : ByteArray := prog_6_method_1_code
def yX4_init : MethodName := ⟨RX4, "<init>", "()V"⟩
abbrev cX4_read : ByteArray := prog_6_method_2_code
def yX4_read : MethodName := ⟨RX4, "read", "(LRindDates$Row;)I"⟩
abbrev cX4_skipBlanks : ByteArray := prog_6_method_3_code
def yX4_skipBlanks : MethodName := ⟨RX4, "skipBlanks", "(LRindDates$Row;)V"⟩
abbrev cX4_hasFigure : ByteArray := prog_6_method_4_code
def yX4_hasFigure : MethodName := ⟨RX4, "hasFigure", "(LRindDates$Row;)Z"⟩
abbrev cX4_takeFigure : ByteArray := prog_6_method_5_code
def yX4_takeFigure : MethodName := ⟨RX4, "takeFigure", "(LRindDates$Row;)I"⟩
abbrev cX4_readBrothers : ByteArray := prog_6_method_6_code
def yX4_readBrothers : MethodName := ⟨RX4, "readBrothers", "(LRindDates$Row;)I"⟩
abbrev cX4_readLimit : ByteArray := prog_6_method_7_code
def yX4_readLimit : MethodName := ⟨RX4, "readLimit", "(LRindDates$Row;)I"⟩
abbrev cX4_readWheels : ByteArray := prog_6_method_8_code
def yX4_readWheels : MethodName := ⟨RX4, "readWheels", "(LRindDates$Row;)I"⟩
abbrev cX4_readWheel : ByteArray := prog_6_method_9_code
def yX4_readWheel : MethodName := ⟨RX4, "readWheel", "(LRindDates$Row;I)Z"⟩
abbrev cX4_kindBy : ByteArray := prog_6_method_10_code
def yX4_kindBy : MethodName := ⟨RX4, "kindBy", "(I)I"⟩
def RX5 : String := "RindDates$Row"
def TX5 : u_T := fun k => match k with
  | 0 => ("RindDates$Row", "places", "[I", true)
  | 1 => ("RindDates$Row", "blank", "I", true)
  | _ => ("RindDates$Row", "size", "I", false)
def tyX5 : Nat → FieldType := fun k => match k with
  | 0 => .array .int
  | 1 => .int
  | _ => .int
abbrev wsX50 : List Cond := u_ws RX5 TX5 3
theorem nmX5 : ∀ a, a < 3 → ∀ b, b < 3 → a ≠ b → (TX5 a).2.1 ≠ (TX5 b).2.1 := by decide +kernel
theorem tyX5_ok : ∀ k, k < 3 → parseFieldDescriptor (TX5 k).2.2.1 = some (tyX5 k) := by decide +kernel
abbrev cX5_init : ByteArray := prog_7_method_1_code
def yX5_init : MethodName := ⟨RX5, "<init>", "(II)V"⟩
abbrev cX5_isMissing : ByteArray := prog_7_method_2_code
def yX5_isMissing : MethodName := ⟨RX5, "isMissing", "()Z"⟩
abbrev cX5_renew : ByteArray := prog_7_method_3_code
def yX5_renew : MethodName := ⟨RX5, "renew", "(I)V"⟩
abbrev cX5_hasPlace : ByteArray := prog_7_method_4_code
def yX5_hasPlace : MethodName := ⟨RX5, "hasPlace", "(I)Z"⟩
abbrev cX5_hasPlaces : ByteArray := prog_7_method_5_code
def yX5_hasPlaces : MethodName := ⟨RX5, "hasPlaces", "(II)Z"⟩
abbrev cX5_get : ByteArray := prog_7_method_6_code
def yX5_get : MethodName := ⟨RX5, "get", "(I)I"⟩
abbrev cX5_set : ByteArray := prog_7_method_7_code
def yX5_set : MethodName := ⟨RX5, "set", "(II)V"⟩
abbrev cX5_isWithin : ByteArray := prog_7_method_8_code
def yX5_isWithin : MethodName := ⟨RX5, "isWithin", "(I)Z"⟩
abbrev cX5_sum : ByteArray := prog_7_method_9_code
def yX5_sum : MethodName := ⟨RX5, "sum", "()J"⟩
abbrev cX5_digestFrom : ByteArray := prog_7_method_10_code
def yX5_digestFrom : MethodName := ⟨RX5, "digestFrom", "(J)J"⟩
def RX6 : String := "RindDates$Stalls"
def TX6 : u_T := fun k => match k with
  | 0 => ("RindDates$Stalls", "has", "[I", true)
  | 1 => ("RindDates$Stalls", "best", "[I", true)
  | _ => ("RindDates$Stalls", "size", "I", false)
def tyX6 : Nat → FieldType := fun k => match k with
  | 0 => .array .int
  | 1 => .array .int
  | _ => .int
abbrev wsX60 : List Cond := u_ws RX6 TX6 3
theorem nmX6 : ∀ a, a < 3 → ∀ b, b < 3 → a ≠ b → (TX6 a).2.1 ≠ (TX6 b).2.1 := by decide +kernel
theorem tyX6_ok : ∀ k, k < 3 → parseFieldDescriptor (TX6 k).2.2.1 = some (tyX6 k) := by decide +kernel
abbrev cX6_init : ByteArray := prog_8_method_1_code
def yX6_init : MethodName := ⟨RX6, "<init>", "()V"⟩
abbrev cX6_fillFrom : ByteArray := prog_8_method_2_code
def yX6_fillFrom : MethodName := ⟨RX6, "fillFrom", "(LRindDates$Farm;LRindDates$Row;)I"⟩
abbrev cX6_filledBy : ByteArray := prog_8_method_3_code
def yX6_filledBy : MethodName := ⟨RX6, "filledBy", "(ILRindDates$Farm;LRindDates$Row;)I"⟩
abbrev cX6_writeTo : ByteArray := prog_8_method_4_code
def yX6_writeTo : MethodName := ⟨RX6, "writeTo", "(LRindDates$Row;)V"⟩
def RX7 : String := "RindDates$Told"
def TX7 : u_T := fun k => match k with
  | 0 => ("RindDates$Told", "times", "[I", true)
  | 1 => ("RindDates$Told", "latest", "I", false)
  | 2 => ("RindDates$Told", "asked", "I", false)
  | 3 => ("RindDates$Told", "upper", "J", false)
  | _ => ("RindDates$Told", "lower", "J", false)
def tyX7 : Nat → FieldType := fun k => match k with
  | 0 => .array .int
  | 1 => .int
  | 2 => .int
  | 3 => .long
  | _ => .long
abbrev wsX70 : List Cond := u_ws RX7 TX7 5
theorem nmX7 : ∀ a, a < 5 → ∀ b, b < 5 → a ≠ b → (TX7 a).2.1 ≠ (TX7 b).2.1 := by decide +kernel
theorem tyX7_ok : ∀ k, k < 5 → parseFieldDescriptor (TX7 k).2.2.1 = some (tyX7 k) := by decide +kernel
abbrev cX7_init : ByteArray := prog_9_method_1_code
def yX7_init : MethodName := ⟨RX7, "<init>", "()V"⟩
abbrev cX7_refuse : ByteArray := prog_9_method_2_code
def yX7_refuse : MethodName := ⟨RX7, "refuse", "(I)I"⟩
abbrev cX7_timesOf : ByteArray := prog_9_method_3_code
def yX7_timesOf : MethodName := ⟨RX7, "timesOf", "(I)I"⟩
abbrev cX7_tell : ByteArray := prog_9_method_4_code
def yX7_tell : MethodName := ⟨RX7, "tell", "(I)I"⟩
abbrev cX7_tellParts : ByteArray := prog_9_method_5_code
def yX7_tellParts : MethodName := ⟨RX7, "tellParts", "(JJ)V"⟩
abbrev cX7_commonPart : ByteArray := prog_9_method_6_code
def yX7_commonPart : MethodName := ⟨RX7, "commonPart", "(JJ)J"⟩
def RX8 : String := "RindDates$Wheel"
def TX8 : u_T := fun k => match k with
  | 0 => ("RindDates$Wheel", "kind", "I", false)
  | 1 => ("RindDates$Wheel", "keeps", "I", false)
  | 2 => ("RindDates$Wheel", "salt", "I", false)
  | 3 => ("RindDates$Wheel", "madeOn", "I", false)
  | 4 => ("RindDates$Wheel", "rind", "I", false)
  | _ => ("RindDates$Wheel", "sold", "Z", false)
def tyX8 : Nat → FieldType := fun k => match k with
  | 0 => .int
  | 1 => .int
  | 2 => .int
  | 3 => .int
  | 4 => .int
  | _ => .boolean
abbrev wsX80 : List Cond := u_ws RX8 TX8 6
theorem nmX8 : ∀ a, a < 6 → ∀ b, b < 6 → a ≠ b → (TX8 a).2.1 ≠ (TX8 b).2.1 := by decide +kernel
theorem tyX8_ok : ∀ k, k < 6 → parseFieldDescriptor (TX8 k).2.2.1 = some (tyX8 k) := by decide +kernel
abbrev cX8_init : ByteArray := prog_10_method_1_code
def yX8_init : MethodName := ⟨RX8, "<init>", "()V"⟩
abbrev cX8_forget : ByteArray := prog_10_method_2_code
def yX8_forget : MethodName := ⟨RX8, "forget", "()V"⟩
abbrev cX8_isMade : ByteArray := prog_10_method_3_code
def yX8_isMade : MethodName := ⟨RX8, "isMade", "()Z"⟩
abbrev cX8_rindBy : ByteArray := prog_10_method_4_code
def yX8_rindBy : MethodName := ⟨RX8, "rindBy", "(II)I"⟩
def RX9 : String := "RindDates"
def TX9 : u_T := fun k => match k with
  | 0 => ("RindDates", "rows", "[LRindDates$Row;", true)
  | 1 => ("RindDates", "texts", "[LRindDates$Row;", true)
  | 2 => ("RindDates", "farm", "LRindDates$Farm;", true)
  | 3 => ("RindDates", "reading", "LRindDates$Reading;", true)
  | 4 => ("RindDates", "plans", "LRindDates$Plans;", true)
  | 5 => ("RindDates", "stalls", "LRindDates$Stalls;", true)
  | 6 => ("RindDates", "aside", "LRindDates$Grudges;", true)
  | _ => ("RindDates", "told", "LRindDates$Told;", true)
def tyX9 : Nat → FieldType := fun k => match k with
  | 0 => .array (.object "RindDates$Row")
  | 1 => .array (.object "RindDates$Row")
  | 2 => .object "RindDates$Farm"
  | 3 => .object "RindDates$Reading"
  | 4 => .object "RindDates$Plans"
  | 5 => .object "RindDates$Stalls"
  | 6 => .object "RindDates$Grudges"
  | _ => .object "RindDates$Told"
abbrev wsX90 : List Cond := u_ws RX9 TX9 8
theorem nmX9 : ∀ a, a < 8 → ∀ b, b < 8 → a ≠ b → (TX9 a).2.1 ≠ (TX9 b).2.1 := by decide +kernel
theorem tyX9_ok : ∀ k, k < 8 → parseFieldDescriptor (TX9 k).2.2.1 = some (tyX9 k) := by decide +kernel
abbrev cX9_init : ByteArray := prog_1_method_1_code
def yX9_init : MethodName := ⟨RX9, "<init>", "()V"⟩
abbrev cX9_row : ByteArray := prog_1_method_2_code
def yX9_row : MethodName := ⟨RX9, "row", "(II)I"⟩
abbrev cX9_lay : ByteArray := prog_1_method_3_code
def yX9_lay : MethodName := ⟨RX9, "lay", "(III)I"⟩
abbrev cX9_at : ByteArray := prog_1_method_4_code
def yX9_at : MethodName := ⟨RX9, "at", "(II)I"⟩
abbrev cX9_tear : ByteArray := prog_1_method_5_code
def yX9_tear : MethodName := ⟨RX9, "tear", "(I)I"⟩
abbrev cX9_copy : ByteArray := prog_1_method_6_code
def yX9_copy : MethodName := ⟨RX9, "copy", "(IIIII)I"⟩
abbrev cX9_mean : ByteArray := prog_1_method_7_code
def yX9_mean : MethodName := ⟨RX9, "mean", "(I)I"⟩
abbrev cX9_text : ByteArray := prog_1_method_8_code
def yX9_text : MethodName := ⟨RX9, "text", "(II)I"⟩
abbrev cX9_put : ByteArray := prog_1_method_9_code
def yX9_put : MethodName := ⟨RX9, "put", "(III)I"⟩
abbrev cX9_fault : ByteArray := prog_1_method_10_code
def yX9_fault : MethodName := ⟨RX9, "fault", "(I)I"⟩
abbrev cX9_farm : ByteArray := prog_1_method_11_code
def yX9_farm : MethodName := ⟨RX9, "farm", "(I)I"⟩
abbrev cX9_wheel : ByteArray := prog_1_method_12_code
def yX9_wheel : MethodName := ⟨RX9, "wheel", "(II)I"⟩
abbrev cX9_mark : ByteArray := prog_1_method_13_code
def yX9_mark : MethodName := ⟨RX9, "mark", "(II)I"⟩
abbrev cX9_holds : ByteArray := prog_1_method_14_code
def yX9_holds : MethodName := ⟨RX9, "holds", "(II)I"⟩
abbrev cX9_anger : ByteArray := prog_1_method_15_code
def yX9_anger : MethodName := ⟨RX9, "anger", "(I)I"⟩
abbrev cX9_day : ByteArray := prog_1_method_16_code
def yX9_day : MethodName := ⟨RX9, "day", "()I"⟩
abbrev cX9_say : ByteArray := prog_1_method_17_code
def yX9_say : MethodName := ⟨RX9, "say", "(I)I"⟩
abbrev cX9_make : ByteArray := prog_1_method_18_code
def yX9_make : MethodName := ⟨RX9, "make", "(I)I"⟩
abbrev cX9_sell : ByteArray := prog_1_method_19_code
def yX9_sell : MethodName := ⟨RX9, "sell", "(I)I"⟩
abbrev cX9_undo : ByteArray := prog_1_method_20_code
def yX9_undo : MethodName := ⟨RX9, "undo", "(I)I"⟩
abbrev cX9_keep : ByteArray := prog_1_method_21_code
def yX9_keep : MethodName := ⟨RX9, "keep", "(I)I"⟩
abbrev cX9_on : ByteArray := prog_1_method_22_code
def yX9_on : MethodName := ⟨RX9, "on", "(I)I"⟩
abbrev cX9_peace : ByteArray := prog_1_method_23_code
def yX9_peace : MethodName := ⟨RX9, "peace", "()I"⟩
abbrev cX9_plan : ByteArray := prog_1_method_24_code
def yX9_plan : MethodName := ⟨RX9, "plan", "(IIII)I"⟩
abbrev cX9_through : ByteArray := prog_1_method_25_code
def yX9_through : MethodName := ⟨RX9, "through", "(I)I"⟩
abbrev cX9_about : ByteArray := prog_1_method_26_code
def yX9_about : MethodName := ⟨RX9, "about", "(I)I"⟩
abbrev cX9_sure : ByteArray := prog_1_method_27_code
def yX9_sure : MethodName := ⟨RX9, "sure", "(I)I"⟩
abbrev cX9_salts : ByteArray := prog_1_method_28_code
def yX9_salts : MethodName := ⟨RX9, "salts", "(II)I"⟩
abbrev cX9_kinds : ByteArray := prog_1_method_29_code
def yX9_kinds : MethodName := ⟨RX9, "kinds", "(II)I"⟩
abbrev cX9_test : ByteArray := prog_1_method_30_code
def yX9_test : MethodName := ⟨RX9, "test", "(II)I"⟩
abbrev cX9_shows : ByteArray := prog_1_method_31_code
def yX9_shows : MethodName := ⟨RX9, "shows", "(II)I"⟩
abbrev cX9_duel : ByteArray := prog_1_method_32_code
def yX9_duel : MethodName := ⟨RX9, "duel", "(I)I"⟩
abbrev cX9_odds : ByteArray := prog_1_method_33_code
def yX9_odds : MethodName := ⟨RX9, "odds", "(III)I"⟩
abbrev cX9_mid : ByteArray := prog_1_method_34_code
def yX9_mid : MethodName := ⟨RX9, "mid", "(III)I"⟩
abbrev cX9_lots : ByteArray := prog_1_method_35_code
def yX9_lots : MethodName := ⟨RX9, "lots", "(II)I"⟩
abbrev cX9_asked : ByteArray := prog_1_method_36_code
def yX9_asked : MethodName := ⟨RX9, "asked", "()I"⟩
abbrev cX9_upper : ByteArray := prog_1_method_37_code
def yX9_upper : MethodName := ⟨RX9, "upper", "()J"⟩
abbrev cX9_lower : ByteArray := prog_1_method_38_code
def yX9_lower : MethodName := ⟨RX9, "lower", "()J"⟩
abbrev cX9_count : ByteArray := prog_1_method_39_code
def yX9_count : MethodName := ⟨RX9, "count", "(I)I"⟩
abbrev cX9_finding : ByteArray := prog_1_method_40_code
def yX9_finding : MethodName := ⟨RX9, "finding", "()I"⟩
abbrev cX9_findings : ByteArray := prog_1_method_41_code
def yX9_findings : MethodName := ⟨RX9, "findings", "(I)I"⟩
abbrev cX9_digest : ByteArray := prog_1_method_42_code
def yX9_digest : MethodName := ⟨RX9, "digest", "()J"⟩
abbrev cX9_within : ByteArray := prog_1_method_43_code
def yX9_within : MethodName := ⟨RX9, "within", "(III)Z"⟩
abbrev cX9_isMatter : ByteArray := prog_1_method_44_code
def yX9_isMatter : MethodName := ⟨RX9, "isMatter", "(I)Z"⟩
abbrev cX9_rowOf : ByteArray := prog_1_method_45_code
def yX9_rowOf : MethodName := ⟨RX9, "rowOf", "(I)LRindDates$Row;"⟩
abbrev cX9_textOf : ByteArray := prog_1_method_46_code
def yX9_textOf : MethodName := ⟨RX9, "textOf", "(I)LRindDates$Row;"⟩
abbrev cX9_refusalOf : ByteArray := prog_1_method_47_code
def yX9_refusalOf : MethodName := ⟨RX9, "refusalOf", "(LRindDates$Row;)I"⟩
abbrev cX9_refusalOfPlace : ByteArray := prog_1_method_48_code
def yX9_refusalOfPlace : MethodName := ⟨RX9, "refusalOfPlace", "(LRindDates$Row;I)I"⟩
abbrev cX9_isPlan : ByteArray := prog_1_method_49_code
def yX9_isPlan : MethodName := ⟨RX9, "isPlan", "(LRindDates$Row;)Z"⟩
abbrev cX9_areChances : ByteArray := prog_1_method_50_code
def yX9_areChances : MethodName := ⟨RX9, "areChances", "(III)Z"⟩
abbrev cX9_refusalOfAngers : ByteArray := prog_1_method_51_code
def yX9_refusalOfAngers : MethodName := ⟨RX9, "refusalOfAngers", "(LRindDates$Row;)I"⟩
abbrev cX9_refusalOfPairs : ByteArray := prog_1_method_52_code
def yX9_refusalOfPairs : MethodName := ⟨RX9, "refusalOfPairs", "(LRindDates$Wheel;LRindDates$Row;)I"⟩
abbrev cX9_rindOf : ByteArray := prog_1_method_53_code
def yX9_rindOf : MethodName := ⟨RX9, "rindOf", "(IIII)I"⟩
abbrev cX9_isOf : ByteArray := prog_1_method_54_code
def yX9_isOf : MethodName := ⟨RX9, "isOf", "(II)Z"⟩
abbrev cX9_markOf : ByteArray := prog_1_method_55_code
def yX9_markOf : MethodName := ⟨RX9, "markOf", "(LRindDates$Wheel;I)I"⟩
abbrev cX9_fits : ByteArray := prog_1_method_56_code
def yX9_fits : MethodName := ⟨RX9, "fits", "(IILRindDates$Row;)Z"⟩
abbrev cX9_kindsBy : ByteArray := prog_1_method_57_code
def yX9_kindsBy : MethodName := ⟨RX9, "kindsBy", "(ILRindDates$Row;)I"⟩
abbrev cX9_greatestPart : ByteArray := prog_1_method_58_code
def yX9_greatestPart : MethodName := ⟨RX9, "greatestPart", "(III)I"⟩
abbrev cX9_mostByNephew : ByteArray := prog_1_method_59_code
def yX9_mostByNephew : MethodName := ⟨RX9, "mostByNephew", "(LRindDates$Grudges;I)I"⟩
abbrev cX9_leastByAunt : ByteArray := prog_1_method_60_code
def yX9_leastByAunt : MethodName := ⟨RX9, "leastByAunt", "(LRindDates$Grudges;I)I"⟩
abbrev cX9_power : ByteArray := prog_1_method_61_code
def yX9_power : MethodName := ⟨RX9, "power", "(JI)J"⟩
abbrev cX9_weighed : ByteArray := prog_1_method_62_code
def yX9_weighed : MethodName := ⟨RX9, "weighed", "(IIIZ)J"⟩
abbrev cX9_enactLot : ByteArray := prog_1_method_63_code
def yX9_enactLot : MethodName := ⟨RX9, "enactLot", "(I)V"⟩
abbrev cX9_counted : ByteArray := prog_1_method_64_code
def yX9_counted : MethodName := ⟨RX9, "counted", "(I)I"⟩
abbrev cX9_thereOf : ByteArray := prog_1_method_65_code
def yX9_thereOf : MethodName := ⟨RX9, "thereOf", "([LRindDates$Row;)I"⟩
abbrev cX9_digestOf : ByteArray := prog_1_method_66_code
def yX9_digestOf : MethodName := ⟨RX9, "digestOf", "([LRindDates$Row;J)J"⟩
def RX10 : String := "RindDatesModel"
def TX10 : u_T := fun k => match k with
  | 0 => ("RindDatesModel", "farm0", "[I", true)
  | 1 => ("RindDatesModel", "kept", "[I", true)
  | 2 => ("RindDatesModel", "isKept", "[Z", true)
  | 3 => ("RindDatesModel", "rows", "[I", true)
  | 4 => ("RindDatesModel", "rowLong", "[I", true)
  | 5 => ("RindDatesModel", "texts", "[I", true)
  | 6 => ("RindDatesModel", "textLong", "[I", true)
  | 7 => ("RindDatesModel", "found", "[I", true)
  | 8 => ("RindDatesModel", "latest", "I", false)
  | 9 => ("RindDatesModel", "askedIs", "I", false)
  | 10 => ("RindDatesModel", "above", "J", false)
  | 11 => ("RindDatesModel", "below", "J", false)
  | 12 => ("RindDatesModel", "taken", "[I", true)
  | 13 => ("RindDatesModel", "anew", "[I", true)
  | 14 => ("RindDatesModel", "place", "I", false)
  | 15 => ("RindDatesModel", "hand", "[I", true)
  | 16 => ("RindDatesModel", "manyPlans", "I", false)
  | 17 => ("RindDatesModel", "firstPlan", "I", false)
  | 18 => ("RindDatesModel", "saidInAll", "I", false)
  | 19 => ("RindDatesModel", "saidInSome", "I", false)
  | 20 => ("RindDatesModel", "wants", "[I", true)
  | 21 => ("RindDatesModel", "has0", "[I", true)
  | 22 => ("RindDatesModel", "bestHas", "[I", true)
  | 23 => ("RindDatesModel", "choices", "[I", true)
  | _ => ("RindDatesModel", "values", "[I", true)
def tyX10 : Nat → FieldType := fun k => match k with
  | 0 => .array .int
  | 1 => .array .int
  | 2 => .array .boolean
  | 3 => .array .int
  | 4 => .array .int
  | 5 => .array .int
  | 6 => .array .int
  | 7 => .array .int
  | 8 => .int
  | 9 => .int
  | 10 => .long
  | 11 => .long
  | 12 => .array .int
  | 13 => .array .int
  | 14 => .int
  | 15 => .array .int
  | 16 => .int
  | 17 => .int
  | 18 => .int
  | 19 => .int
  | 20 => .array .int
  | 21 => .array .int
  | 22 => .array .int
  | 23 => .array .int
  | _ => .array .int
abbrev wsX100 : List Cond := u_ws RX10 TX10 25
theorem nmX10 : ∀ a, a < 25 → ∀ b, b < 25 → a ≠ b → (TX10 a).2.1 ≠ (TX10 b).2.1 := by decide +kernel
theorem tyX10_ok : ∀ k, k < 25 → parseFieldDescriptor (TX10 k).2.2.1 = some (tyX10 k) := by decide +kernel
abbrev cX10_init : ByteArray := prog_12_method_1_code
def yX10_init : MethodName := ⟨RX10, "<init>", "()V"⟩
abbrev cX10_in : ByteArray := prog_12_method_3_code
def yX10_in : MethodName := ⟨RX10, "in", "(JJJ)Z"⟩
abbrev cX10_finds : ByteArray := prog_12_method_4_code
def yX10_finds : MethodName := ⟨RX10, "finds", "(I)I"⟩
abbrev cX10_asks : ByteArray := prog_12_method_5_code
def yX10_asks : MethodName := ⟨RX10, "asks", "(I)I"⟩
abbrev cX10_isRow : ByteArray := prog_12_method_6_code
def yX10_isRow : MethodName := ⟨RX10, "isRow", "(I)Z"⟩
abbrev cX10_isText : ByteArray := prog_12_method_7_code
def yX10_isText : MethodName := ⟨RX10, "isText", "(I)Z"⟩
abbrev cX10_row : ByteArray := prog_12_method_8_code
def yX10_row : MethodName := ⟨RX10, "row", "(II)I"⟩
abbrev cX10_lay : ByteArray := prog_12_method_9_code
def yX10_lay : MethodName := ⟨RX10, "lay", "(III)I"⟩
abbrev cX10_at : ByteArray := prog_12_method_10_code
def yX10_at : MethodName := ⟨RX10, "at", "(II)I"⟩
abbrev cX10_tear : ByteArray := prog_12_method_11_code
def yX10_tear : MethodName := ⟨RX10, "tear", "(I)I"⟩
abbrev cX10_copy : ByteArray := prog_12_method_12_code
def yX10_copy : MethodName := ⟨RX10, "copy", "(IIIII)I"⟩
abbrev cX10_mean : ByteArray := prog_12_method_13_code
def yX10_mean : MethodName := ⟨RX10, "mean", "(I)I"⟩
abbrev cX10_text : ByteArray := prog_12_method_14_code
def yX10_text : MethodName := ⟨RX10, "text", "(II)I"⟩
abbrev cX10_put : ByteArray := prog_12_method_15_code
def yX10_put : MethodName := ⟨RX10, "put", "(III)I"⟩
abbrev cX10_here : ByteArray := prog_12_method_16_code
def yX10_here : MethodName := ⟨RX10, "here", "(I)I"⟩
abbrev cX10_skip : ByteArray := prog_12_method_17_code
def yX10_skip : MethodName := ⟨RX10, "skip", "(I)V"⟩
abbrev cX10_takes : ByteArray := prog_12_method_18_code
def yX10_takes : MethodName := ⟨RX10, "takes", "(III)Z"⟩
abbrev cX10_takesFirst : ByteArray := prog_12_method_19_code
def yX10_takesFirst : MethodName := ⟨RX10, "takesFirst", "(I)Z"⟩
abbrev cX10_kindBy : ByteArray := prog_12_method_20_code
def yX10_kindBy : MethodName := ⟨RX10, "kindBy", "(I)I"⟩
abbrev cX10_takesWheel : ByteArray := prog_12_method_21_code
def yX10_takesWheel : MethodName := ⟨RX10, "takesWheel", "(I)Z"⟩
abbrev cX10_faultOf : ByteArray := prog_12_method_22_code
def yX10_faultOf : MethodName := ⟨RX10, "faultOf", "(I)I"⟩
abbrev cX10_fault : ByteArray := prog_12_method_23_code
def yX10_fault : MethodName := ⟨RX10, "fault", "(I)I"⟩
abbrev cX10_farm : ByteArray := prog_12_method_24_code
def yX10_farm : MethodName := ⟨RX10, "farm", "(I)I"⟩
abbrev cX10_begin : ByteArray := prog_12_method_25_code
def yX10_begin : MethodName := ⟨RX10, "begin", "([I)V"⟩
abbrev cX10_angerOf : ByteArray := prog_12_method_26_code
def yX10_angerOf : MethodName := ⟨RX10, "angerOf", "([I)I"⟩
abbrev cX10_isSilent : ByteArray := prog_12_method_27_code
def yX10_isSilent : MethodName := ⟨RX10, "isSilent", "([I)Z"⟩
abbrev cX10_rindAs : ByteArray := prog_12_method_28_code
def yX10_rindAs : MethodName := ⟨RX10, "rindAs", "(IIIZ)I"⟩
abbrev cX10_rindNow : ByteArray := prog_12_method_29_code
def yX10_rindNow : MethodName := ⟨RX10, "rindNow", "([II)I"⟩
abbrev cX10_passDay : ByteArray := prog_12_method_30_code
def yX10_passDay : MethodName := ⟨RX10, "passDay", "([I)V"⟩
abbrev cX10_goSaying : ByteArray := prog_12_method_31_code
def yX10_goSaying : MethodName := ⟨RX10, "goSaying", "([II)V"⟩
abbrev cX10_goDeed : ByteArray := prog_12_method_32_code
def yX10_goDeed : MethodName := ⟨RX10, "goDeed", "([II)V"⟩
abbrev cX10_does : ByteArray := prog_12_method_33_code
def yX10_does : MethodName := ⟨RX10, "does", "(I)V"⟩
abbrev cX10_isWheel : ByteArray := prog_12_method_34_code
def yX10_isWheel : MethodName := ⟨RX10, "isWheel", "(I)Z"⟩
abbrev cX10_isShelved : ByteArray := prog_12_method_35_code
def yX10_isShelved : MethodName := ⟨RX10, "isShelved", "([II)Z"⟩
abbrev cX10_toldOf : ByteArray := prog_12_method_36_code
def yX10_toldOf : MethodName := ⟨RX10, "toldOf", "(II)I"⟩
abbrev cX10_wheel : ByteArray := prog_12_method_37_code
def yX10_wheel : MethodName := ⟨RX10, "wheel", "(II)I"⟩
abbrev cX10_isOf : ByteArray := prog_12_method_38_code
def yX10_isOf : MethodName := ⟨RX10, "isOf", "(II)Z"⟩
abbrev cX10_mark : ByteArray := prog_12_method_39_code
def yX10_mark : MethodName := ⟨RX10, "mark", "(II)I"⟩
abbrev cX10_manyShared : ByteArray := prog_12_method_40_code
def yX10_manyShared : MethodName := ⟨RX10, "manyShared", "()I"⟩
abbrev cX10_holds : ByteArray := prog_12_method_41_code
def yX10_holds : MethodName := ⟨RX10, "holds", "(II)I"⟩
abbrev cX10_layHand : ByteArray := prog_12_method_42_code
def yX10_layHand : MethodName := ⟨RX10, "layHand", "()V"⟩
abbrev cX10_anger : ByteArray := prog_12_method_43_code
def yX10_anger : MethodName := ⟨RX10, "anger", "(I)I"⟩
abbrev cX10_day : ByteArray := prog_12_method_44_code
def yX10_day : MethodName := ⟨RX10, "day", "()I"⟩
abbrev cX10_say : ByteArray := prog_12_method_45_code
def yX10_say : MethodName := ⟨RX10, "say", "(I)I"⟩
abbrev cX10_make : ByteArray := prog_12_method_46_code
def yX10_make : MethodName := ⟨RX10, "make", "(I)I"⟩
abbrev cX10_sell : ByteArray := prog_12_method_47_code
def yX10_sell : MethodName := ⟨RX10, "sell", "(I)I"⟩
abbrev cX10_undo : ByteArray := prog_12_method_48_code
def yX10_undo : MethodName := ⟨RX10, "undo", "(I)I"⟩
abbrev cX10_isPlace : ByteArray := prog_12_method_49_code
def yX10_isPlace : MethodName := ⟨RX10, "isPlace", "(I)Z"⟩
abbrev cX10_keep : ByteArray := prog_12_method_50_code
def yX10_keep : MethodName := ⟨RX10, "keep", "(I)I"⟩
abbrev cX10_on : ByteArray := prog_12_method_51_code
def yX10_on : MethodName := ⟨RX10, "on", "(I)I"⟩
abbrev cX10_peace : ByteArray := prog_12_method_52_code
def yX10_peace : MethodName := ⟨RX10, "peace", "()I"⟩
abbrev cX10_powerOfFive : ByteArray := prog_12_method_53_code
def yX10_powerOfFive : MethodName := ⟨RX10, "powerOfFive", "(I)I"⟩
abbrev cX10_goPlanned : ByteArray := prog_12_method_54_code
def yX10_goPlanned : MethodName := ⟨RX10, "goPlanned", "(I)V"⟩
abbrev cX10_saidOn : ByteArray := prog_12_method_55_code
def yX10_saidOn : MethodName := ⟨RX10, "saidOn", "(III)I"⟩
abbrev cX10_goPlan : ByteArray := prog_12_method_56_code
def yX10_goPlan : MethodName := ⟨RX10, "goPlan", "(II)I"⟩
abbrev cX10_plan : ByteArray := prog_12_method_57_code
def yX10_plan : MethodName := ⟨RX10, "plan", "(IIII)I"⟩
abbrev cX10_through : ByteArray := prog_12_method_58_code
def yX10_through : MethodName := ⟨RX10, "through", "(I)I"⟩
abbrev cX10_refusesAngers : ByteArray := prog_12_method_59_code
def yX10_refusesAngers : MethodName := ⟨RX10, "refusesAngers", "(I)I"⟩
abbrev cX10_isSo : ByteArray := prog_12_method_60_code
def yX10_isSo : MethodName := ⟨RX10, "isSo", "(II)Z"⟩
abbrev cX10_layPlans : ByteArray := prog_12_method_61_code
def yX10_layPlans : MethodName := ⟨RX10, "layPlans", "(I)V"⟩
abbrev cX10_about : ByteArray := prog_12_method_62_code
def yX10_about : MethodName := ⟨RX10, "about", "(I)I"⟩
abbrev cX10_sure : ByteArray := prog_12_method_63_code
def yX10_sure : MethodName := ⟨RX10, "sure", "(I)I"⟩
abbrev cX10_refusesPairs : ByteArray := prog_12_method_64_code
def yX10_refusesPairs : MethodName := ⟨RX10, "refusesPairs", "(II)I"⟩
abbrev cX10_rindBy : ByteArray := prog_12_method_65_code
def yX10_rindBy : MethodName := ⟨RX10, "rindBy", "(III)I"⟩
abbrev cX10_fits : ByteArray := prog_12_method_66_code
def yX10_fits : MethodName := ⟨RX10, "fits", "(III)Z"⟩
abbrev cX10_salts : ByteArray := prog_12_method_67_code
def yX10_salts : MethodName := ⟨RX10, "salts", "(II)I"⟩
abbrev cX10_kindsOf : ByteArray := prog_12_method_68_code
def yX10_kindsOf : MethodName := ⟨RX10, "kindsOf", "(II)I"⟩
abbrev cX10_kinds : ByteArray := prog_12_method_69_code
def yX10_kinds : MethodName := ⟨RX10, "kinds", "(II)I"⟩
abbrev cX10_greatestPart : ByteArray := prog_12_method_70_code
def yX10_greatestPart : MethodName := ⟨RX10, "greatestPart", "(III)I"⟩
abbrev cX10_test : ByteArray := prog_12_method_71_code
def yX10_test : MethodName := ⟨RX10, "test", "(II)I"⟩
abbrev cX10_manyBy : ByteArray := prog_12_method_72_code
def yX10_manyBy : MethodName := ⟨RX10, "manyBy", "(II)I"⟩
abbrev cX10_shows : ByteArray := prog_12_method_73_code
def yX10_shows : MethodName := ⟨RX10, "shows", "(II)I"⟩
abbrev cX10_goTurn : ByteArray := prog_12_method_74_code
def yX10_goTurn : MethodName := ⟨RX10, "goTurn", "(II)V"⟩
abbrev cX10_manyChoices : ByteArray := prog_12_method_75_code
def yX10_manyChoices : MethodName := ⟨RX10, "manyChoices", "(I)I"⟩
abbrev cX10_layChoices : ByteArray := prog_12_method_76_code
def yX10_layChoices : MethodName := ⟨RX10, "layChoices", "(I)V"⟩
abbrev cX10_duel : ByteArray := prog_12_method_77_code
def yX10_duel : MethodName := ⟨RX10, "duel", "(I)I"⟩
abbrev cX10_fraction : ByteArray := prog_12_method_78_code
def yX10_fraction : MethodName := ⟨RX10, "fraction", "(JJ)V"⟩
abbrev cX10_goOdds : ByteArray := prog_12_method_79_code
def yX10_goOdds : MethodName := ⟨RX10, "goOdds", "(IIIZ)I"⟩
abbrev cX10_odds : ByteArray := prog_12_method_80_code
def yX10_odds : MethodName := ⟨RX10, "odds", "(III)I"⟩
abbrev cX10_mid : ByteArray := prog_12_method_81_code
def yX10_mid : MethodName := ⟨RX10, "mid", "(III)I"⟩
abbrev cX10_lots : ByteArray := prog_12_method_82_code
def yX10_lots : MethodName := ⟨RX10, "lots", "(II)I"⟩
abbrev cX10_asked : ByteArray := prog_12_method_83_code
def yX10_asked : MethodName := ⟨RX10, "asked", "()I"⟩
abbrev cX10_upper : ByteArray := prog_12_method_84_code
def yX10_upper : MethodName := ⟨RX10, "upper", "()J"⟩
abbrev cX10_lower : ByteArray := prog_12_method_85_code
def yX10_lower : MethodName := ⟨RX10, "lower", "()J"⟩
abbrev cX10_shelf : ByteArray := prog_12_method_86_code
def yX10_shelf : MethodName := ⟨RX10, "shelf", "(Z)I"⟩
abbrev cX10_manyThere : ByteArray := prog_12_method_87_code
def yX10_manyThere : MethodName := ⟨RX10, "manyThere", "([I)I"⟩
abbrev cX10_counted : ByteArray := prog_12_method_88_code
def yX10_counted : MethodName := ⟨RX10, "counted", "(I)I"⟩
abbrev cX10_manyOld : ByteArray := prog_12_method_89_code
def yX10_manyOld : MethodName := ⟨RX10, "manyOld", "()I"⟩
abbrev cX10_count : ByteArray := prog_12_method_90_code
def yX10_count : MethodName := ⟨RX10, "count", "(I)I"⟩
abbrev cX10_finding : ByteArray := prog_12_method_91_code
def yX10_finding : MethodName := ⟨RX10, "finding", "()I"⟩
abbrev cX10_findings : ByteArray := prog_12_method_92_code
def yX10_findings : MethodName := ⟨RX10, "findings", "(I)I"⟩
abbrev cX10_digest : ByteArray := prog_12_method_93_code
def yX10_digest : MethodName := ⟨RX10, "digest", "()J"⟩
def RJ9 : String := "java/lang/Math"
def TJ9 : u_T := fun k => match k with
  | _ => ("", "", "", false)
def tyJ9 : Nat → FieldType := fun k => match k with
  | _ => .int
abbrev wsJ90 : List Cond := u_ws RJ9 TJ9 0
theorem nmJ9 : ∀ a, a < 0 → ∀ b, b < 0 → a ≠ b → (TJ9 a).2.1 ≠ (TJ9 b).2.1 := by decide +kernel
theorem tyJ9_ok : ∀ k, k < 0 → parseFieldDescriptor (TJ9 k).2.2.1 = some (tyJ9 k) := by decide +kernel
abbrev cJ9_max_7cf53 : ByteArray := prog_13_method_65_code
def yJ9_max_7cf53 : MethodName := ⟨RJ9, "max", "(II)I"⟩
abbrev cJ9_min_7cf53 : ByteArray := prog_13_method_69_code
def yJ9_min_7cf53 : MethodName := ⟨RJ9, "min", "(II)I"⟩
def RJ10 : String := "java/lang/System"
def TJ10 : u_T := fun k => match k with
  | _ => ("", "", "", false)
def tyJ10 : Nat → FieldType := fun k => match k with
  | _ => .int
abbrev wsJ100 : List Cond := u_ws RJ10 TJ10 0
theorem nmJ10 : ∀ a, a < 0 → ∀ b, b < 0 → a ≠ b → (TJ10 a).2.1 ≠ (TJ10 b).2.1 := by decide +kernel
theorem tyJ10_ok : ∀ k, k < 0 → parseFieldDescriptor (TJ10 k).2.2.1 = some (tyJ10 k) := by decide +kernel
def RJ7 : String := "java/util/Arrays"
def TJ7 : u_T := fun k => match k with
  | _ => ("", "", "", false)
def tyJ7 : Nat → FieldType := fun k => match k with
  | _ => .int
abbrev wsJ70 : List Cond := u_ws RJ7 TJ7 0
theorem nmJ7 : ∀ a, a < 0 → ∀ b, b < 0 → a ≠ b → (TJ7 a).2.1 ≠ (TJ7 b).2.1 := by decide +kernel
theorem tyJ7_ok : ∀ k, k < 0 → parseFieldDescriptor (TJ7 k).2.2.1 = some (tyJ7 k) := by decide +kernel
abbrev cJ7_fill_53178 : ByteArray := prog_15_method_103_code
def yJ7_fill_53178 : MethodName := ⟨RJ7, "fill", "([II)V"⟩
def RL : String := "RindDatesLaw"
abbrev cL_law : ByteArray := code
def yL_law : MethodName := ⟨RL, "law", "([I)Z"⟩
/-! the tables: classes, methods, what each link of a class file means (with its word's place in lw_tbl) -/
abbrev cls : List vw_C := [(RX0, TX0, 3), (RX1, TX1, 8), (RX2, TX2, 1), (RX3, TX3, 3), (RX4, TX4, 7), (RX5, TX5, 3), (RX6, TX6, 3), (RX7, TX7, 5), 
  (RX8, TX8, 6), (RX9, TX9, 8), (RX10, TX10, 25)]
def RNL : List String := [RX0, RX1, RX2, RX3, RX4, RX5, RX6, RX7, 
  RX8, RX9, RX10, RL, RJ9, RJ10, RJ7]
def TL : List u_T := [TX0, TX1, TX2, TX3, TX4, TX5, TX6, TX7, 
  TX8, TX9, TX10]
def tyL : List (Nat → FieldType) := [tyX0, tyX1, tyX2, tyX3, tyX4, tyX5, tyX6, tyX7, 
  tyX8, tyX9, tyX10]
def NL : List Nat := [3, 8, 1, 3, 7, 3, 3, 5, 
  6, 8, 25]
def dfl : List (List Value) := [[.null, .null, .int 0], 
  [.null, .null, .null, .null, .null, .int 0, .int 0, .int 0], 
  [.null], 
  [.null, .null, .int 0], 
  [.null, .null, .null, .null, .int 0, .int 0, .int 0], 
  [.null, .int 0, .int 0], 
  [.null, .null, .int 0], 
  [.null, .int 0, .int 0, .long 0, .long 0], 
  [.int 0, .int 0, .int 0, .int 0, .int 0, .int 0], 
  [.null, .null, .null, .null, .null, .null, .null, .null], 
  [.null, .null, .null, .null, .null, .null, .null, .null, .int 0, .int 0, .long 0, .long 0, .null, .null, .int 0, .null, .int 0, .int 0, .int 0, .int 0, .null, .null, .null, .null, .null]]
def RNm (c : Nat) : String := RNL.getD c ""
def Tm (c : Nat) : u_T := TL.getD c TX0
def fTy (c k : Nat) : FieldType := (tyL.getD c tyX0) k
def fFin (c k : Nat) : Bool := (Tm c k).2.2.2
def tagC (t : Nat) : Nat := t - 10
abbrev MR : Type := MethodName × ByteArray × Nat × Option FieldType × Nat × Bool × Nat × Nat × Nat × Nat × Nat × Nat
def mtab : List MR := [(yX0_init, cX0_init, 1, none, 1, false, 0, 0, 157, 113, 156, 0), 
  (yX0_isMissing, cX0_isMissing, 1, (some .boolean), 1, false, 0, 2, 700, 113, 699, 46), 
  (yX0_hasRoom, cX0_hasRoom, 2, (some .boolean), 2, false, 0, 2, 652, 113, 651, 41), 
  (yX0_add, cX0_add, 3, none, 3, false, 0, 0, 660, 113, 659, 43), 
  (yX0_takeFrom, cX0_takeFrom, 2, none, 2, false, 0, 0, 691, 113, 690, 45), 
  (yX1_init, cX1_init, 2, none, 1, false, 1, 0, 138, 111, 137, 0), 
  (yX1_isEmpty, cX1_isEmpty, 1, (some .boolean), 1, false, 1, 2, 638, 111, 637, 39), 
  (yX1_wheelOf, cX1_wheelOf, 2, (some (.object "RindDates$Wheel")), 2, false, 1, 4, 569, 111, 568, 30), 
  (yX1_keptOf, cX1_keptOf, 2, (some (.object "RindDates$Deeds")), 2, false, 1, 4, 687, 111, 686, 44), 
  (yX1_isSilentBy, cX1_isSilentBy, 2, (some .boolean), 2, false, 1, 2, 644, 111, 643, 40), 
  (yX1_begin, cX1_begin, 3, none, 2, false, 1, 0, 532, 111, 531, 22), 
  (yX1_replay, cX1_replay, 2, none, 1, false, 1, 0, 542, 111, 541, 24), 
  (yX1_enact, cX1_enact, 3, none, 3, false, 1, 0, 656, 111, 655, 42), 
  (yX1_act, cX1_act, 3, none, 3, false, 1, 0, 550, 111, 549, 26), 
  (yX1_actOn, cX1_actOn, 3, none, 3, false, 1, 0, 573, 111, 572, 31), 
  (yX1_isOnShelf, cX1_isOnShelf, 2, (some .boolean), 2, false, 1, 2, 595, 111, 594, 34), 
  (yX1_tellOf, cX1_tellOf, 3, (some .int), 3, false, 1, 1, 591, 111, 590, 33), 
  (yX1_shelfBits, cX1_shelfBits, 3, (some .int), 1, false, 1, 1, 919, 111, 918, 71), 
  (yX1_shelfRind, cX1_shelfRind, 3, (some .int), 1, false, 1, 1, 923, 111, 922, 72), 
  (yX1_oldWheels, cX1_oldWheels, 3, (some .int), 1, false, 1, 1, 927, 111, 926, 73), 
  (yX1_keptThere, cX1_keptThere, 3, (some .int), 1, false, 1, 1, 935, 111, 934, 74), 
  (yX1_digestFrom, cX1_digestFrom, 7, (some .long), 2, false, 1, 3, 958, 111, 957, 76), 
  (yX2_init, cX2_init, 1, none, 1, false, 2, 0, 144, 112, 143, 0), 
  (yX2_get, cX2_get, 4, (some .int), 3, false, 2, 1, 563, 112, 562, 29), 
  (yX2_set, cX2_set, 5, none, 4, false, 2, 0, 509, 112, 508, 18), 
  (yX2_takeFrom, cX2_takeFrom, 2, none, 2, false, 2, 0, 536, 112, 535, 23), 
  (yX2_total, cX2_total, 3, (some .int), 1, false, 2, 1, 577, 112, 576, 32), 
  (yX2_heldByBoth, cX2_heldByBoth, 3, (some .int), 1, false, 2, 1, 622, 112, 621, 38), 
  (yX2_passDay, cX2_passDay, 2, none, 1, false, 2, 0, 554, 112, 553, 27), 
  (yX2_raise, cX2_raise, 2, none, 2, false, 2, 0, 559, 112, 558, 28), 
  (yX2_passDayWith, cX2_passDayWith, 2, none, 2, false, 2, 0, 724, 112, 723, 49), 
  (yX3_init, cX3_init, 2, none, 1, false, 3, 0, 278, 116, 277, 0), 
  (yX3_begin, cX3_begin, 3, none, 3, false, 3, 0, 712, 116, 711, 47), 
  (yX3_howMany, cX3_howMany, 1, (some .int), 1, false, 3, 1, 730, 116, 729, 50), 
  (yX3_advance, cX3_advance, 2, none, 1, false, 3, 0, 753, 116, 752, 54), 
  (yX3_after, cX3_after, 1, (some .int), 1, true, 3, 1, 756, 116, 755, 0), 
  (yX3_reckonFrom, cX3_reckonFrom, 3, none, 2, false, 3, 0, 720, 116, 719, 48), 
  (yX3_lastAnger, cX3_lastAnger, 1, (some .int), 1, false, 3, 1, 742, 116, 741, 52), 
  (yX3_firstSaid, cX3_firstSaid, 1, (some .int), 1, false, 3, 1, 786, 116, 785, 58), 
  (yX3_sayings, cX3_sayings, 3, (some .int), 1, false, 3, 1, 738, 116, 737, 51), 
  (yX3_mattersSaid, cX3_mattersSaid, 3, (some .int), 1, false, 3, 1, 801, 116, 800, 60), 
  (yX3_leadsBy, cX3_leadsBy, 3, (some .boolean), 2, false, 3, 2, 781, 116, 780, 57), 
  (yX3_writeTo, cX3_writeTo, 3, none, 2, false, 3, 0, 747, 116, 746, 53), 
  (yX4_init, cX4_init, 1, none, 1, false, 4, 0, 242, 115, 241, 0), 
  (yX4_read, cX4_read, 3, (some .int), 2, false, 4, 1, 485, 115, 484, 13), 
  (yX4_skipBlanks, cX4_skipBlanks, 2, none, 2, false, 4, 0, 489, 115, 488, 14), 
  (yX4_hasFigure, cX4_hasFigure, 2, (some .boolean), 2, false, 4, 2, 498, 115, 497, 16), 
  (yX4_takeFigure, cX4_takeFigure, 3, (some .int), 2, false, 4, 1, 505, 115, 504, 17), 
  (yX4_readBrothers, cX4_readBrothers, 3, (some .int), 2, false, 4, 1, 494, 115, 493, 15), 
  (yX4_readLimit, cX4_readLimit, 4, (some .int), 2, false, 4, 1, 513, 115, 512, 19), 
  (yX4_readWheels, cX4_readWheels, 3, (some .int), 2, false, 4, 1, 517, 115, 516, 20), 
  (yX4_readWheel, cX4_readWheel, 5, (some .boolean), 3, false, 4, 2, 521, 115, 520, 21), 
  (yX4_kindBy, cX4_kindBy, 1, (some .int), 1, true, 4, 1, 524, 115, 523, 0), 
  (yX5_init, cX5_init, 3, none, 3, false, 5, 0, 340, 119, 339, 0), 
  (yX5_isMissing, cX5_isMissing, 1, (some .boolean), 1, false, 5, 2, 421, 119, 420, 5), 
  (yX5_renew, cX5_renew, 2, none, 2, false, 5, 0, 399, 119, 398, 2), 
  (yX5_hasPlace, cX5_hasPlace, 2, (some .boolean), 2, false, 5, 2, 425, 119, 424, 6), 
  (yX5_hasPlaces, cX5_hasPlaces, 3, (some .boolean), 3, false, 5, 2, 453, 119, 452, 10), 
  (yX5_get, cX5_get, 2, (some .int), 2, false, 5, 1, 429, 119, 428, 7), 
  (yX5_set, cX5_set, 3, none, 3, false, 5, 0, 433, 119, 432, 8), 
  (yX5_isWithin, cX5_isWithin, 3, (some .boolean), 2, false, 5, 2, 776, 119, 775, 56), 
  (yX5_sum, cX5_sum, 4, (some .long), 1, false, 5, 3, 464, 119, 463, 11), 
  (yX5_digestFrom, cX5_digestFrom, 6, (some .long), 2, false, 5, 3, 968, 119, 967, 77), 
  (yX6_init, cX6_init, 1, none, 1, false, 6, 0, 297, 117, 296, 0), 
  (yX6_fillFrom, cX6_fillFrom, 8, (some .int), 3, false, 6, 1, 838, 117, 837, 65), 
  (yX6_filledBy, cX6_filledBy, 12, (some .int), 4, false, 6, 1, 845, 117, 844, 66), 
  (yX6_writeTo, cX6_writeTo, 3, none, 2, false, 6, 0, 853, 117, 852, 67), 
  (yX7_init, cX7_init, 1, none, 1, false, 7, 0, 315, 118, 314, 0), 
  (yX7_refuse, cX7_refuse, 2, (some .int), 2, false, 7, 1, 395, 118, 394, 1), 
  (yX7_timesOf, cX7_timesOf, 2, (some .int), 2, false, 7, 1, 948, 118, 947, 75), 
  (yX7_tell, cX7_tell, 2, (some .int), 2, false, 7, 1, 437, 118, 436, 9), 
  (yX7_tellParts, cX7_tellParts, 7, none, 3, false, 7, 0, 790, 118, 789, 59), 
  (yX7_commonPart, cX7_commonPart, 11, (some .long), 2, true, 7, 3, 793, 118, 792, 0), 
  (yX8_init, cX8_init, 1, none, 1, false, 8, 0, 177, 114, 176, 0), 
  (yX8_forget, cX8_forget, 1, none, 1, false, 8, 0, 546, 114, 545, 25), 
  (yX8_isMade, cX8_isMade, 1, (some .boolean), 1, false, 8, 2, 599, 114, 598, 35), 
  (yX8_rindBy, cX8_rindBy, 3, (some .int), 3, false, 8, 1, 603, 114, 602, 36), 
  (yX9_init, cX9_init, 2, none, 1, false, 9, 0, 128, 110, 127, 0), 
  (yX9_row, cX9_row, 4, (some .int), 3, false, 9, 1, 387, 110, 385, 386), 
  (yX9_lay, cX9_lay, 7, (some .int), 4, false, 9, 1, 409, 110, 407, 408), 
  (yX9_at, cX9_at, 5, (some .int), 3, false, 9, 1, 441, 110, 439, 440), 
  (yX9_tear, cX9_tear, 4, (some .int), 2, false, 9, 1, 445, 110, 443, 444), 
  (yX9_copy, cX9_copy, 8, (some .int), 6, false, 9, 1, 449, 110, 447, 448), 
  (yX9_mean, cX9_mean, 4, (some .int), 2, false, 9, 1, 460, 110, 458, 459), 
  (yX9_text, cX9_text, 4, (some .int), 3, false, 9, 1, 469, 110, 467, 468), 
  (yX9_put, cX9_put, 7, (some .int), 4, false, 9, 1, 477, 110, 475, 476), 
  (yX9_fault, cX9_fault, 4, (some .int), 2, false, 9, 1, 481, 110, 479, 480), 
  (yX9_farm, cX9_farm, 4, (some .int), 2, false, 9, 1, 528, 110, 526, 527), 
  (yX9_wheel, cX9_wheel, 4, (some .int), 3, false, 9, 1, 585, 110, 583, 584), 
  (yX9_mark, cX9_mark, 4, (some .int), 3, false, 9, 1, 608, 110, 606, 607), 
  (yX9_holds, cX9_holds, 3, (some .int), 3, false, 9, 1, 626, 110, 624, 625), 
  (yX9_anger, cX9_anger, 3, (some .int), 2, false, 9, 1, 634, 110, 632, 633), 
  (yX9_day, cX9_day, 1, (some .int), 1, false, 9, 1, 648, 110, 646, 647), 
  (yX9_say, cX9_say, 2, (some .int), 2, false, 9, 1, 664, 110, 662, 663), 
  (yX9_make, cX9_make, 3, (some .int), 2, false, 9, 1, 668, 110, 666, 667), 
  (yX9_sell, cX9_sell, 3, (some .int), 2, false, 9, 1, 673, 110, 671, 672), 
  (yX9_undo, cX9_undo, 3, (some .int), 2, false, 9, 1, 678, 110, 676, 677), 
  (yX9_keep, cX9_keep, 3, (some .int), 2, false, 9, 1, 683, 110, 681, 682), 
  (yX9_on, cX9_on, 3, (some .int), 2, false, 9, 1, 696, 110, 694, 695), 
  (yX9_peace, cX9_peace, 2, (some .int), 1, false, 9, 1, 704, 110, 702, 703), 
  (yX9_plan, cX9_plan, 11, (some .int), 5, false, 9, 1, 708, 110, 706, 707), 
  (yX9_through, cX9_through, 5, (some .int), 2, false, 9, 1, 760, 110, 758, 759), 
  (yX9_about, cX9_about, 8, (some .int), 2, false, 9, 1, 768, 110, 766, 767), 
  (yX9_sure, cX9_sure, 10, (some .int), 2, false, 9, 1, 797, 110, 795, 796), 
  (yX9_salts, cX9_salts, 8, (some .int), 3, false, 9, 1, 805, 110, 803, 804), 
  (yX9_kinds, cX9_kinds, 6, (some .int), 3, false, 9, 1, 817, 110, 815, 816), 
  (yX9_test, cX9_test, 11, (some .int), 3, false, 9, 1, 825, 110, 823, 824), 
  (yX9_shows, cX9_shows, 6, (some .int), 3, false, 9, 1, 834, 110, 832, 833), 
  (yX9_duel, cX9_duel, 2, (some .int), 2, false, 9, 1, 859, 110, 857, 858), 
  (yX9_odds, cX9_odds, 4, (some .int), 4, false, 9, 1, 871, 110, 869, 870), 
  (yX9_mid, cX9_mid, 4, (some .int), 4, false, 9, 1, 884, 110, 882, 883), 
  (yX9_lots, cX9_lots, 6, (some .int), 3, false, 9, 1, 888, 110, 886, 887), 
  (yX9_asked, cX9_asked, 1, (some .int), 1, false, 9, 1, 899, 110, 897, 898), 
  (yX9_upper, cX9_upper, 1, (some .long), 1, false, 9, 3, 903, 110, 901, 902), 
  (yX9_lower, cX9_lower, 1, (some .long), 1, false, 9, 3, 907, 110, 905, 906), 
  (yX9_count, cX9_count, 2, (some .int), 2, false, 9, 1, 911, 110, 909, 910), 
  (yX9_finding, cX9_finding, 1, (some .int), 1, false, 9, 1, 940, 110, 938, 939), 
  (yX9_findings, cX9_findings, 2, (some .int), 2, false, 9, 1, 944, 110, 942, 943), 
  (yX9_digest, cX9_digest, 4, (some .long), 1, false, 9, 3, 952, 110, 950, 951), 
  (yX9_within, cX9_within, 3, (some .boolean), 3, true, 9, 2, 501, 110, 500, 0), 
  (yX9_isMatter, cX9_isMatter, 1, (some .boolean), 1, true, 9, 2, 629, 110, 628, 0), 
  (yX9_rowOf, cX9_rowOf, 2, (some (.object "RindDates$Row")), 2, false, 9, 4, 391, 110, 390, 0), 
  (yX9_textOf, cX9_textOf, 2, (some (.object "RindDates$Row")), 2, false, 9, 4, 473, 110, 472, 12), 
  (yX9_refusalOf, cX9_refusalOf, 2, (some .int), 2, false, 9, 1, 417, 110, 416, 4), 
  (yX9_refusalOfPlace, cX9_refusalOfPlace, 4, (some .int), 3, false, 9, 1, 413, 110, 412, 3), 
  (yX9_isPlan, cX9_isPlan, 2, (some .boolean), 1, true, 9, 2, 763, 110, 762, 0), 
  (yX9_areChances, cX9_areChances, 3, (some .boolean), 3, true, 9, 2, 874, 110, 873, 0), 
  (yX9_refusalOfAngers, cX9_refusalOfAngers, 2, (some .int), 2, false, 9, 1, 772, 110, 771, 55), 
  (yX9_refusalOfPairs, cX9_refusalOfPairs, 4, (some .int), 3, false, 9, 1, 809, 110, 808, 61), 
  (yX9_rindOf, cX9_rindOf, 6, (some .int), 4, true, 9, 1, 580, 110, 579, 0), 
  (yX9_isOf, cX9_isOf, 2, (some .boolean), 2, true, 9, 2, 611, 110, 610, 0), 
  (yX9_markOf, cX9_markOf, 5, (some .int), 3, false, 9, 1, 615, 110, 614, 37), 
  (yX9_fits, cX9_fits, 5, (some .boolean), 4, false, 9, 2, 813, 110, 812, 62), 
  (yX9_kindsBy, cX9_kindsBy, 5, (some .int), 3, false, 9, 1, 821, 110, 820, 63), 
  (yX9_greatestPart, cX9_greatestPart, 9, (some .int), 4, false, 9, 1, 829, 110, 828, 64), 
  (yX9_mostByNephew, cX9_mostByNephew, 6, (some .int), 2, true, 9, 1, 862, 110, 861, 0), 
  (yX9_leastByAunt, cX9_leastByAunt, 6, (some .int), 2, true, 9, 1, 865, 110, 864, 0), 
  (yX9_power, cX9_power, 6, (some .long), 2, true, 9, 3, 734, 110, 733, 0), 
  (yX9_weighed, cX9_weighed, 13, (some .long), 5, false, 9, 3, 878, 110, 877, 68), 
  (yX9_enactLot, cX9_enactLot, 5, none, 2, false, 9, 0, 895, 110, 894, 69), 
  (yX9_counted, cX9_counted, 2, (some .int), 2, false, 9, 1, 915, 110, 914, 70), 
  (yX9_thereOf, cX9_thereOf, 3, (some .int), 1, true, 9, 1, 931, 110, 930, 0), 
  (yX9_digestOf, cX9_digestOf, 6, (some .long), 2, true, 9, 3, 964, 110, 963, 0), 
  (yX10_init, cX10_init, 2, none, 1, false, 10, 0, 974, 121, 973, 0), 
  (yX10_in, cX10_in, 6, (some .boolean), 3, true, 10, 2, 1063, 121, 1062, 0), 
  (yX10_finds, cX10_finds, 2, (some .int), 2, false, 10, 1, 1067, 121, 1066, 78), 
  (yX10_asks, cX10_asks, 2, (some .int), 2, false, 10, 1, 1079, 121, 1078, 79), 
  (yX10_isRow, cX10_isRow, 1, (some .boolean), 1, true, 10, 2, 1059, 121, 1058, 0), 
  (yX10_isText, cX10_isText, 1, (some .boolean), 1, true, 10, 2, 1099, 121, 1098, 0), 
  (yX10_row, cX10_row, 4, (some .int), 3, false, 10, 1, 1056, 121, 1054, 1055), 
  (yX10_lay, cX10_lay, 5, (some .int), 4, false, 10, 1, 1071, 121, 1069, 1070), 
  (yX10_at, cX10_at, 3, (some .int), 3, false, 10, 1, 1075, 121, 1073, 1074), 
  (yX10_tear, cX10_tear, 2, (some .int), 2, false, 10, 1, 1084, 121, 1082, 1083), 
  (yX10_copy, cX10_copy, 7, (some .int), 6, false, 10, 1, 1088, 121, 1086, 1087), 
  (yX10_mean, cX10_mean, 5, (some .int), 2, false, 10, 1, 1092, 121, 1090, 1091), 
  (yX10_text, cX10_text, 4, (some .int), 3, false, 10, 1, 1096, 121, 1094, 1095), 
  (yX10_put, cX10_put, 6, (some .int), 4, false, 10, 1, 1104, 121, 1102, 1103), 
  (yX10_here, cX10_here, 2, (some .int), 2, false, 10, 1, 1124, 121, 1123, 83), 
  (yX10_skip, cX10_skip, 2, none, 2, false, 10, 0, 1120, 121, 1119, 82), 
  (yX10_takes, cX10_takes, 5, (some .boolean), 4, false, 10, 2, 1128, 121, 1127, 84), 
  (yX10_takesFirst, cX10_takesFirst, 5, (some .boolean), 2, false, 10, 2, 1116, 121, 1115, 81), 
  (yX10_kindBy, cX10_kindBy, 1, (some .int), 1, true, 10, 1, 1137, 121, 1136, 0), 
  (yX10_takesWheel, cX10_takesWheel, 4, (some .boolean), 2, false, 10, 2, 1134, 121, 1133, 85), 
  (yX10_faultOf, cX10_faultOf, 3, (some .int), 2, false, 10, 1, 1112, 121, 1111, 80), 
  (yX10_fault, cX10_fault, 2, (some .int), 2, false, 10, 1, 1108, 121, 1106, 1107), 
  (yX10_farm, cX10_farm, 3, (some .int), 2, false, 10, 1, 1141, 121, 1139, 1140), 
  (yX10_begin, cX10_begin, 2, none, 1, true, 10, 0, 1144, 121, 1143, 0), 
  (yX10_angerOf, cX10_angerOf, 3, (some .int), 1, true, 10, 1, 1166, 121, 1165, 0), 
  (yX10_isSilent, cX10_isSilent, 1, (some .boolean), 1, true, 10, 2, 1169, 121, 1168, 0), 
  (yX10_rindAs, cX10_rindAs, 7, (some .int), 4, true, 10, 1, 1172, 121, 1171, 0), 
  (yX10_rindNow, cX10_rindNow, 2, (some .int), 2, true, 10, 1, 1163, 121, 1162, 0), 
  (yX10_passDay, cX10_passDay, 2, none, 1, true, 10, 0, 1199, 121, 1198, 0), 
  (yX10_goSaying, cX10_goSaying, 3, none, 2, true, 10, 0, 1213, 121, 1212, 0), 
  (yX10_goDeed, cX10_goDeed, 3, none, 2, true, 10, 0, 1210, 121, 1209, 0), 
  (yX10_does, cX10_does, 2, none, 2, false, 10, 0, 1207, 121, 1206, 90), 
  (yX10_isWheel, cX10_isWheel, 2, (some .boolean), 2, false, 10, 2, 1152, 121, 1151, 86), 
  (yX10_isShelved, cX10_isShelved, 2, (some .boolean), 2, true, 10, 2, 1160, 121, 1159, 0), 
  (yX10_toldOf, cX10_toldOf, 3, (some .int), 3, false, 10, 1, 1157, 121, 1156, 87), 
  (yX10_wheel, cX10_wheel, 3, (some .int), 3, false, 10, 1, 1148, 121, 1146, 1147), 
  (yX10_isOf, cX10_isOf, 2, (some .boolean), 2, true, 10, 2, 1179, 121, 1178, 0), 
  (yX10_mark, cX10_mark, 6, (some .int), 3, false, 10, 1, 1176, 121, 1174, 1175), 
  (yX10_manyShared, cX10_manyShared, 3, (some .int), 1, false, 10, 1, 1183, 121, 1182, 88), 
  (yX10_holds, cX10_holds, 3, (some .int), 3, false, 10, 1, 1187, 121, 1185, 1186), 
  (yX10_layHand, cX10_layHand, 2, none, 1, false, 10, 0, 1196, 121, 1195, 89), 
  (yX10_anger, cX10_anger, 3, (some .int), 2, false, 10, 1, 1191, 121, 1189, 1190), 
  (yX10_day, cX10_day, 1, (some .int), 1, false, 10, 1, 1203, 121, 1201, 1202), 
  (yX10_say, cX10_say, 2, (some .int), 2, false, 10, 1, 1217, 121, 1215, 1216), 
  (yX10_make, cX10_make, 2, (some .int), 2, false, 10, 1, 1221, 121, 1219, 1220), 
  (yX10_sell, cX10_sell, 2, (some .int), 2, false, 10, 1, 1225, 121, 1223, 1224), 
  (yX10_undo, cX10_undo, 4, (some .int), 2, false, 10, 1, 1229, 121, 1227, 1228), 
  (yX10_isPlace, cX10_isPlace, 1, (some .boolean), 1, true, 10, 2, 1236, 121, 1235, 0), 
  (yX10_keep, cX10_keep, 3, (some .int), 2, false, 10, 1, 1233, 121, 1231, 1232), 
  (yX10_on, cX10_on, 3, (some .int), 2, false, 10, 1, 1241, 121, 1239, 1240), 
  (yX10_peace, cX10_peace, 3, (some .int), 1, false, 10, 1, 1245, 121, 1243, 1244), 
  (yX10_powerOfFive, cX10_powerOfFive, 3, (some .int), 1, true, 10, 1, 1253, 121, 1252, 0), 
  (yX10_goPlanned, cX10_goPlanned, 2, none, 2, false, 10, 0, 1264, 121, 1263, 92), 
  (yX10_saidOn, cX10_saidOn, 3, (some .int), 3, true, 10, 1, 1260, 121, 1259, 0), 
  (yX10_goPlan, cX10_goPlan, 6, (some .int), 3, false, 10, 1, 1257, 121, 1256, 91), 
  (yX10_plan, cX10_plan, 9, (some .int), 5, false, 10, 1, 1249, 121, 1247, 1248), 
  (yX10_through, cX10_through, 4, (some .int), 2, false, 10, 1, 1268, 121, 1266, 1267), 
  (yX10_refusesAngers, cX10_refusesAngers, 3, (some .int), 2, false, 10, 1, 1276, 121, 1275, 93), 
  (yX10_isSo, cX10_isSo, 6, (some .boolean), 3, false, 10, 2, 1286, 121, 1285, 95), 
  (yX10_layPlans, cX10_layPlans, 7, none, 2, false, 10, 0, 1282, 121, 1281, 94), 
  (yX10_about, cX10_about, 4, (some .int), 2, false, 10, 1, 1272, 121, 1270, 1271), 
  (yX10_sure, cX10_sure, 4, (some .int), 2, false, 10, 1, 1290, 121, 1288, 1289), 
  (yX10_refusesPairs, cX10_refusesPairs, 4, (some .int), 3, false, 10, 1, 1298, 121, 1297, 96), 
  (yX10_rindBy, cX10_rindBy, 4, (some .int), 4, false, 10, 1, 1307, 121, 1306, 98), 
  (yX10_fits, cX10_fits, 6, (some .boolean), 4, false, 10, 2, 1303, 121, 1302, 97), 
  (yX10_salts, cX10_salts, 6, (some .int), 3, false, 10, 1, 1294, 121, 1292, 1293), 
  (yX10_kindsOf, cX10_kindsOf, 5, (some .int), 3, false, 10, 1, 1315, 121, 1314, 99), 
  (yX10_kinds, cX10_kinds, 4, (some .int), 3, false, 10, 1, 1311, 121, 1309, 1310), 
  (yX10_greatestPart, cX10_greatestPart, 8, (some .int), 4, false, 10, 1, 1323, 121, 1322, 100), 
  (yX10_test, cX10_test, 9, (some .int), 3, false, 10, 1, 1319, 121, 1317, 1318), 
  (yX10_manyBy, cX10_manyBy, 9, (some .int), 3, false, 10, 1, 1331, 121, 1330, 101), 
  (yX10_shows, cX10_shows, 9, (some .int), 3, false, 10, 1, 1327, 121, 1325, 1326), 
  (yX10_goTurn, cX10_goTurn, 3, none, 3, false, 10, 0, 1343, 121, 1342, 103), 
  (yX10_manyChoices, cX10_manyChoices, 1, (some .int), 1, true, 10, 1, 1346, 121, 1345, 0), 
  (yX10_layChoices, cX10_layChoices, 3, none, 2, false, 10, 0, 1339, 121, 1338, 102), 
  (yX10_duel, cX10_duel, 6, (some .int), 2, false, 10, 1, 1335, 121, 1333, 1334), 
  (yX10_fraction, cX10_fraction, 11, none, 3, false, 10, 0, 1359, 121, 1358, 105), 
  (yX10_goOdds, cX10_goOdds, 14, (some .int), 5, false, 10, 1, 1354, 121, 1353, 104), 
  (yX10_odds, cX10_odds, 4, (some .int), 4, false, 10, 1, 1350, 121, 1348, 1349), 
  (yX10_mid, cX10_mid, 4, (some .int), 4, false, 10, 1, 1363, 121, 1361, 1362), 
  (yX10_lots, cX10_lots, 7, (some .int), 3, false, 10, 1, 1367, 121, 1365, 1366), 
  (yX10_asked, cX10_asked, 1, (some .int), 1, false, 10, 1, 1375, 121, 1373, 1374), 
  (yX10_upper, cX10_upper, 1, (some .long), 1, false, 10, 3, 1379, 121, 1377, 1378), 
  (yX10_lower, cX10_lower, 1, (some .long), 1, false, 10, 3, 1383, 121, 1381, 1382), 
  (yX10_shelf, cX10_shelf, 4, (some .int), 2, false, 10, 1, 1396, 121, 1395, 107), 
  (yX10_manyThere, cX10_manyThere, 3, (some .int), 1, true, 10, 1, 1403, 121, 1402, 0), 
  (yX10_counted, cX10_counted, 2, (some .int), 2, false, 10, 1, 1392, 121, 1391, 106), 
  (yX10_manyOld, cX10_manyOld, 3, (some .int), 1, false, 10, 1, 1400, 121, 1399, 108), 
  (yX10_count, cX10_count, 2, (some .int), 2, false, 10, 1, 1387, 121, 1385, 1386), 
  (yX10_finding, cX10_finding, 1, (some .int), 1, false, 10, 1, 1407, 121, 1405, 1406), 
  (yX10_findings, cX10_findings, 2, (some .int), 2, false, 10, 1, 1411, 121, 1409, 1410), 
  (yX10_digest, cX10_digest, 5, (some .long), 1, false, 10, 3, 1415, 121, 1413, 1414), 
  (yJ9_max_7cf53, cJ9_max_7cf53, 2, (some .int), 2, true, 12, 1, 344, 120, 343, 0), 
  (yJ9_min_7cf53, cJ9_min_7cf53, 2, (some .int), 2, true, 12, 1, 405, 120, 404, 0), 
  (yJ7_fill_53178, cJ7_fill_53178, 4, none, 2, true, 14, 0, 402, 122, 401, 0), 
  (yL_law, cL_law, 4, (some .boolean), 1, true, 11, 2, 0, 109, 0, 0)]
def mrec (m : Nat) : MR := mtab.getD m (yX0_init, cX0_init, 0, none, 0, false, 0, 0, 0, 0, 0, 0)
def mY (m : Nat) : MethodName := (mrec m).1
def mC (m : Nat) : ByteArray := (mrec m).2.1
def mL (m : Nat) : Nat := (mrec m).2.2.1
def mR (m : Nat) : Option FieldType := (mrec m).2.2.2.1
def mN (m : Nat) : Nat := (mrec m).2.2.2.2.1
def mS (m : Nat) : Bool := (mrec m).2.2.2.2.2.1
def mO (m : Nat) : Nat := (mrec m).2.2.2.2.2.2.1
def mK (m : Nat) : Nat := (mrec m).2.2.2.2.2.2.2.1
def mI (m : Nat) : Bool := (mY m).name == "<init>"
def fldL : List (Nat × Nat × Nat × Bool × Nat) := [(9, 0, 0, false, 159), (15, 0, 1, false, 161), (18, 0, 2, false, 164), (1012, 1, 0, false, 207), (1018, 1, 1, false, 208), (1023, 1, 2, false, 210), (1030, 1, 3, false, 211), (1034, 1, 4, false, 213), 
  (1039, 0, 2, true, 163), (1043, 1, 6, false, 216), (1044, 1, 5, false, 214), (1047, 4, 0, true, 247), (1056, 4, 4, true, 254), (1057, 4, 5, true, 257), (1065, 4, 1, true, 249), (1069, 8, 0, true, 180), 
  (1072, 4, 2, true, 251), (1075, 8, 1, true, 182), (1077, 4, 3, true, 253), (1080, 8, 2, true, 184), (1086, 1, 7, false, 219), (1092, 0, 0, true, 160), (1095, 0, 1, true, 162), (1120, 8, 3, true, 187), 
  (1131, 8, 4, true, 190), (1134, 8, 5, true, 193), (2009, 2, 0, false, 146), (3009, 3, 0, false, 283), (3017, 3, 1, false, 284), (3031, 3, 2, false, 285), (4012, 4, 0, false, 246), (4018, 4, 1, false, 248), 
  (4022, 4, 2, false, 250), (4025, 4, 3, false, 252), (4028, 4, 6, false, 258), (4032, 4, 5, false, 256), (4046, 5, 2, true, 350), (4073, 4, 4, false, 255), (5007, 5, 2, false, 348), (5019, 5, 0, false, 345), 
  (5023, 5, 1, false, 347), (6009, 6, 0, false, 299), (6015, 6, 1, false, 300), (6018, 5, 2, true, 349), (6033, 6, 2, false, 301), (6034, 1, 6, true, 217), (6059, 8, 4, true, 189), (7009, 7, 0, false, 317), 
  (7015, 7, 4, false, 324), (7019, 7, 1, false, 318), (7023, 7, 2, false, 320), (7030, 7, 3, false, 322), (8009, 8, 3, false, 186), (8015, 8, 4, false, 188), (8018, 8, 5, false, 192), (8022, 8, 0, false, 179), 
  (8025, 8, 2, false, 183), (9011, 9, 0, false, 359), (9015, 9, 1, false, 360), (9021, 9, 2, false, 361), (9028, 9, 3, false, 362), (9035, 9, 4, false, 363), (9042, 9, 5, false, 364), (9049, 9, 6, false, 365), 
  (9056, 9, 7, false, 366), (9092, 5, 2, true, 351), (9104, 5, 0, true, 346), (9128, 1, 6, true, 218), (9141, 8, 0, true, 181), (9156, 1, 1, true, 209), (9179, 1, 3, true, 212), (9194, 8, 4, true, 191), 
  (9201, 0, 2, true, 165), (9225, 1, 5, true, 215), (9269, 8, 2, true, 185), (9313, 7, 2, true, 321), (9316, 7, 3, true, 323), (9320, 7, 4, true, 325), (9326, 7, 1, true, 319), (9371, 1, 7, true, 220), 
  (10007, 10, 0, false, 976), (10013, 10, 1, false, 977), (10016, 10, 2, false, 978), (10020, 10, 3, false, 979), (10023, 10, 4, false, 980), (10026, 10, 5, false, 981), (10029, 10, 6, false, 982), (10032, 10, 7, false, 983), 
  (10035, 10, 11, false, 987), (10039, 10, 12, false, 988), (10042, 10, 13, false, 989), (10045, 10, 15, false, 991), (10048, 10, 20, false, 996), (10051, 10, 21, false, 997), (10054, 10, 22, false, 998), (10057, 10, 23, false, 999), 
  (10060, 10, 24, false, 1000), (10063, 10, 8, false, 984), (10067, 10, 9, false, 985), (10096, 10, 14, false, 990), (10207, 10, 16, false, 992), (10210, 10, 17, false, 993), (10213, 10, 18, false, 994), (10216, 10, 19, false, 995), 
  (10228, 10, 10, false, 986)]
def mthL : List (Nat × Nat × Nat × Nat) := [(3, 0, 6, 158), (22, 0, 7, 692), (1003, 0, 6, 139), (1011, 22, 5, 142), (1029, 0, 5, 155), (1038, 73, 5, 175), (1052, 25, 1, 533), (1059, 236, 2, 538), 
  (1083, 11, 0, 539), (1089, 74, 1, 543), (1098, 13, 0, 547), (1102, 3, 1, 657), (1105, 28, 1, 551), (1108, 29, 1, 556), (1112, 7, 0, 566), (1116, 14, 0, 570), 
  (1123, 26, 1, 574), (1127, 129, 3, 578), (1138, 75, 1, 596), (1142, 15, 0, 592), (1146, 76, 1, 600), (1149, 130, 3, 928), (1153, 1, 1, 936), (1158, 23, 1, 960), 
  (1161, 16, 0, 961), (2003, 0, 6, 145), (2015, 0, 7, 537), (2021, 23, 0, 560), (2025, 235, 2, 555), (2030, 236, 2, 564), (2033, 24, 0, 565), (2037, 29, 0, 725), 
  (2041, 28, 0, 726), (3003, 0, 6, 279), (3021, 22, 5, 282), (3022, 236, 2, 713), (3028, 235, 2, 714), (3035, 25, 1, 715), (3039, 237, 2, 716), (3045, 36, 0, 717), 
  (3051, 137, 3, 732), (3055, 35, 2, 754), (3059, 30, 1, 721), (3062, 26, 1, 743), (3066, 58, 1, 782), (3071, 55, 1, 748), (3074, 59, 1, 749), (4003, 0, 6, 243), 
  (4011, 22, 5, 245), (4035, 45, 0, 486), (4039, 48, 0, 491), (4043, 50, 0, 514), (4051, 58, 1, 490), (4055, 119, 3, 499), (4059, 46, 0, 495), (4063, 47, 0, 502), 
  (4066, 24, 1, 506), (4070, 49, 0, 510), (4076, 51, 0, 518), (4080, 52, 2, 522), (5001, 0, 6, 341), (5013, 235, 2, 342), (5026, 237, 2, 400), (5032, 236, 2, 403), 
  (5035, 58, 0, 465), (5039, 119, 3, 777), (6003, 0, 6, 298), (6024, 236, 2, 839), (6030, 235, 2, 840), (6037, 137, 3, 841), (6041, 65, 0, 842), (6045, 0, 7, 849), 
  (6051, 7, 1, 846), (6055, 15, 1, 847), (6064, 58, 1, 848), (6068, 55, 1, 854), (6072, 59, 1, 855), (7003, 0, 6, 316), (7026, 72, 2, 791), (8003, 0, 6, 178), 
  (8028, 129, 3, 604), (9001, 0, 6, 129), (9020, 5, 5, 136), (9027, 43, 5, 240), (9034, 31, 5, 276), (9041, 63, 5, 295), (9048, 22, 5, 310), (9055, 67, 5, 313), 
  (9060, 53, 5, 338), (9063, 121, 0, 388), (9067, 68, 1, 392), (9071, 55, 1, 396), (9075, 124, 0, 410), (9079, 58, 1, 426), (9082, 59, 1, 430), (9085, 70, 1, 434), 
  (9088, 123, 0, 414), (9096, 54, 1, 418), (9100, 57, 1, 450), (9108, 0, 7, 454), (9114, 61, 1, 461), (9118, 122, 0, 470), (9121, 44, 1, 482), (9124, 10, 1, 529), 
  (9129, 7, 1, 586), (9133, 119, 2, 587), (9137, 16, 1, 588), (9146, 130, 2, 609), (9149, 131, 0, 612), (9152, 120, 2, 627), (9159, 23, 1, 630), (9162, 6, 1, 635), 
  (9165, 25, 1, 639), (9169, 28, 1, 640), (9172, 26, 1, 616), (9176, 9, 1, 641), (9183, 2, 1, 649), (9188, 12, 1, 653), (9191, 75, 1, 669), (9197, 15, 1, 674), 
  (9202, 11, 1, 679), (9205, 8, 1, 684), (9209, 4, 1, 688), (9212, 1, 1, 697), (9213, 32, 1, 709), (9216, 33, 1, 727), (9219, 39, 1, 735), (9222, 37, 1, 739), 
  (9228, 76, 1, 617), (9231, 42, 1, 744), (9235, 34, 1, 750), (9238, 125, 2, 761), (9242, 30, 1, 764), (9245, 127, 0, 769), (9248, 41, 1, 778), (9251, 38, 1, 783), 
  (9254, 71, 1, 787), (9258, 40, 1, 798), (9261, 128, 0, 806), (9265, 132, 0, 810), (9272, 133, 0, 818), (9276, 134, 0, 826), (9280, 60, 1, 773), (9283, 64, 1, 835), 
  (9287, 66, 1, 850), (9288, 135, 2, 860), (9292, 126, 2, 872), (9295, 138, 0, 875), (9301, 137, 2, 880), (9310, 139, 0, 892), (9323, 140, 0, 912), (9329, 69, 1, 945), 
  (9336, 21, 1, 955), (9340, 142, 2, 962), (9344, 56, 1, 422), (9347, 236, 2, 581), (9352, 129, 2, 618), (9356, 27, 1, 619), (9359, 235, 2, 830), (9362, 136, 2, 863), 
  (9365, 29, 1, 867), (9368, 24, 1, 866), (9374, 17, 1, 916), (9377, 18, 1, 920), (9380, 19, 1, 924), (9383, 141, 2, 929), (9387, 20, 1, 932), (9390, 62, 1, 965), 
  (10001, 0, 6, 975), (10072, 144, 2, 1061), (10078, 147, 2, 1057), (10082, 145, 0, 1064), (10086, 151, 0, 1072), (10090, 146, 0, 1076), (10093, 148, 2, 1097), (10099, 157, 0, 1121), 
  (10104, 158, 0, 1117), (10108, 159, 0, 1125), (10114, 161, 2, 1135), (10117, 160, 0, 1113), (10120, 162, 0, 1131), (10123, 163, 0, 1109), (10126, 166, 2, 1142), (10130, 167, 2, 1164), 
  (10134, 168, 2, 1167), (10138, 169, 2, 1170), (10142, 170, 2, 1161), (10146, 172, 2, 1211), (10150, 171, 2, 1197), (10153, 173, 2, 1208), (10156, 176, 2, 1158), (10160, 175, 0, 1149), 
  (10165, 177, 0, 1154), (10168, 179, 2, 1177), (10172, 181, 0, 1180), (10178, 183, 0, 1193), (10181, 174, 0, 1204), (10186, 190, 2, 1234), (10189, 194, 2, 1251), (10192, 196, 2, 1258), 
  (10196, 195, 0, 1261), (10200, 197, 0, 1254), (10219, 201, 0, 1283), (10222, 200, 0, 1273), (10225, 202, 0, 1279), (10233, 206, 0, 1304), (10236, 205, 0, 1295), (10239, 207, 0, 1300), 
  (10242, 209, 0, 1312), (10245, 211, 0, 1320), (10248, 213, 0, 1328), (10251, 215, 0, 1340), (10255, 217, 0, 1336), (10258, 216, 2, 1344), (10263, 219, 0, 1356), (10267, 220, 0, 1351), 
  (10278, 227, 0, 1393), (10282, 230, 0, 1397), (10285, 228, 2, 1401), (10290, 229, 0, 1389), (11009, 77, 4, 126), (11012, 143, 4, 972), (11013, 78, 0, 384), (11017, 149, 0, 1053), 
  (11018, 79, 0, 406), (11022, 150, 0, 1068), (11023, 80, 0, 438), (11026, 151, 0, 1080), (11027, 81, 0, 442), (11031, 152, 0, 1081), (11032, 82, 0, 446), (11036, 153, 0, 1085), 
  (11037, 83, 0, 457), (11040, 154, 0, 1089), (11041, 84, 0, 466), (11044, 155, 0, 1093), (11045, 85, 0, 474), (11048, 156, 0, 1101), (11049, 86, 0, 478), (11052, 164, 0, 1105), 
  (11053, 87, 0, 525), (11056, 165, 0, 1138), (11057, 88, 0, 582), (11060, 178, 0, 1145), (11061, 89, 0, 605), (11064, 180, 0, 1173), (11065, 90, 0, 623), (11068, 182, 0, 1184), 
  (11069, 91, 0, 631), (11072, 184, 0, 1188), (11073, 92, 0, 645), (11077, 185, 0, 1200), (11078, 93, 0, 661), (11081, 186, 0, 1214), (11082, 94, 0, 665), (11085, 187, 0, 1218), 
  (11086, 95, 0, 670), (11089, 188, 0, 1222), (11090, 96, 0, 675), (11093, 189, 0, 1226), (11094, 97, 0, 680), (11097, 191, 0, 1230), (11098, 98, 0, 693), (11101, 192, 0, 1238), 
  (11102, 99, 0, 701), (11105, 193, 0, 1242), (11106, 100, 0, 705), (11110, 198, 0, 1246), (11111, 101, 0, 757), (11114, 199, 0, 1265), (11115, 102, 0, 765), (11118, 203, 0, 1269), 
  (11119, 103, 0, 794), (11122, 204, 0, 1287), (11123, 104, 0, 802), (11126, 208, 0, 1291), (11127, 105, 0, 814), (11130, 210, 0, 1308), (11131, 106, 0, 822), (11134, 212, 0, 1316), 
  (11135, 107, 0, 831), (11138, 214, 0, 1324), (11139, 108, 0, 856), (11142, 218, 0, 1332), (11143, 109, 0, 868), (11146, 221, 0, 1347), (11147, 110, 0, 881), (11150, 222, 0, 1360), 
  (11151, 111, 0, 885), (11154, 223, 0, 1364), (11155, 112, 0, 896), (11158, 224, 0, 1372), (11159, 113, 0, 900), (11163, 225, 0, 1376), (11164, 114, 0, 904), (11167, 226, 0, 1380), 
  (11168, 115, 0, 908), (11171, 231, 0, 1384), (11172, 116, 0, 937), (11175, 232, 0, 1404), (11176, 117, 0, 941), (11179, 233, 0, 1408), (11180, 118, 0, 949), (11183, 234, 0, 1412)]
def clsL : List (Nat × Nat × Nat) := [(1009, 2, 140), (1021, 8, 151), (1027, 0, 153), (3015, 2, 280), (4009, 2, 244), (9009, 5, 132), (9018, 1, 134), (9025, 4, 238), 
  (9032, 3, 274), (9039, 6, 293), (9046, 2, 309), (9053, 7, 311), (11007, 9, 124), (11010, 10, 970)]
def aclL : List (Nat × Nat × Nat) := [(1021, 18, 151), (1027, 10, 153), (3015, 12, 280), (9009, 15, 132)]
def ldcL : List (Nat × Int32 × Nat) := [(9305, 2147483646, 889), (10199, 1000000, 1250)]
def ldlL : List (Nat × Int64 × Nat) := [(1156, 31, 959), (3049, 5, 731), (5045, 31, 969), (9299, 12, 879), (9306, 48271, 890), (9308, 2147483647, 891), (9332, 17, 953), (9334, 31, 954), 
  (10070, 5, 1060), (10076, 3, 1100), (10102, 57, 1129), (10112, 60, 1130), (10163, 6, 1153), (10176, 20, 1192), (10184, 2, 1237), (10203, 4, 1277), 
  (10205, 100, 1278), (10231, 99, 1299), (10261, 12, 1355), (10270, 2147483646, 1368), (10272, 48271, 1369), (10274, 2147483647, 1370), (10276, 8, 1371), (10288, 10, 1388), 
  (10293, 17, 1416), (10295, 31, 1417)]
def fldT (o i : Nat) : Option (Nat × Nat × Bool) := if 1000 ≤ i then none else (fldL.lookup (o * 1000 + i)).map fun e => (e.1, e.2.1, e.2.2.1)
def mthT (o i : Nat) : Option (Nat × Nat) := if 1000 ≤ i then none else (mthL.lookup (o * 1000 + i)).map fun e => (e.1, e.2.1)
def clsT (o i : Nat) : Option Nat := if 1000 ≤ i then none else (clsL.lookup (o * 1000 + i)).map fun e => e.1
def aclT (o i : Nat) : Option Nat := if 1000 ≤ i then none else (aclL.lookup (o * 1000 + i)).map fun e => e.1
def ldcT (o i : Nat) : Option Int32 := if 1000 ≤ i then none else (ldcL.lookup (o * 1000 + i)).map fun e => e.1
def ldlT (o i : Nat) : Option Int64 := if 1000 ≤ i then none else (ldlL.lookup (o * 1000 + i)).map fun e => e.1
abbrev iX0_init : Nat := 0
abbrev iX0_isMissing : Nat := 1
abbrev iX0_hasRoom : Nat := 2
abbrev iX0_add : Nat := 3
abbrev iX0_takeFrom : Nat := 4
abbrev iX1_init : Nat := 5
abbrev iX1_isEmpty : Nat := 6
abbrev iX1_wheelOf : Nat := 7
abbrev iX1_keptOf : Nat := 8
abbrev iX1_isSilentBy : Nat := 9
abbrev iX1_begin : Nat := 10
abbrev iX1_replay : Nat := 11
abbrev iX1_enact : Nat := 12
abbrev iX1_act : Nat := 13
abbrev iX1_actOn : Nat := 14
abbrev iX1_isOnShelf : Nat := 15
abbrev iX1_tellOf : Nat := 16
abbrev iX1_shelfBits : Nat := 17
abbrev iX1_shelfRind : Nat := 18
abbrev iX1_oldWheels : Nat := 19
abbrev iX1_keptThere : Nat := 20
abbrev iX1_digestFrom : Nat := 21
abbrev iX2_init : Nat := 22
abbrev iX2_get : Nat := 23
abbrev iX2_set : Nat := 24
abbrev iX2_takeFrom : Nat := 25
abbrev iX2_total : Nat := 26
abbrev iX2_heldByBoth : Nat := 27
abbrev iX2_passDay : Nat := 28
abbrev iX2_raise : Nat := 29
abbrev iX2_passDayWith : Nat := 30
abbrev iX3_init : Nat := 31
abbrev iX3_begin : Nat := 32
abbrev iX3_howMany : Nat := 33
abbrev iX3_advance : Nat := 34
abbrev iX3_after : Nat := 35
abbrev iX3_reckonFrom : Nat := 36
abbrev iX3_lastAnger : Nat := 37
abbrev iX3_firstSaid : Nat := 38
abbrev iX3_sayings : Nat := 39
abbrev iX3_mattersSaid : Nat := 40
abbrev iX3_leadsBy : Nat := 41
abbrev iX3_writeTo : Nat := 42
abbrev iX4_init : Nat := 43
abbrev iX4_read : Nat := 44
abbrev iX4_skipBlanks : Nat := 45
abbrev iX4_hasFigure : Nat := 46
abbrev iX4_takeFigure : Nat := 47
abbrev iX4_readBrothers : Nat := 48
abbrev iX4_readLimit : Nat := 49
abbrev iX4_readWheels : Nat := 50
abbrev iX4_readWheel : Nat := 51
abbrev iX4_kindBy : Nat := 52
abbrev iX5_init : Nat := 53
abbrev iX5_isMissing : Nat := 54
abbrev iX5_renew : Nat := 55
abbrev iX5_hasPlace : Nat := 56
abbrev iX5_hasPlaces : Nat := 57
abbrev iX5_get : Nat := 58
abbrev iX5_set : Nat := 59
abbrev iX5_isWithin : Nat := 60
abbrev iX5_sum : Nat := 61
abbrev iX5_digestFrom : Nat := 62
abbrev iX6_init : Nat := 63
abbrev iX6_fillFrom : Nat := 64
abbrev iX6_filledBy : Nat := 65
abbrev iX6_writeTo : Nat := 66
abbrev iX7_init : Nat := 67
abbrev iX7_refuse : Nat := 68
abbrev iX7_timesOf : Nat := 69
abbrev iX7_tell : Nat := 70
abbrev iX7_tellParts : Nat := 71
abbrev iX7_commonPart : Nat := 72
abbrev iX8_init : Nat := 73
abbrev iX8_forget : Nat := 74
abbrev iX8_isMade : Nat := 75
abbrev iX8_rindBy : Nat := 76
abbrev iX9_init : Nat := 77
abbrev iX9_row : Nat := 78
abbrev iX9_lay : Nat := 79
abbrev iX9_at : Nat := 80
abbrev iX9_tear : Nat := 81
abbrev iX9_copy : Nat := 82
abbrev iX9_mean : Nat := 83
abbrev iX9_text : Nat := 84
abbrev iX9_put : Nat := 85
abbrev iX9_fault : Nat := 86
abbrev iX9_farm : Nat := 87
abbrev iX9_wheel : Nat := 88
abbrev iX9_mark : Nat := 89
abbrev iX9_holds : Nat := 90
abbrev iX9_anger : Nat := 91
abbrev iX9_day : Nat := 92
abbrev iX9_say : Nat := 93
abbrev iX9_make : Nat := 94
abbrev iX9_sell : Nat := 95
abbrev iX9_undo : Nat := 96
abbrev iX9_keep : Nat := 97
abbrev iX9_on : Nat := 98
abbrev iX9_peace : Nat := 99
abbrev iX9_plan : Nat := 100
abbrev iX9_through : Nat := 101
abbrev iX9_about : Nat := 102
abbrev iX9_sure : Nat := 103
abbrev iX9_salts : Nat := 104
abbrev iX9_kinds : Nat := 105
abbrev iX9_test : Nat := 106
abbrev iX9_shows : Nat := 107
abbrev iX9_duel : Nat := 108
abbrev iX9_odds : Nat := 109
abbrev iX9_mid : Nat := 110
abbrev iX9_lots : Nat := 111
abbrev iX9_asked : Nat := 112
abbrev iX9_upper : Nat := 113
abbrev iX9_lower : Nat := 114
abbrev iX9_count : Nat := 115
abbrev iX9_finding : Nat := 116
abbrev iX9_findings : Nat := 117
abbrev iX9_digest : Nat := 118
abbrev iX9_within : Nat := 119
abbrev iX9_isMatter : Nat := 120
abbrev iX9_rowOf : Nat := 121
abbrev iX9_textOf : Nat := 122
abbrev iX9_refusalOf : Nat := 123
abbrev iX9_refusalOfPlace : Nat := 124
abbrev iX9_isPlan : Nat := 125
abbrev iX9_areChances : Nat := 126
abbrev iX9_refusalOfAngers : Nat := 127
abbrev iX9_refusalOfPairs : Nat := 128
abbrev iX9_rindOf : Nat := 129
abbrev iX9_isOf : Nat := 130
abbrev iX9_markOf : Nat := 131
abbrev iX9_fits : Nat := 132
abbrev iX9_kindsBy : Nat := 133
abbrev iX9_greatestPart : Nat := 134
abbrev iX9_mostByNephew : Nat := 135
abbrev iX9_leastByAunt : Nat := 136
abbrev iX9_power : Nat := 137
abbrev iX9_weighed : Nat := 138
abbrev iX9_enactLot : Nat := 139
abbrev iX9_counted : Nat := 140
abbrev iX9_thereOf : Nat := 141
abbrev iX9_digestOf : Nat := 142
abbrev iX10_init : Nat := 143
abbrev iX10_in : Nat := 144
abbrev iX10_finds : Nat := 145
abbrev iX10_asks : Nat := 146
abbrev iX10_isRow : Nat := 147
abbrev iX10_isText : Nat := 148
abbrev iX10_row : Nat := 149
abbrev iX10_lay : Nat := 150
abbrev iX10_at : Nat := 151
abbrev iX10_tear : Nat := 152
abbrev iX10_copy : Nat := 153
abbrev iX10_mean : Nat := 154
abbrev iX10_text : Nat := 155
abbrev iX10_put : Nat := 156
abbrev iX10_here : Nat := 157
abbrev iX10_skip : Nat := 158
abbrev iX10_takes : Nat := 159
abbrev iX10_takesFirst : Nat := 160
abbrev iX10_kindBy : Nat := 161
abbrev iX10_takesWheel : Nat := 162
abbrev iX10_faultOf : Nat := 163
abbrev iX10_fault : Nat := 164
abbrev iX10_farm : Nat := 165
abbrev iX10_begin : Nat := 166
abbrev iX10_angerOf : Nat := 167
abbrev iX10_isSilent : Nat := 168
abbrev iX10_rindAs : Nat := 169
abbrev iX10_rindNow : Nat := 170
abbrev iX10_passDay : Nat := 171
abbrev iX10_goSaying : Nat := 172
abbrev iX10_goDeed : Nat := 173
abbrev iX10_does : Nat := 174
abbrev iX10_isWheel : Nat := 175
abbrev iX10_isShelved : Nat := 176
abbrev iX10_toldOf : Nat := 177
abbrev iX10_wheel : Nat := 178
abbrev iX10_isOf : Nat := 179
abbrev iX10_mark : Nat := 180
abbrev iX10_manyShared : Nat := 181
abbrev iX10_holds : Nat := 182
abbrev iX10_layHand : Nat := 183
abbrev iX10_anger : Nat := 184
abbrev iX10_day : Nat := 185
abbrev iX10_say : Nat := 186
abbrev iX10_make : Nat := 187
abbrev iX10_sell : Nat := 188
abbrev iX10_undo : Nat := 189
abbrev iX10_isPlace : Nat := 190
abbrev iX10_keep : Nat := 191
abbrev iX10_on : Nat := 192
abbrev iX10_peace : Nat := 193
abbrev iX10_powerOfFive : Nat := 194
abbrev iX10_goPlanned : Nat := 195
abbrev iX10_saidOn : Nat := 196
abbrev iX10_goPlan : Nat := 197
abbrev iX10_plan : Nat := 198
abbrev iX10_through : Nat := 199
abbrev iX10_refusesAngers : Nat := 200
abbrev iX10_isSo : Nat := 201
abbrev iX10_layPlans : Nat := 202
abbrev iX10_about : Nat := 203
abbrev iX10_sure : Nat := 204
abbrev iX10_refusesPairs : Nat := 205
abbrev iX10_rindBy : Nat := 206
abbrev iX10_fits : Nat := 207
abbrev iX10_salts : Nat := 208
abbrev iX10_kindsOf : Nat := 209
abbrev iX10_kinds : Nat := 210
abbrev iX10_greatestPart : Nat := 211
abbrev iX10_test : Nat := 212
abbrev iX10_manyBy : Nat := 213
abbrev iX10_shows : Nat := 214
abbrev iX10_goTurn : Nat := 215
abbrev iX10_manyChoices : Nat := 216
abbrev iX10_layChoices : Nat := 217
abbrev iX10_duel : Nat := 218
abbrev iX10_fraction : Nat := 219
abbrev iX10_goOdds : Nat := 220
abbrev iX10_odds : Nat := 221
abbrev iX10_mid : Nat := 222
abbrev iX10_lots : Nat := 223
abbrev iX10_asked : Nat := 224
abbrev iX10_upper : Nat := 225
abbrev iX10_lower : Nat := 226
abbrev iX10_shelf : Nat := 227
abbrev iX10_manyThere : Nat := 228
abbrev iX10_counted : Nat := 229
abbrev iX10_manyOld : Nat := 230
abbrev iX10_count : Nat := 231
abbrev iX10_finding : Nat := 232
abbrev iX10_findings : Nat := 233
abbrev iX10_digest : Nat := 234
abbrev iJ9_max_7cf53 : Nat := 235
abbrev iJ9_min_7cf53 : Nat := 236
abbrev iJ7_fill_53178 : Nat := 237
abbrev iL_law : Nat := 238
