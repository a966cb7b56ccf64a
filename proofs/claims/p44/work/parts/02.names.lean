/-! names, fields, types: out of the printed names -/
def RX0 : String := "RindDates$Deeds"
def TX0 : u_T := fun k => match k with
  | 0 => ("RindDates$Deeds", "whats", "[I", true)
  | 1 => ("RindDates$Deeds", "whiches", "[I", true)
  | _ => ("RindDates$Deeds", "size", "I", false)
def tyX0 : Nat → FieldType := fun k => match k with
  | 0 => .array .int
  | 1 => .array .int
  | _ => .int
abbrev wsX00 : List Cond := u_ws RX0 TX0 3
theorem nmX0 : ∀ a, a < 3 → ∀ b, b < 3 → a ≠ b → (TX0 a).2.1 ≠ (TX0 b).2.1 := by decide +kernel
theorem tyX0_ok : ∀ k, k < 3 → parseFieldDescriptor (TX0 k).2.2.1 = some (tyX0 k) := by decide +kernel
abbrev cX0_init : ByteArray := prog_2_method_1_code
def yX0_init : MethodName := ⟨RX0, "<init>", "()V"⟩
abbrev cX0_isMissing : ByteArray := prog_2_method_2_code
def yX0_isMissing : MethodName := ⟨RX0, "isMissing", "()Z"⟩
abbrev cX0_hasRoom : ByteArray := prog_2_method_3_code
def yX0_hasRoom : MethodName := ⟨RX0, "hasRoom", "(I)Z"⟩
abbrev cX0_add : ByteArray := prog_2_method_4_code
def yX0_add : MethodName := ⟨RX0, "add", "(II)V"⟩
abbrev cX0_takeFrom : ByteArray := prog_2_method_5_code
def yX0_takeFrom : MethodName := ⟨RX0, "takeFrom", "(LRindDates$Deeds;)V"⟩
def RX1 : String := "RindDates$Farm"
def TX1 : u_T := fun k => match k with
  | 0 => ("RindDates$Farm", "first", "LRindDates$Grudges;", true)
  | 1 => ("RindDates$Farm", "now", "LRindDates$Grudges;", true)
  | 2 => ("RindDates$Farm", "wheels", "[LRindDates$Wheel;", true)
  | 3 => ("RindDates$Farm", "deeds", "LRindDates$Deeds;", true)
  | 4 => ("RindDates$Farm", "kept", "[LRindDates$Deeds;", true)
  | 5 => ("RindDates$Farm", "limit", "I", false)
  | 6 => ("RindDates$Farm", "size", "I", false)
  | _ => ("RindDates$Farm", "date", "I", false)
def tyX1 : Nat → FieldType := fun k => match k with
  | 0 => .object "RindDates$Grudges"
  | 1 => .object "RindDates$Grudges"
  | 2 => .array (.object "RindDates$Wheel")
  | 3 => .object "RindDates$Deeds"
  | 4 => .array (.object "RindDates$Deeds")
  | 5 => .int
  | 6 => .int
  | _ => .int
abbrev wsX10 : List Cond := u_ws RX1 TX1 8
theorem nmX1 : ∀ a, a < 8 → ∀ b, b < 8 → a ≠ b → (TX1 a).2.1 ≠ (TX1 b).2.1 := by decide +kernel
theorem tyX1_ok : ∀ k, k < 8 → parseFieldDescriptor (TX1 k).2.2.1 = some (tyX1 k) := by decide +kernel
abbrev cX1_init : ByteArray := prog_3_method_1_code
def yX1_init : MethodName := ⟨RX1, "<init>", "()V"⟩
abbrev cX1_isEmpty : ByteArray := prog_3_method_2_code
def yX1_isEmpty : MethodName := ⟨RX1, "isEmpty", "()Z"⟩
abbrev cX1_wheelOf : ByteArray := prog_3_method_3_code
def yX1_wheelOf : MethodName := ⟨RX1, "wheelOf", "(I)LRindDates$Wheel;"⟩
abbrev cX1_keptOf : ByteArray := prog_3_method_4_code
def yX1_keptOf : MethodName := ⟨RX1, "keptOf", "(I)LRindDates$Deeds;"⟩
abbrev cX1_isSilentBy : ByteArray := prog_3_method_5_code
def yX1_isSilentBy : MethodName := ⟨RX1, "isSilentBy", "(I)Z"⟩
abbrev cX1_begin : ByteArray := prog_3_method_6_code
def yX1_begin : MethodName := ⟨RX1, "begin", "(LRindDates$Reading;)V"⟩
abbrev cX1_replay : ByteArray := prog_3_method_7_code
def yX1_replay : MethodName := ⟨RX1, "replay", "()V"⟩
abbrev cX1_enact : ByteArray := prog_3_method_8_code
def yX1_enact : MethodName := ⟨RX1, "enact", "(II)V"⟩
abbrev cX1_act : ByteArray := prog_3_method_9_code
def yX1_act : MethodName := ⟨RX1, "act", "(II)V"⟩
abbrev cX1_actOn : ByteArray := prog_3_method_10_code
def yX1_actOn : MethodName := ⟨RX1, "actOn", "(LRindDates$Wheel;I)V"⟩
abbrev cX1_isOnShelf : ByteArray := prog_3_method_11_code
def yX1_isOnShelf : MethodName := ⟨RX1, "isOnShelf", "(LRindDates$Wheel;)Z"⟩
abbrev cX1_tellOf : ByteArray := prog_3_method_12_code
def yX1_tellOf : MethodName := ⟨RX1, "tellOf", "(LRindDates$Wheel;I)I"⟩
abbrev cX1_shelfBits : ByteArray := prog_3_method_13_code
def yX1_shelfBits : MethodName := ⟨RX1, "shelfBits", "()I"⟩
abbrev cX1_shelfRind : ByteArray := prog_3_method_14_code
def yX1_shelfRind : MethodName := ⟨RX1, "shelfRind", "()I"⟩
abbrev cX1_oldWheels : ByteArray := prog_3_method_15_code
def yX1_oldWheels : MethodName := ⟨RX1, "oldWheels", "()I"⟩
abbrev cX1_keptThere : ByteArray := prog_3_method_16_code
def yX1_keptThere : MethodName := ⟨RX1, "keptThere", "()I"⟩
abbrev cX1_digestFrom : ByteArray := prog_3_method_17_code
def yX1_digestFrom : MethodName := ⟨RX1, "digestFrom", "(J)J"⟩
def RX2 : String := "RindDates$Grudges"
def TX2 : u_T := fun k => match k with
  | _ => ("RindDates$Grudges", "held", "[I", true)
def tyX2 : Nat → FieldType := fun k => match k with
  | _ => .array .int
abbrev wsX20 : List Cond := u_ws RX2 TX2 1
theorem nmX2 : ∀ a, a < 1 → ∀ b, b < 1 → a ≠ b → (TX2 a).2.1 ≠ (TX2 b).2.1 := by decide +kernel
theorem tyX2_ok : ∀ k, k < 1 → parseFieldDescriptor (TX2 k).2.2.1 = some (tyX2 k) := by decide +kernel
abbrev cX2_init : ByteArray := prog_4_method_1_code
def yX2_init : MethodName := ⟨RX2, "<init>", "()V"⟩
abbrev cX2_get : ByteArray := prog_4_method_2_code
def yX2_get : MethodName := ⟨RX2, "get", "(II)I"⟩
abbrev cX2_set : ByteArray := prog_4_method_3_code
def yX2_set : MethodName := ⟨RX2, "set", "(III)V"⟩
abbrev cX2_takeFrom : ByteArray := prog_4_method_4_code
def yX2_takeFrom : MethodName := ⟨RX2, "takeFrom", "(LRindDates$Grudges;)V"⟩
abbrev cX2_total : ByteArray := prog_4_method_5_code
def yX2_total : MethodName := ⟨RX2, "total", "()I"⟩
abbrev cX2_passDay : ByteArray := prog_4_method_7_code
def yX2_passDay : MethodName := ⟨RX2, "passDay", "()V"⟩
abbrev cX2_raise : ByteArray := prog_4_method_8_code
def yX2_raise : MethodName := ⟨RX2, "raise", "(I)V"⟩
abbrev cX2_passDayWith : ByteArray := prog_4_method_9_code
def yX2_passDayWith : MethodName := ⟨RX2, "passDayWith", "(I)V"⟩
def RX3 : String := "RindDates$Plans"
def TX3 : u_T := fun k => match k with
  | 0 => ("RindDates$Plans", "said", "[I", true)
  | 1 => ("RindDates$Plans", "behind", "[LRindDates$Grudges;", true)
  | _ => ("RindDates$Plans", "days", "I", false)
def tyX3 : Nat → FieldType := fun k => match k with
  | 0 => .array .int
  | 1 => .array (.object "RindDates$Grudges")
  | _ => .int
abbrev wsX30 : List Cond := u_ws RX3 TX3 3
theorem nmX3 : ∀ a, a < 3 → ∀ b, b < 3 → a ≠ b → (TX3 a).2.1 ≠ (TX3 b).2.1 := by decide +kernel
theorem tyX3_ok : ∀ k, k < 3 → parseFieldDescriptor (TX3 k).2.2.1 = some (tyX3 k) := by decide +kernel
abbrev cX3_init : ByteArray := prog_5_method_1_code
def yX3_init : MethodName := ⟨RX3, "<init>", "()V"⟩
abbrev cX3_begin : ByteArray := prog_5_method_2_code
def yX3_begin : MethodName := ⟨RX3, "begin", "(LRindDates$Grudges;I)V"⟩
abbrev cX3_howMany : ByteArray := prog_5_method_3_code
def yX3_howMany : MethodName := ⟨RX3, "howMany", "()I"⟩
abbrev cX3_advance : ByteArray := prog_5_method_4_code
def yX3_advance : MethodName := ⟨RX3, "advance", "()V"⟩
abbrev cX3_after : ByteArray := prog_5_method_5_code
def yX3_after : MethodName := ⟨RX3, "after", "(I)I"⟩
abbrev cX3_reckonFrom : ByteArray := prog_5_method_6_code
def yX3_reckonFrom : MethodName := ⟨RX3, "reckonFrom", "(I)V"⟩
abbrev cX3_lastAnger : ByteArray := prog_5_method_7_code
def yX3_lastAnger : MethodName := ⟨RX3, "lastAnger", "()I"⟩
abbrev cX3_firstSaid : ByteArray := prog_5_method_8_code
def yX3_firstSaid : MethodName := ⟨RX3, "firstSaid", "()I"⟩
abbrev cX3_sayings : ByteArray := prog_5_method_9_code
def yX3_sayings : MethodName := ⟨RX3, "sayings", "()I"⟩
abbrev cX3_mattersSaid : ByteArray := prog_5_method_10_code
def yX3_mattersSaid : MethodName := ⟨RX3, "mattersSaid", "()I"⟩
abbrev cX3_leadsBy : ByteArray := prog_5_method_11_code
def yX3_leadsBy : MethodName := ⟨RX3, "leadsBy", "(LRindDates$Row;)Z"⟩
abbrev cX3_writeTo : ByteArray := prog_5_method_12_code
def yX3_writeTo : MethodName := ⟨RX3, "writeTo", "(LRindDates$Row;)V"⟩
def RX4 : String := "RindDates$Reading"
def TX4 : u_T := fun k => match k with
  | 0 => ("RindDates$Reading", "grudges", "LRindDates$Grudges;", true)
  | 1 => ("RindDates$Reading", "kinds", "[I", true)
  | 2 => ("RindDates$Reading", "keeps", "[I", true)
  | 3 => ("RindDates$Reading", "salts", "[I", true)
  | 4 => ("RindDates$Reading", "limit", "I", false)
  | 5 => ("RindDates$Reading", "wheels", "I", false)
  | _ => ("RindDates$Reading", "place", "I", false)
def tyX4 : Nat → FieldType := fun k => match k with
  | 0 => .object "RindDates$Grudges"
  | 1 => .array .int
  | 2 => .array .int
  | 3 => .array .int
  | 4 => .int
  | 5 => .int
  | _ => .int
abbrev wsX40 : List Cond := u_ws RX4 TX4 7
theorem nmX4 : ∀ a, a < 7 → ∀ b, b < 7 → a ≠ b → (TX4 a).2.1 ≠ (TX4 b).2.1 := by decide +kernel
theorem tyX4_ok : ∀ k, k < 7 → parseFieldDescriptor (TX4 k).2.2.1 = some (tyX4 k) := by decide +kernel
abbrev cX4_init : ByteArray := prog_6_method_1_code
def yX4_init : MethodName := ⟨RX4, "<init>", "()V"⟩
abbrev cX4_read : ByteArray := prog_6_method_2_code
def yX4_read : MethodName := ⟨RX4, "read", "(LRindDates$Row;)I"⟩
abbrev cX4_skipBlanks : ByteArray := prog_6_method_3_code
def yX4_skipBlanks : MethodName := ⟨RX4, "skipBlanks", "(LRindDates$Row;)V"⟩
abbrev cX4_hasFigure : ByteArray := prog_6_method_4_code
def yX4_hasFigure : MethodName := ⟨RX4, "hasFigure", "(LRindDates$Row;)Z"⟩
abbrev cX4_takeFigure : ByteArray := prog_6_method_5_code
def yX4_takeFigure : MethodName := ⟨RX4, "takeFigure", "(LRindDates$Row;)I"⟩
abbrev cX4_readBrothers : ByteArray := prog_6_method_6_code
def yX4_readBrothers : MethodName := ⟨RX4, "readBrothers", "(LRindDates$Row;)I"⟩
abbrev cX4_readLimit : ByteArray := prog_6_method_7_code
def yX4_readLimit : MethodName := ⟨RX4, "readLimit", "(LRindDates$Row;)I"⟩
abbrev cX4_readWheels : ByteArray := prog_6_method_8_code
def yX4_readWheels : MethodName := ⟨RX4, "readWheels", "(LRindDates$Row;)I"⟩
abbrev cX4_readWheel : ByteArray := prog_6_method_9_code
def yX4_readWheel : MethodName := ⟨RX4, "readWheel", "(LRindDates$Row;I)Z"⟩
abbrev cX4_kindBy : ByteArray := prog_6_method_10_code
def yX4_kindBy : MethodName := ⟨RX4, "kindBy", "(I)I"⟩
def RX5 : String := "RindDates$Row"
def TX5 : u_T := fun k => match k with
  | 0 => ("RindDates$Row", "places", "[I", true)
  | 1 => ("RindDates$Row", "blank", "I", true)
  | _ => ("RindDates$Row", "size", "I", false)
def tyX5 : Nat → FieldType := fun k => match k with
  | 0 => .array .int
  | 1 => .int
  | _ => .int
abbrev wsX50 : List Cond := u_ws RX5 TX5 3
theorem nmX5 : ∀ a, a < 3 → ∀ b, b < 3 → a ≠ b → (TX5 a).2.1 ≠ (TX5 b).2.1 := by decide +kernel
theorem tyX5_ok : ∀ k, k < 3 → parseFieldDescriptor (TX5 k).2.2.1 = some (tyX5 k) := by decide +kernel
abbrev cX5_init : ByteArray := prog_7_method_1_code
def yX5_init : MethodName := ⟨RX5, "<init>", "(II)V"⟩
abbrev cX5_isMissing : ByteArray := prog_7_method_2_code
def yX5_isMissing : MethodName := ⟨RX5, "isMissing", "()Z"⟩
abbrev cX5_renew : ByteArray := prog_7_method_3_code
def yX5_renew : MethodName := ⟨RX5, "renew", "(I)V"⟩
abbrev cX5_hasPlace : ByteArray := prog_7_method_4_code
def yX5_hasPlace : MethodName := ⟨RX5, "hasPlace", "(I)Z"⟩
abbrev cX5_get : ByteArray := prog_7_method_6_code
def yX5_get : MethodName := ⟨RX5, "get", "(I)I"⟩
abbrev cX5_set : ByteArray := prog_7_method_7_code
def yX5_set : MethodName := ⟨RX5, "set", "(II)V"⟩
abbrev cX5_isWithin : ByteArray := prog_7_method_8_code
def yX5_isWithin : MethodName := ⟨RX5, "isWithin", "(I)Z"⟩
abbrev cX5_digestFrom : ByteArray := prog_7_method_10_code
def yX5_digestFrom : MethodName := ⟨RX5, "digestFrom", "(J)J"⟩
def RX6 : String := "RindDates$Stalls"
def TX6 : u_T := fun k => match k with
  | 0 => ("RindDates$Stalls", "has", "[I", true)
  | 1 => ("RindDates$Stalls", "best", "[I", true)
  | _ => ("RindDates$Stalls", "size", "I", false)
def tyX6 : Nat → FieldType := fun k => match k with
  | 0 => .array .int
  | 1 => .array .int
  | _ => .int
abbrev wsX60 : List Cond := u_ws RX6 TX6 3
theorem nmX6 : ∀ a, a < 3 → ∀ b, b < 3 → a ≠ b → (TX6 a).2.1 ≠ (TX6 b).2.1 := by decide +kernel
theorem tyX6_ok : ∀ k, k < 3 → parseFieldDescriptor (TX6 k).2.2.1 = some (tyX6 k) := by decide +kernel
abbrev cX6_init : ByteArray := prog_8_method_1_code
def yX6_init : MethodName := ⟨RX6, "<init>", "()V"⟩
abbrev cX6_fillFrom : ByteArray := prog_8_method_2_code
def yX6_fillFrom : MethodName := ⟨RX6, "fillFrom", "(LRindDates$Farm;LRindDates$Row;)I"⟩
abbrev cX6_filledBy : ByteArray := prog_8_method_3_code
def yX6_filledBy : MethodName := ⟨RX6, "filledBy", "(ILRindDates$Farm;LRindDates$Row;)I"⟩
abbrev cX6_writeTo : ByteArray := prog_8_method_4_code
def yX6_writeTo : MethodName := ⟨RX6, "writeTo", "(LRindDates$Row;)V"⟩
def RX7 : String := "RindDates$Told"
def TX7 : u_T := fun k => match k with
  | 0 => ("RindDates$Told", "times", "[I", true)
  | 1 => ("RindDates$Told", "latest", "I", false)
  | 2 => ("RindDates$Told", "asked", "I", false)
  | 3 => ("RindDates$Told", "upper", "J", false)
  | _ => ("RindDates$Told", "lower", "J", false)
def tyX7 : Nat → FieldType := fun k => match k with
  | 0 => .array .int
  | 1 => .int
  | 2 => .int
  | 3 => .long
  | _ => .long
abbrev wsX70 : List Cond := u_ws RX7 TX7 5
theorem nmX7 : ∀ a, a < 5 → ∀ b, b < 5 → a ≠ b → (TX7 a).2.1 ≠ (TX7 b).2.1 := by decide +kernel
theorem tyX7_ok : ∀ k, k < 5 → parseFieldDescriptor (TX7 k).2.2.1 = some (tyX7 k) := by decide +kernel
abbrev cX7_init : ByteArray := prog_9_method_1_code
def yX7_init : MethodName := ⟨RX7, "<init>", "()V"⟩
abbrev cX7_refuse : ByteArray := prog_9_method_2_code
def yX7_refuse : MethodName := ⟨RX7, "refuse", "(I)I"⟩
abbrev cX7_tell : ByteArray := prog_9_method_4_code
def yX7_tell : MethodName := ⟨RX7, "tell", "(I)I"⟩
abbrev cX7_tellParts : ByteArray := prog_9_method_5_code
def yX7_tellParts : MethodName := ⟨RX7, "tellParts", "(JJ)V"⟩
abbrev cX7_commonPart : ByteArray := prog_9_method_6_code
def yX7_commonPart : MethodName := ⟨RX7, "commonPart", "(JJ)J"⟩
def RX8 : String := "RindDates$Wheel"
def TX8 : u_T := fun k => match k with
  | 0 => ("RindDates$Wheel", "kind", "I", false)
  | 1 => ("RindDates$Wheel", "keeps", "I", false)
  | 2 => ("RindDates$Wheel", "salt", "I", false)
  | 3 => ("RindDates$Wheel", "madeOn", "I", false)
  | 4 => ("RindDates$Wheel", "rind", "I", false)
  | _ => ("RindDates$Wheel", "sold", "Z", false)
def tyX8 : Nat → FieldType := fun k => match k with
  | 0 => .int
  | 1 => .int
  | 2 => .int
  | 3 => .int
  | 4 => .int
  | _ => .boolean
abbrev wsX80 : List Cond := u_ws RX8 TX8 6
theorem nmX8 : ∀ a, a < 6 → ∀ b, b < 6 → a ≠ b → (TX8 a).2.1 ≠ (TX8 b).2.1 := by decide +kernel
theorem tyX8_ok : ∀ k, k < 6 → parseFieldDescriptor (TX8 k).2.2.1 = some (tyX8 k) := by decide +kernel
abbrev cX8_init : ByteArray := prog_10_method_1_code
def yX8_init : MethodName := ⟨RX8, "<init>", "()V"⟩
abbrev cX8_forget : ByteArray := prog_10_method_2_code
def yX8_forget : MethodName := ⟨RX8, "forget", "()V"⟩
abbrev cX8_isMade : ByteArray := prog_10_method_3_code
def yX8_isMade : MethodName := ⟨RX8, "isMade", "()Z"⟩
abbrev cX8_rindBy : ByteArray := prog_10_method_4_code
def yX8_rindBy : MethodName := ⟨RX8, "rindBy", "(II)I"⟩
def RX9 : String := "RindDates"
def TX9 : u_T := fun k => match k with
  | 0 => ("RindDates", "rows", "[LRindDates$Row;", true)
  | 1 => ("RindDates", "texts", "[LRindDates$Row;", true)
  | 2 => ("RindDates", "farm", "LRindDates$Farm;", true)
  | 3 => ("RindDates", "reading", "LRindDates$Reading;", true)
  | 4 => ("RindDates", "plans", "LRindDates$Plans;", true)
  | 5 => ("RindDates", "stalls", "LRindDates$Stalls;", true)
  | 6 => ("RindDates", "aside", "LRindDates$Grudges;", true)
  | _ => ("RindDates", "told", "LRindDates$Told;", true)
def tyX9 : Nat → FieldType := fun k => match k with
  | 0 => .array (.object "RindDates$Row")
  | 1 => .array (.object "RindDates$Row")
  | 2 => .object "RindDates$Farm"
  | 3 => .object "RindDates$Reading"
  | 4 => .object "RindDates$Plans"
  | 5 => .object "RindDates$Stalls"
  | 6 => .object "RindDates$Grudges"
  | _ => .object "RindDates$Told"
abbrev wsX90 : List Cond := u_ws RX9 TX9 8
theorem nmX9 : ∀ a, a < 8 → ∀ b, b < 8 → a ≠ b → (TX9 a).2.1 ≠ (TX9 b).2.1 := by decide +kernel
theorem tyX9_ok : ∀ k, k < 8 → parseFieldDescriptor (TX9 k).2.2.1 = some (tyX9 k) := by decide +kernel
abbrev cX9_init : ByteArray := prog_1_method_1_code
def yX9_init : MethodName := ⟨RX9, "<init>", "()V"⟩
abbrev cX9_row : ByteArray := prog_1_method_2_code
def yX9_row : MethodName := ⟨RX9, "row", "(II)I"⟩
abbrev cX9_lay : ByteArray := prog_1_method_3_code
def yX9_lay : MethodName := ⟨RX9, "lay", "(III)I"⟩
abbrev cX9_at : ByteArray := prog_1_method_4_code
def yX9_at : MethodName := ⟨RX9, "at", "(II)I"⟩
abbrev cX9_text : ByteArray := prog_1_method_8_code
def yX9_text : MethodName := ⟨RX9, "text", "(II)I"⟩
abbrev cX9_put : ByteArray := prog_1_method_9_code
def yX9_put : MethodName := ⟨RX9, "put", "(III)I"⟩
abbrev cX9_farm : ByteArray := prog_1_method_11_code
def yX9_farm : MethodName := ⟨RX9, "farm", "(I)I"⟩
abbrev cX9_wheel : ByteArray := prog_1_method_12_code
def yX9_wheel : MethodName := ⟨RX9, "wheel", "(II)I"⟩
abbrev cX9_holds : ByteArray := prog_1_method_14_code
def yX9_holds : MethodName := ⟨RX9, "holds", "(II)I"⟩
abbrev cX9_anger : ByteArray := prog_1_method_15_code
def yX9_anger : MethodName := ⟨RX9, "anger", "(I)I"⟩
abbrev cX9_day : ByteArray := prog_1_method_16_code
def yX9_day : MethodName := ⟨RX9, "day", "()I"⟩
abbrev cX9_say : ByteArray := prog_1_method_17_code
def yX9_say : MethodName := ⟨RX9, "say", "(I)I"⟩
abbrev cX9_make : ByteArray := prog_1_method_18_code
def yX9_make : MethodName := ⟨RX9, "make", "(I)I"⟩
abbrev cX9_sell : ByteArray := prog_1_method_19_code
def yX9_sell : MethodName := ⟨RX9, "sell", "(I)I"⟩
abbrev cX9_undo : ByteArray := prog_1_method_20_code
def yX9_undo : MethodName := ⟨RX9, "undo", "(I)I"⟩
abbrev cX9_keep : ByteArray := prog_1_method_21_code
def yX9_keep : MethodName := ⟨RX9, "keep", "(I)I"⟩
abbrev cX9_on : ByteArray := prog_1_method_22_code
def yX9_on : MethodName := ⟨RX9, "on", "(I)I"⟩
abbrev cX9_peace : ByteArray := prog_1_method_23_code
def yX9_peace : MethodName := ⟨RX9, "peace", "()I"⟩
abbrev cX9_plan : ByteArray := prog_1_method_24_code
def yX9_plan : MethodName := ⟨RX9, "plan", "(IIII)I"⟩
abbrev cX9_through : ByteArray := prog_1_method_25_code
def yX9_through : MethodName := ⟨RX9, "through", "(I)I"⟩
abbrev cX9_about : ByteArray := prog_1_method_26_code
def yX9_about : MethodName := ⟨RX9, "about", "(I)I"⟩
abbrev cX9_sure : ByteArray := prog_1_method_27_code
def yX9_sure : MethodName := ⟨RX9, "sure", "(I)I"⟩
abbrev cX9_salts : ByteArray := prog_1_method_28_code
def yX9_salts : MethodName := ⟨RX9, "salts", "(II)I"⟩
abbrev cX9_kinds : ByteArray := prog_1_method_29_code
def yX9_kinds : MethodName := ⟨RX9, "kinds", "(II)I"⟩
abbrev cX9_test : ByteArray := prog_1_method_30_code
def yX9_test : MethodName := ⟨RX9, "test", "(II)I"⟩
abbrev cX9_shows : ByteArray := prog_1_method_31_code
def yX9_shows : MethodName := ⟨RX9, "shows", "(II)I"⟩
abbrev cX9_duel : ByteArray := prog_1_method_32_code
def yX9_duel : MethodName := ⟨RX9, "duel", "(I)I"⟩
abbrev cX9_odds : ByteArray := prog_1_method_33_code
def yX9_odds : MethodName := ⟨RX9, "odds", "(III)I"⟩
abbrev cX9_mid : ByteArray := prog_1_method_34_code
def yX9_mid : MethodName := ⟨RX9, "mid", "(III)I"⟩
abbrev cX9_lots : ByteArray := prog_1_method_35_code
def yX9_lots : MethodName := ⟨RX9, "lots", "(II)I"⟩
abbrev cX9_asked : ByteArray := prog_1_method_36_code
def yX9_asked : MethodName := ⟨RX9, "asked", "()I"⟩
abbrev cX9_upper : ByteArray := prog_1_method_37_code
def yX9_upper : MethodName := ⟨RX9, "upper", "()J"⟩
abbrev cX9_lower : ByteArray := prog_1_method_38_code
def yX9_lower : MethodName := ⟨RX9, "lower", "()J"⟩
abbrev cX9_count : ByteArray := prog_1_method_39_code
def yX9_count : MethodName := ⟨RX9, "count", "(I)I"⟩
abbrev cX9_digest : ByteArray := prog_1_method_42_code
def yX9_digest : MethodName := ⟨RX9, "digest", "()J"⟩
abbrev cX9_within : ByteArray := prog_1_method_43_code
def yX9_within : MethodName := ⟨RX9, "within", "(III)Z"⟩
abbrev cX9_isMatter : ByteArray := prog_1_method_44_code
def yX9_isMatter : MethodName := ⟨RX9, "isMatter", "(I)Z"⟩
abbrev cX9_rowOf : ByteArray := prog_1_method_45_code
def yX9_rowOf : MethodName := ⟨RX9, "rowOf", "(I)LRindDates$Row;"⟩
abbrev cX9_textOf : ByteArray := prog_1_method_46_code
def yX9_textOf : MethodName := ⟨RX9, "textOf", "(I)LRindDates$Row;"⟩
abbrev cX9_refusalOf : ByteArray := prog_1_method_47_code
def yX9_refusalOf : MethodName := ⟨RX9, "refusalOf", "(LRindDates$Row;)I"⟩
abbrev cX9_refusalOfPlace : ByteArray := prog_1_method_48_code
def yX9_refusalOfPlace : MethodName := ⟨RX9, "refusalOfPlace", "(LRindDates$Row;I)I"⟩
abbrev cX9_isPlan : ByteArray := prog_1_method_49_code
def yX9_isPlan : MethodName := ⟨RX9, "isPlan", "(LRindDates$Row;)Z"⟩
abbrev cX9_areChances : ByteArray := prog_1_method_50_code
def yX9_areChances : MethodName := ⟨RX9, "areChances", "(III)Z"⟩
abbrev cX9_refusalOfAngers : ByteArray := prog_1_method_51_code
def yX9_refusalOfAngers : MethodName := ⟨RX9, "refusalOfAngers", "(LRindDates$Row;)I"⟩
abbrev cX9_refusalOfPairs : ByteArray := prog_1_method_52_code
def yX9_refusalOfPairs : MethodName := ⟨RX9, "refusalOfPairs", "(LRindDates$Wheel;LRindDates$Row;)I"⟩
abbrev cX9_rindOf : ByteArray := prog_1_method_53_code
def yX9_rindOf : MethodName := ⟨RX9, "rindOf", "(IIII)I"⟩
abbrev cX9_isOf : ByteArray := prog_1_method_54_code
def yX9_isOf : MethodName := ⟨RX9, "isOf", "(II)Z"⟩
abbrev cX9_fits : ByteArray := prog_1_method_56_code
def yX9_fits : MethodName := ⟨RX9, "fits", "(IILRindDates$Row;)Z"⟩
abbrev cX9_kindsBy : ByteArray := prog_1_method_57_code
def yX9_kindsBy : MethodName := ⟨RX9, "kindsBy", "(ILRindDates$Row;)I"⟩
abbrev cX9_greatestPart : ByteArray := prog_1_method_58_code
def yX9_greatestPart : MethodName := ⟨RX9, "greatestPart", "(III)I"⟩
abbrev cX9_mostByNephew : ByteArray := prog_1_method_59_code
def yX9_mostByNephew : MethodName := ⟨RX9, "mostByNephew", "(LRindDates$Grudges;I)I"⟩
abbrev cX9_leastByAunt : ByteArray := prog_1_method_60_code
def yX9_leastByAunt : MethodName := ⟨RX9, "leastByAunt", "(LRindDates$Grudges;I)I"⟩
abbrev cX9_power : ByteArray := prog_1_method_61_code
def yX9_power : MethodName := ⟨RX9, "power", "(JI)J"⟩
abbrev cX9_weighed : ByteArray := prog_1_method_62_code
def yX9_weighed : MethodName := ⟨RX9, "weighed", "(IIIZ)J"⟩
abbrev cX9_enactLot : ByteArray := prog_1_method_63_code
def yX9_enactLot : MethodName := ⟨RX9, "enactLot", "(I)V"⟩
abbrev cX9_counted : ByteArray := prog_1_method_64_code
def yX9_counted : MethodName := ⟨RX9, "counted", "(I)I"⟩
abbrev cX9_thereOf : ByteArray := prog_1_method_65_code
def yX9_thereOf : MethodName := ⟨RX9, "thereOf", "([LRindDates$Row;)I"⟩
abbrev cX9_digestOf : ByteArray := prog_1_method_66_code
def yX9_digestOf : MethodName := ⟨RX9, "digestOf", "([LRindDates$Row;J)J"⟩
def RX10 : String := "RindDatesModel"
def TX10 : u_T := fun k => match k with
  | _ => ("", "", "", false)
def tyX10 : Nat → FieldType := fun k => match k with
  | _ => .int
abbrev wsX100 : List Cond := u_ws RX10 TX10 0
theorem nmX10 : ∀ a, a < 0 → ∀ b, b < 0 → a ≠ b → (TX10 a).2.1 ≠ (TX10 b).2.1 := by decide +kernel
theorem tyX10_ok : ∀ k, k < 0 → parseFieldDescriptor (TX10 k).2.2.1 = some (tyX10 k) := by decide +kernel
def RJ9 : String := "java/lang/Math"
def TJ9 : u_T := fun k => match k with
  | _ => ("", "", "", false)
def tyJ9 : Nat → FieldType := fun k => match k with
  | _ => .int
abbrev wsJ90 : List Cond := u_ws RJ9 TJ9 0
theorem nmJ9 : ∀ a, a < 0 → ∀ b, b < 0 → a ≠ b → (TJ9 a).2.1 ≠ (TJ9 b).2.1 := by decide +kernel
theorem tyJ9_ok : ∀ k, k < 0 → parseFieldDescriptor (TJ9 k).2.2.1 = some (tyJ9 k) := by decide +kernel
abbrev cJ9_max_7cf53 : ByteArray := prog_13_method_65_code
def yJ9_max_7cf53 : MethodName := ⟨RJ9, "max", "(II)I"⟩
abbrev cJ9_min_7cf53 : ByteArray := prog_13_method_69_code
def yJ9_min_7cf53 : MethodName := ⟨RJ9, "min", "(II)I"⟩
def RJ10 : String := "java/lang/System"
def TJ10 : u_T := fun k => match k with
  | _ => ("", "", "", false)
def tyJ10 : Nat → FieldType := fun k => match k with
  | _ => .int
abbrev wsJ100 : List Cond := u_ws RJ10 TJ10 0
theorem nmJ10 : ∀ a, a < 0 → ∀ b, b < 0 → a ≠ b → (TJ10 a).2.1 ≠ (TJ10 b).2.1 := by decide +kernel
theorem tyJ10_ok : ∀ k, k < 0 → parseFieldDescriptor (TJ10 k).2.2.1 = some (tyJ10 k) := by decide +kernel
def RJ7 : String := "java/util/Arrays"
def TJ7 : u_T := fun k => match k with
  | _ => ("", "", "", false)
def tyJ7 : Nat → FieldType := fun k => match k with
  | _ => .int
abbrev wsJ70 : List Cond := u_ws RJ7 TJ7 0
theorem nmJ7 : ∀ a, a < 0 → ∀ b, b < 0 → a ≠ b → (TJ7 a).2.1 ≠ (TJ7 b).2.1 := by decide +kernel
theorem tyJ7_ok : ∀ k, k < 0 → parseFieldDescriptor (TJ7 k).2.2.1 = some (tyJ7 k) := by decide +kernel
abbrev cJ7_fill_53178 : ByteArray := prog_15_method_103_code
def yJ7_fill_53178 : MethodName := ⟨RJ7, "fill", "([II)V"⟩
def RL : String := "RindDatesLaw"
abbrev cL_cell : ByteArray := method_2_code
def yL_cell : MethodName := ⟨RL, "cell", "([II)I"⟩
abbrev cL_up : ByteArray := method_3_code
def yL_up : MethodName := ⟨RL, "up", "(II)I"⟩
abbrev cL_lay : ByteArray := method_4_code
def yL_lay : MethodName := ⟨RL, "lay", "([I[I)V"⟩
abbrev cL_letter : ByteArray := method_5_code
def yL_letter : MethodName := ⟨RL, "letter", "(I)I"⟩
abbrev cL_made : ByteArray := method_6_code
def yL_made : MethodName := ⟨RL, "made", "(LRindDates;[I)Z"⟩
abbrev cL_bits : ByteArray := method_8_code
def yL_bits : MethodName := ⟨RL, "bits", "(I)I"⟩
abbrev cL_laid : ByteArray := method_9_code
def yL_laid : MethodName := ⟨RL, "laid", "(LRindDates;III)Z"⟩
abbrev cL_does : ByteArray := method_10_code
def yL_does : MethodName := ⟨RL, "does", "(LRindDates;II)I"⟩
abbrev cL_law : ByteArray := code
def yL_law : MethodName := ⟨RL, "law", "([I)Z"⟩
/-! the tables: classes, methods, what each link of a class file means (with its word's place in lw_tbl) -/
abbrev cls : List vw_C := [(RX0, TX0, 3), (RX1, TX1, 8), (RX2, TX2, 1), (RX3, TX3, 3), (RX4, TX4, 7), (RX5, TX5, 3), (RX6, TX6, 3), (RX7, TX7, 5), 
  (RX8, TX8, 6), (RX9, TX9, 8)]
def RNL : List String := [RX0, RX1, RX2, RX3, RX4, RX5, RX6, RX7, 
  RX8, RX9, RL, RJ9, RJ10, RJ7]
def TL : List u_T := [TX0, TX1, TX2, TX3, TX4, TX5, TX6, TX7, 
  TX8, TX9]
def tyL : List (Nat → FieldType) := [tyX0, tyX1, tyX2, tyX3, tyX4, tyX5, tyX6, tyX7, 
  tyX8, tyX9]
def NL : List Nat := [3, 8, 1, 3, 7, 3, 3, 5, 
  6, 8]
def dfl : List (List Value) := [[.null, .null, .int 0], 
  [.null, .null, .null, .null, .null, .int 0, .int 0, .int 0], 
  [.null], 
  [.null, .null, .int 0], 
  [.null, .null, .null, .null, .int 0, .int 0, .int 0], 
  [.null, .int 0, .int 0], 
  [.null, .null, .int 0], 
  [.null, .int 0, .int 0, .long 0, .long 0], 
  [.int 0, .int 0, .int 0, .int 0, .int 0, .int 0], 
  [.null, .null, .null, .null, .null, .null, .null, .null]]
def RNm (c : Nat) : String := RNL.getD c ""
def Tm (c : Nat) : u_T := TL.getD c TX0
def fTy (c k : Nat) : FieldType := (tyL.getD c tyX0) k
def fFin (c k : Nat) : Bool := (Tm c k).2.2.2
def tagC (t : Nat) : Nat := t - 10
abbrev MR : Type := MethodName × ByteArray × Nat × Option FieldType × Nat × Bool × Nat × Nat × Nat × Nat × Nat × Nat
def mtab : List MR := [(yX0_init, cX0_init, 1, none, 1, false, 0, 0, 120, 77, 119, 0), 
  (yX0_isMissing, cX0_isMissing, 1, (some .boolean), 1, false, 0, 2, 610, 77, 609, 42), 
  (yX0_hasRoom, cX0_hasRoom, 2, (some .boolean), 2, false, 0, 2, 562, 77, 561, 37), 
  (yX0_add, cX0_add, 3, none, 3, false, 0, 0, 570, 77, 569, 39), 
  (yX0_takeFrom, cX0_takeFrom, 2, none, 2, false, 0, 0, 601, 77, 600, 41), 
  (yX1_init, cX1_init, 2, none, 1, false, 1, 0, 101, 75, 100, 0), 
  (yX1_isEmpty, cX1_isEmpty, 1, (some .boolean), 1, false, 1, 2, 547, 75, 546, 35), 
  (yX1_wheelOf, cX1_wheelOf, 2, (some (.object "RindDates$Wheel")), 2, false, 1, 4, 496, 75, 495, 28), 
  (yX1_keptOf, cX1_keptOf, 2, (some (.object "RindDates$Deeds")), 2, false, 1, 4, 597, 75, 596, 40), 
  (yX1_isSilentBy, cX1_isSilentBy, 2, (some .boolean), 2, false, 1, 2, 554, 75, 553, 36), 
  (yX1_begin, cX1_begin, 3, none, 2, false, 1, 0, 457, 75, 456, 20), 
  (yX1_replay, cX1_replay, 2, none, 1, false, 1, 0, 469, 75, 468, 22), 
  (yX1_enact, cX1_enact, 3, none, 3, false, 1, 0, 566, 75, 565, 38), 
  (yX1_act, cX1_act, 3, none, 3, false, 1, 0, 477, 75, 476, 24), 
  (yX1_actOn, cX1_actOn, 3, none, 3, false, 1, 0, 500, 75, 499, 29), 
  (yX1_isOnShelf, cX1_isOnShelf, 2, (some .boolean), 2, false, 1, 2, 522, 75, 521, 32), 
  (yX1_tellOf, cX1_tellOf, 3, (some .int), 3, false, 1, 1, 518, 75, 517, 31), 
  (yX1_shelfBits, cX1_shelfBits, 3, (some .int), 1, false, 1, 1, 832, 75, 831, 67), 
  (yX1_shelfRind, cX1_shelfRind, 3, (some .int), 1, false, 1, 1, 836, 75, 835, 68), 
  (yX1_oldWheels, cX1_oldWheels, 3, (some .int), 1, false, 1, 1, 840, 75, 839, 69), 
  (yX1_keptThere, cX1_keptThere, 3, (some .int), 1, false, 1, 1, 850, 75, 849, 70), 
  (yX1_digestFrom, cX1_digestFrom, 7, (some .long), 2, false, 1, 3, 861, 75, 860, 71), 
  (yX2_init, cX2_init, 1, none, 1, false, 2, 0, 107, 76, 106, 0), 
  (yX2_get, cX2_get, 4, (some .int), 3, false, 2, 1, 490, 76, 489, 27), 
  (yX2_set, cX2_set, 5, none, 4, false, 2, 0, 438, 76, 437, 16), 
  (yX2_takeFrom, cX2_takeFrom, 2, none, 2, false, 2, 0, 461, 76, 460, 21), 
  (yX2_total, cX2_total, 3, (some .int), 1, false, 2, 1, 504, 76, 503, 30), 
  (yX2_passDay, cX2_passDay, 2, none, 1, false, 2, 0, 481, 76, 480, 25), 
  (yX2_raise, cX2_raise, 2, none, 2, false, 2, 0, 486, 76, 485, 26), 
  (yX2_passDayWith, cX2_passDayWith, 2, none, 2, false, 2, 0, 634, 76, 633, 45), 
  (yX3_init, cX3_init, 2, none, 1, false, 3, 0, 241, 80, 240, 0), 
  (yX3_begin, cX3_begin, 3, none, 3, false, 3, 0, 622, 80, 621, 43), 
  (yX3_howMany, cX3_howMany, 1, (some .int), 1, false, 3, 1, 640, 80, 639, 46), 
  (yX3_advance, cX3_advance, 2, none, 1, false, 3, 0, 664, 80, 663, 50), 
  (yX3_after, cX3_after, 1, (some .int), 1, true, 3, 1, 667, 80, 666, 0), 
  (yX3_reckonFrom, cX3_reckonFrom, 3, none, 2, false, 3, 0, 630, 80, 629, 44), 
  (yX3_lastAnger, cX3_lastAnger, 1, (some .int), 1, false, 3, 1, 652, 80, 651, 48), 
  (yX3_firstSaid, cX3_firstSaid, 1, (some .int), 1, false, 3, 1, 698, 80, 697, 54), 
  (yX3_sayings, cX3_sayings, 3, (some .int), 1, false, 3, 1, 648, 80, 647, 47), 
  (yX3_mattersSaid, cX3_mattersSaid, 3, (some .int), 1, false, 3, 1, 713, 80, 712, 56), 
  (yX3_leadsBy, cX3_leadsBy, 3, (some .boolean), 2, false, 3, 2, 693, 80, 692, 53), 
  (yX3_writeTo, cX3_writeTo, 3, none, 2, false, 3, 0, 658, 80, 657, 49), 
  (yX4_init, cX4_init, 1, none, 1, false, 4, 0, 205, 79, 204, 0), 
  (yX4_read, cX4_read, 3, (some .int), 2, false, 4, 1, 414, 79, 413, 11), 
  (yX4_skipBlanks, cX4_skipBlanks, 2, none, 2, false, 4, 0, 418, 79, 417, 12), 
  (yX4_hasFigure, cX4_hasFigure, 2, (some .boolean), 2, false, 4, 2, 427, 79, 426, 14), 
  (yX4_takeFigure, cX4_takeFigure, 3, (some .int), 2, false, 4, 1, 434, 79, 433, 15), 
  (yX4_readBrothers, cX4_readBrothers, 3, (some .int), 2, false, 4, 1, 423, 79, 422, 13), 
  (yX4_readLimit, cX4_readLimit, 4, (some .int), 2, false, 4, 1, 442, 79, 441, 17), 
  (yX4_readWheels, cX4_readWheels, 3, (some .int), 2, false, 4, 1, 446, 79, 445, 18), 
  (yX4_readWheel, cX4_readWheel, 5, (some .boolean), 3, false, 4, 2, 450, 79, 449, 19), 
  (yX4_kindBy, cX4_kindBy, 1, (some .int), 1, true, 4, 1, 453, 79, 452, 0), 
  (yX5_init, cX5_init, 3, none, 3, false, 5, 0, 302, 83, 301, 0), 
  (yX5_isMissing, cX5_isMissing, 1, (some .boolean), 1, false, 5, 2, 382, 83, 381, 5), 
  (yX5_renew, cX5_renew, 2, none, 2, false, 5, 0, 360, 83, 359, 2), 
  (yX5_hasPlace, cX5_hasPlace, 2, (some .boolean), 2, false, 5, 2, 386, 83, 385, 6), 
  (yX5_get, cX5_get, 2, (some .int), 2, false, 5, 1, 390, 83, 389, 7), 
  (yX5_set, cX5_set, 3, none, 3, false, 5, 0, 394, 83, 393, 8), 
  (yX5_isWithin, cX5_isWithin, 3, (some .boolean), 2, false, 5, 2, 687, 83, 686, 52), 
  (yX5_digestFrom, cX5_digestFrom, 6, (some .long), 2, false, 5, 3, 871, 83, 870, 72), 
  (yX6_init, cX6_init, 1, none, 1, false, 6, 0, 260, 81, 259, 0), 
  (yX6_fillFrom, cX6_fillFrom, 8, (some .int), 3, false, 6, 1, 751, 81, 750, 61), 
  (yX6_filledBy, cX6_filledBy, 12, (some .int), 4, false, 6, 1, 758, 81, 757, 62), 
  (yX6_writeTo, cX6_writeTo, 3, none, 2, false, 6, 0, 766, 81, 765, 63), 
  (yX7_init, cX7_init, 1, none, 1, false, 7, 0, 278, 82, 277, 0), 
  (yX7_refuse, cX7_refuse, 2, (some .int), 2, false, 7, 1, 356, 82, 355, 1), 
  (yX7_tell, cX7_tell, 2, (some .int), 2, false, 7, 1, 398, 82, 397, 9), 
  (yX7_tellParts, cX7_tellParts, 7, none, 3, false, 7, 0, 702, 82, 701, 55), 
  (yX7_commonPart, cX7_commonPart, 11, (some .long), 2, true, 7, 3, 705, 82, 704, 0), 
  (yX8_init, cX8_init, 1, none, 1, false, 8, 0, 140, 78, 139, 0), 
  (yX8_forget, cX8_forget, 1, none, 1, false, 8, 0, 473, 78, 472, 23), 
  (yX8_isMade, cX8_isMade, 1, (some .boolean), 1, false, 8, 2, 526, 78, 525, 33), 
  (yX8_rindBy, cX8_rindBy, 3, (some .int), 3, false, 8, 1, 530, 78, 529, 34), 
  (yX9_init, cX9_init, 2, none, 1, false, 9, 0, 91, 74, 90, 0), 
  (yX9_row, cX9_row, 4, (some .int), 3, false, 9, 1, 348, 74, 346, 347), 
  (yX9_lay, cX9_lay, 7, (some .int), 4, false, 9, 1, 370, 74, 368, 369), 
  (yX9_at, cX9_at, 5, (some .int), 3, false, 9, 1, 402, 74, 400, 401), 
  (yX9_text, cX9_text, 4, (some .int), 3, false, 9, 1, 890, 74, 888, 889), 
  (yX9_put, cX9_put, 7, (some .int), 4, false, 9, 1, 894, 74, 892, 893), 
  (yX9_farm, cX9_farm, 4, (some .int), 2, false, 9, 1, 406, 74, 404, 405), 
  (yX9_wheel, cX9_wheel, 4, (some .int), 3, false, 9, 1, 512, 74, 510, 511), 
  (yX9_holds, cX9_holds, 3, (some .int), 3, false, 9, 1, 535, 74, 533, 534), 
  (yX9_anger, cX9_anger, 3, (some .int), 2, false, 9, 1, 543, 74, 541, 542), 
  (yX9_day, cX9_day, 1, (some .int), 1, false, 9, 1, 558, 74, 556, 557), 
  (yX9_say, cX9_say, 2, (some .int), 2, false, 9, 1, 574, 74, 572, 573), 
  (yX9_make, cX9_make, 3, (some .int), 2, false, 9, 1, 578, 74, 576, 577), 
  (yX9_sell, cX9_sell, 3, (some .int), 2, false, 9, 1, 583, 74, 581, 582), 
  (yX9_undo, cX9_undo, 3, (some .int), 2, false, 9, 1, 588, 74, 586, 587), 
  (yX9_keep, cX9_keep, 3, (some .int), 2, false, 9, 1, 593, 74, 591, 592), 
  (yX9_on, cX9_on, 3, (some .int), 2, false, 9, 1, 606, 74, 604, 605), 
  (yX9_peace, cX9_peace, 2, (some .int), 1, false, 9, 1, 614, 74, 612, 613), 
  (yX9_plan, cX9_plan, 11, (some .int), 5, false, 9, 1, 618, 74, 616, 617), 
  (yX9_through, cX9_through, 5, (some .int), 2, false, 9, 1, 671, 74, 669, 670), 
  (yX9_about, cX9_about, 8, (some .int), 2, false, 9, 1, 679, 74, 677, 678), 
  (yX9_sure, cX9_sure, 10, (some .int), 2, false, 9, 1, 709, 74, 707, 708), 
  (yX9_salts, cX9_salts, 8, (some .int), 3, false, 9, 1, 717, 74, 715, 716), 
  (yX9_kinds, cX9_kinds, 6, (some .int), 3, false, 9, 1, 730, 74, 728, 729), 
  (yX9_test, cX9_test, 11, (some .int), 3, false, 9, 1, 738, 74, 736, 737), 
  (yX9_shows, cX9_shows, 6, (some .int), 3, false, 9, 1, 747, 74, 745, 746), 
  (yX9_duel, cX9_duel, 2, (some .int), 2, false, 9, 1, 772, 74, 770, 771), 
  (yX9_odds, cX9_odds, 4, (some .int), 4, false, 9, 1, 784, 74, 782, 783), 
  (yX9_mid, cX9_mid, 4, (some .int), 4, false, 9, 1, 797, 74, 795, 796), 
  (yX9_lots, cX9_lots, 6, (some .int), 3, false, 9, 1, 801, 74, 799, 800), 
  (yX9_asked, cX9_asked, 1, (some .int), 1, false, 9, 1, 812, 74, 810, 811), 
  (yX9_upper, cX9_upper, 1, (some .long), 1, false, 9, 3, 816, 74, 814, 815), 
  (yX9_lower, cX9_lower, 1, (some .long), 1, false, 9, 3, 820, 74, 818, 819), 
  (yX9_count, cX9_count, 2, (some .int), 2, false, 9, 1, 824, 74, 822, 823), 
  (yX9_digest, cX9_digest, 4, (some .long), 1, false, 9, 3, 855, 74, 853, 854), 
  (yX9_within, cX9_within, 3, (some .boolean), 3, true, 9, 2, 430, 74, 429, 0), 
  (yX9_isMatter, cX9_isMatter, 1, (some .boolean), 1, true, 9, 2, 538, 74, 537, 0), 
  (yX9_rowOf, cX9_rowOf, 2, (some (.object "RindDates$Row")), 2, false, 9, 4, 352, 74, 351, 0), 
  (yX9_textOf, cX9_textOf, 2, (some (.object "RindDates$Row")), 2, false, 9, 4, 410, 74, 409, 10), 
  (yX9_refusalOf, cX9_refusalOf, 2, (some .int), 2, false, 9, 1, 378, 74, 377, 4), 
  (yX9_refusalOfPlace, cX9_refusalOfPlace, 4, (some .int), 3, false, 9, 1, 374, 74, 373, 3), 
  (yX9_isPlan, cX9_isPlan, 2, (some .boolean), 1, true, 9, 2, 674, 74, 673, 0), 
  (yX9_areChances, cX9_areChances, 3, (some .boolean), 3, true, 9, 2, 787, 74, 786, 0), 
  (yX9_refusalOfAngers, cX9_refusalOfAngers, 2, (some .int), 2, false, 9, 1, 683, 74, 682, 51), 
  (yX9_refusalOfPairs, cX9_refusalOfPairs, 4, (some .int), 3, false, 9, 1, 721, 74, 720, 57), 
  (yX9_rindOf, cX9_rindOf, 6, (some .int), 4, true, 9, 1, 507, 74, 506, 0), 
  (yX9_isOf, cX9_isOf, 2, (some .boolean), 2, true, 9, 2, 843, 74, 842, 0), 
  (yX9_fits, cX9_fits, 5, (some .boolean), 4, false, 9, 2, 725, 74, 724, 58), 
  (yX9_kindsBy, cX9_kindsBy, 5, (some .int), 3, false, 9, 1, 734, 74, 733, 59), 
  (yX9_greatestPart, cX9_greatestPart, 9, (some .int), 4, false, 9, 1, 742, 74, 741, 60), 
  (yX9_mostByNephew, cX9_mostByNephew, 6, (some .int), 2, true, 9, 1, 775, 74, 774, 0), 
  (yX9_leastByAunt, cX9_leastByAunt, 6, (some .int), 2, true, 9, 1, 778, 74, 777, 0), 
  (yX9_power, cX9_power, 6, (some .long), 2, true, 9, 3, 644, 74, 643, 0), 
  (yX9_weighed, cX9_weighed, 13, (some .long), 5, false, 9, 3, 791, 74, 790, 64), 
  (yX9_enactLot, cX9_enactLot, 5, none, 2, false, 9, 0, 808, 74, 807, 65), 
  (yX9_counted, cX9_counted, 2, (some .int), 2, false, 9, 1, 828, 74, 827, 66), 
  (yX9_thereOf, cX9_thereOf, 3, (some .int), 1, true, 9, 1, 846, 74, 845, 0), 
  (yX9_digestOf, cX9_digestOf, 6, (some .long), 2, true, 9, 3, 867, 74, 866, 0), 
  (yJ9_max_7cf53, cJ9_max_7cf53, 2, (some .int), 2, true, 11, 1, 306, 84, 305, 0), 
  (yJ9_min_7cf53, cJ9_min_7cf53, 2, (some .int), 2, true, 11, 1, 366, 84, 365, 0), 
  (yJ7_fill_53178, cJ7_fill_53178, 4, none, 2, true, 13, 0, 363, 85, 362, 0), 
  (yL_cell, cL_cell, 2, (some .int), 2, true, 10, 1, 875, 73, 874, 0), 
  (yL_up, cL_up, 2, (some .int), 2, true, 10, 1, 879, 73, 878, 0), 
  (yL_lay, cL_lay, 4, none, 2, true, 10, 0, 883, 73, 882, 0), 
  (yL_letter, cL_letter, 1, (some .int), 1, true, 10, 1, 897, 73, 896, 0), 
  (yL_made, cL_made, 5, (some .boolean), 2, true, 10, 2, 886, 73, 885, 0), 
  (yL_bits, cL_bits, 3, (some .int), 1, true, 10, 1, 900, 73, 899, 0), 
  (yL_laid, cL_laid, 7, (some .boolean), 4, true, 10, 2, 903, 73, 902, 0), 
  (yL_does, cL_does, 7, (some .int), 3, true, 10, 1, 906, 73, 905, 0), 
  (yL_law, cL_law, 45, (some .boolean), 1, true, 10, 2, 0, 73, 0, 0)]
def mrec (m : Nat) : MR := mtab.getD m (yX0_init, cX0_init, 0, none, 0, false, 0, 0, 0, 0, 0, 0)
def mY (m : Nat) : MethodName := (mrec m).1
def mC (m : Nat) : ByteArray := (mrec m).2.1
def mL (m : Nat) : Nat := (mrec m).2.2.1
def mR (m : Nat) : Option FieldType := (mrec m).2.2.2.1
def mN (m : Nat) : Nat := (mrec m).2.2.2.2.1
def mS (m : Nat) : Bool := (mrec m).2.2.2.2.2.1
def mO (m : Nat) : Nat := (mrec m).2.2.2.2.2.2.1
def mK (m : Nat) : Nat := (mrec m).2.2.2.2.2.2.2.1
def mI (m : Nat) : Bool := (mY m).name == "<init>"
def fldL : List (Nat × Nat × Nat × Bool × Nat) := [(9, 0, 0, false, 122), (15, 0, 1, false, 124), (18, 0, 2, false, 127), (1012, 1, 0, false, 170), (1018, 1, 1, false, 171), (1023, 1, 2, false, 173), (1030, 1, 3, false, 174), (1034, 1, 4, false, 176), 
  (1039, 0, 2, true, 126), (1043, 1, 6, false, 179), (1044, 1, 5, false, 177), (1047, 4, 0, true, 210), (1056, 4, 4, true, 217), (1057, 4, 5, true, 220), (1065, 4, 1, true, 212), (1069, 8, 0, true, 143), 
  (1072, 4, 2, true, 214), (1075, 8, 1, true, 145), (1077, 4, 3, true, 216), (1080, 8, 2, true, 147), (1086, 1, 7, false, 182), (1092, 0, 0, true, 123), (1095, 0, 1, true, 125), (1120, 8, 3, true, 150), 
  (1131, 8, 4, true, 153), (1134, 8, 5, true, 156), (2009, 2, 0, false, 109), (3009, 3, 0, false, 246), (3017, 3, 1, false, 247), (3031, 3, 2, false, 248), (4012, 4, 0, false, 209), (4018, 4, 1, false, 211), 
  (4022, 4, 2, false, 213), (4025, 4, 3, false, 215), (4028, 4, 6, false, 221), (4032, 4, 5, false, 219), (4046, 5, 2, true, 311), (4073, 4, 4, false, 218), (5007, 5, 2, false, 309), (5019, 5, 0, false, 307), 
  (5023, 5, 1, false, 308), (6009, 6, 0, false, 262), (6015, 6, 1, false, 263), (6018, 5, 2, true, 310), (6033, 6, 2, false, 264), (6034, 1, 6, true, 180), (6059, 8, 4, true, 152), (7009, 7, 0, false, 280), 
  (7015, 7, 4, false, 286), (7019, 7, 1, false, 281), (7023, 7, 2, false, 282), (7030, 7, 3, false, 284), (8009, 8, 3, false, 149), (8015, 8, 4, false, 151), (8018, 8, 5, false, 155), (8022, 8, 0, false, 142), 
  (8025, 8, 2, false, 146), (9011, 9, 0, false, 320), (9015, 9, 1, false, 321), (9021, 9, 2, false, 322), (9028, 9, 3, false, 323), (9035, 9, 4, false, 324), (9042, 9, 5, false, 325), (9049, 9, 6, false, 326), 
  (9056, 9, 7, false, 327), (9092, 5, 2, true, 312), (9128, 1, 6, true, 181), (9141, 8, 0, true, 144), (9156, 1, 1, true, 172), (9179, 1, 3, true, 175), (9194, 8, 4, true, 154), (9201, 0, 2, true, 128), 
  (9225, 1, 5, true, 178), (9269, 8, 2, true, 148), (9313, 7, 2, true, 283), (9316, 7, 3, true, 285), (9320, 7, 4, true, 287), (9371, 1, 7, true, 183)]
def mthL : List (Nat × Nat × Nat × Nat) := [(3, 0, 6, 121), (22, 0, 7, 602), (1003, 0, 6, 102), (1011, 22, 5, 105), (1029, 0, 5, 118), (1038, 69, 5, 138), (1052, 25, 1, 458), (1059, 132, 2, 465), 
  (1083, 11, 0, 466), (1089, 70, 1, 470), (1098, 13, 0, 474), (1102, 3, 1, 567), (1105, 27, 1, 478), (1108, 28, 1, 483), (1112, 7, 0, 493), (1116, 14, 0, 497), 
  (1123, 26, 1, 501), (1127, 118, 3, 505), (1138, 71, 1, 523), (1142, 15, 0, 519), (1146, 72, 1, 527), (1149, 119, 3, 841), (1153, 1, 1, 851), (1158, 23, 1, 863), 
  (1161, 16, 0, 864), (2003, 0, 6, 108), (2015, 0, 7, 462), (2021, 23, 0, 487), (2025, 131, 2, 482), (2030, 132, 2, 491), (2033, 24, 0, 492), (2037, 28, 0, 635), 
  (2041, 27, 0, 636), (3003, 0, 6, 242), (3021, 22, 5, 245), (3022, 132, 2, 623), (3028, 131, 2, 624), (3035, 25, 1, 625), (3039, 133, 2, 626), (3045, 35, 0, 627), 
  (3051, 125, 3, 642), (3055, 34, 2, 665), (3059, 29, 1, 631), (3062, 26, 1, 653), (3066, 56, 1, 694), (3071, 54, 1, 659), (3074, 57, 1, 660), (4003, 0, 6, 206), 
  (4011, 22, 5, 208), (4035, 44, 0, 415), (4039, 47, 0, 420), (4043, 49, 0, 443), (4051, 56, 1, 419), (4055, 108, 3, 428), (4059, 45, 0, 424), (4063, 46, 0, 431), 
  (4066, 24, 1, 435), (4070, 48, 0, 439), (4076, 50, 0, 447), (4080, 51, 2, 451), (5001, 0, 6, 303), (5013, 131, 2, 304), (5026, 133, 2, 361), (5032, 132, 2, 364), 
  (5035, 56, 0, 688), (5039, 108, 3, 689), (6003, 0, 6, 261), (6024, 132, 2, 752), (6030, 131, 2, 753), (6037, 125, 3, 754), (6041, 62, 0, 755), (6045, 0, 7, 762), 
  (6051, 7, 1, 759), (6055, 15, 1, 760), (6064, 56, 1, 761), (6068, 54, 1, 767), (6072, 57, 1, 768), (7003, 0, 6, 279), (7026, 68, 2, 703), (8003, 0, 6, 141), 
  (8028, 118, 3, 531), (9001, 0, 6, 92), (9020, 5, 5, 99), (9027, 42, 5, 203), (9034, 30, 5, 239), (9041, 60, 5, 258), (9048, 22, 5, 273), (9055, 64, 5, 276), 
  (9060, 52, 5, 300), (9063, 110, 0, 349), (9067, 65, 1, 353), (9071, 54, 1, 357), (9075, 113, 0, 371), (9079, 56, 1, 387), (9082, 57, 1, 391), (9085, 66, 1, 395), 
  (9088, 112, 0, 375), (9096, 53, 1, 379), (9118, 111, 0, 407), (9121, 43, 1, 411), (9124, 10, 1, 454), (9129, 7, 1, 513), (9133, 108, 2, 514), (9137, 16, 1, 515), 
  (9152, 109, 2, 536), (9159, 23, 1, 539), (9162, 6, 1, 544), (9165, 25, 1, 548), (9169, 27, 1, 549), (9172, 26, 1, 550), (9176, 9, 1, 551), (9183, 2, 1, 559), 
  (9188, 12, 1, 563), (9191, 71, 1, 579), (9197, 15, 1, 584), (9202, 11, 1, 589), (9205, 8, 1, 594), (9209, 4, 1, 598), (9212, 1, 1, 607), (9213, 31, 1, 619), 
  (9216, 32, 1, 637), (9219, 38, 1, 645), (9222, 36, 1, 649), (9228, 72, 1, 654), (9231, 41, 1, 655), (9235, 33, 1, 661), (9238, 114, 2, 672), (9242, 29, 1, 675), 
  (9245, 116, 0, 680), (9248, 40, 1, 690), (9251, 37, 1, 695), (9254, 67, 1, 699), (9258, 39, 1, 710), (9261, 117, 0, 718), (9265, 120, 0, 722), (9272, 121, 0, 731), 
  (9276, 122, 0, 739), (9280, 58, 1, 684), (9283, 61, 1, 748), (9287, 63, 1, 763), (9288, 123, 2, 773), (9292, 115, 2, 785), (9295, 126, 0, 788), (9301, 125, 2, 793), 
  (9310, 127, 0, 805), (9323, 128, 0, 825), (9336, 21, 1, 858), (9340, 130, 2, 865), (9344, 55, 1, 383), (9347, 132, 2, 508), (9352, 118, 2, 726), (9359, 131, 2, 743), 
  (9362, 124, 2, 776), (9365, 28, 1, 780), (9368, 24, 1, 779), (9374, 17, 1, 829), (9377, 18, 1, 833), (9380, 19, 1, 837), (9383, 129, 2, 844), (9387, 20, 1, 847), 
  (9390, 59, 1, 868), (10009, 134, 2, 873), (10015, 135, 2, 877), (10019, 77, 0, 887), (10024, 78, 0, 891), (10028, 137, 2, 895), (10032, 79, 0, 403), (10035, 74, 0, 345), 
  (10038, 75, 0, 367), (10041, 76, 0, 399), (10044, 103, 0, 809), (10048, 84, 0, 571), (10051, 83, 0, 555), (10054, 73, 4, 89), (10055, 136, 2, 881), (10058, 138, 2, 884), 
  (10063, 102, 0, 798), (10066, 88, 0, 590), (10069, 106, 0, 821), (10072, 81, 0, 532), (10075, 82, 0, 540), (10078, 90, 0, 611), (10081, 89, 0, 603), (10084, 91, 0, 615), 
  (10088, 92, 0, 668), (10091, 141, 2, 904), (10095, 80, 0, 509), (10098, 140, 2, 901), (10102, 93, 0, 676), (10105, 104, 0, 813), (10111, 105, 0, 817), (10114, 94, 0, 706), 
  (10117, 96, 0, 727), (10120, 97, 0, 735), (10123, 95, 0, 714), (10126, 139, 2, 898), (10129, 85, 0, 575), (10132, 98, 0, 744), (10135, 99, 0, 769), (10138, 100, 0, 781), 
  (10141, 101, 0, 794), (10144, 86, 0, 580), (10147, 87, 0, 585), (10150, 107, 0, 852)]
def clsL : List (Nat × Nat × Nat) := [(1009, 2, 103), (1021, 8, 114), (1027, 0, 116), (3015, 2, 243), (4009, 2, 207), (9009, 5, 95), (9018, 1, 97), (9025, 4, 201), 
  (9032, 3, 237), (9039, 6, 256), (9046, 2, 272), (9053, 7, 274), (10020, 9, 87)]
def aclL : List (Nat × Nat × Nat) := [(1021, 18, 114), (1027, 10, 116), (3015, 12, 243), (9009, 15, 95)]
def ldcL : List (Nat × Int32 × Nat) := [(9305, 2147483646, 802), (10007, (-471398782), 876), (10008, 2147483647, 880), (10062, 2000000, 907)]
def ldlL : List (Nat × Int64 × Nat) := [(1156, 31, 862), (3049, 5, 641), (5045, 31, 872), (9299, 12, 792), (9306, 48271, 803), (9308, 2147483647, 804), (9332, 17, 856), (9334, 31, 857), 
  (10109, 625, 908)]
def fldT (o i : Nat) : Option (Nat × Nat × Bool) := if 1000 ≤ i then none else (fldL.lookup (o * 1000 + i)).map fun e => (e.1, e.2.1, e.2.2.1)
def mthT (o i : Nat) : Option (Nat × Nat) := if 1000 ≤ i then none else (mthL.lookup (o * 1000 + i)).map fun e => (e.1, e.2.1)
def clsT (o i : Nat) : Option Nat := if 1000 ≤ i then none else (clsL.lookup (o * 1000 + i)).map fun e => e.1
def aclT (o i : Nat) : Option Nat := if 1000 ≤ i then none else (aclL.lookup (o * 1000 + i)).map fun e => e.1
def ldcT (o i : Nat) : Option Int32 := if 1000 ≤ i then none else (ldcL.lookup (o * 1000 + i)).map fun e => e.1
def ldlT (o i : Nat) : Option Int64 := if 1000 ≤ i then none else (ldlL.lookup (o * 1000 + i)).map fun e => e.1
abbrev iX0_init : Nat := 0
abbrev iX0_isMissing : Nat := 1
abbrev iX0_hasRoom : Nat := 2
abbrev iX0_add : Nat := 3
abbrev iX0_takeFrom : Nat := 4
abbrev iX1_init : Nat := 5
abbrev iX1_isEmpty : Nat := 6
abbrev iX1_wheelOf : Nat := 7
abbrev iX1_keptOf : Nat := 8
abbrev iX1_isSilentBy : Nat := 9
abbrev iX1_begin : Nat := 10
abbrev iX1_replay : Nat := 11
abbrev iX1_enact : Nat := 12
abbrev iX1_act : Nat := 13
abbrev iX1_actOn : Nat := 14
abbrev iX1_isOnShelf : Nat := 15
abbrev iX1_tellOf : Nat := 16
abbrev iX1_shelfBits : Nat := 17
abbrev iX1_shelfRind : Nat := 18
abbrev iX1_oldWheels : Nat := 19
abbrev iX1_keptThere : Nat := 20
abbrev iX1_digestFrom : Nat := 21
abbrev iX2_init : Nat := 22
abbrev iX2_get : Nat := 23
abbrev iX2_set : Nat := 24
abbrev iX2_takeFrom : Nat := 25
abbrev iX2_total : Nat := 26
abbrev iX2_passDay : Nat := 27
abbrev iX2_raise : Nat := 28
abbrev iX2_passDayWith : Nat := 29
abbrev iX3_init : Nat := 30
abbrev iX3_begin : Nat := 31
abbrev iX3_howMany : Nat := 32
abbrev iX3_advance : Nat := 33
abbrev iX3_after : Nat := 34
abbrev iX3_reckonFrom : Nat := 35
abbrev iX3_lastAnger : Nat := 36
abbrev iX3_firstSaid : Nat := 37
abbrev iX3_sayings : Nat := 38
abbrev iX3_mattersSaid : Nat := 39
abbrev iX3_leadsBy : Nat := 40
abbrev iX3_writeTo : Nat := 41
abbrev iX4_init : Nat := 42
abbrev iX4_read : Nat := 43
abbrev iX4_skipBlanks : Nat := 44
abbrev iX4_hasFigure : Nat := 45
abbrev iX4_takeFigure : Nat := 46
abbrev iX4_readBrothers : Nat := 47
abbrev iX4_readLimit : Nat := 48
abbrev iX4_readWheels : Nat := 49
abbrev iX4_readWheel : Nat := 50
abbrev iX4_kindBy : Nat := 51
abbrev iX5_init : Nat := 52
abbrev iX5_isMissing : Nat := 53
abbrev iX5_renew : Nat := 54
abbrev iX5_hasPlace : Nat := 55
abbrev iX5_get : Nat := 56
abbrev iX5_set : Nat := 57
abbrev iX5_isWithin : Nat := 58
abbrev iX5_digestFrom : Nat := 59
abbrev iX6_init : Nat := 60
abbrev iX6_fillFrom : Nat := 61
abbrev iX6_filledBy : Nat := 62
abbrev iX6_writeTo : Nat := 63
abbrev iX7_init : Nat := 64
abbrev iX7_refuse : Nat := 65
abbrev iX7_tell : Nat := 66
abbrev iX7_tellParts : Nat := 67
abbrev iX7_commonPart : Nat := 68
abbrev iX8_init : Nat := 69
abbrev iX8_forget : Nat := 70
abbrev iX8_isMade : Nat := 71
abbrev iX8_rindBy : Nat := 72
abbrev iX9_init : Nat := 73
abbrev iX9_row : Nat := 74
abbrev iX9_lay : Nat := 75
abbrev iX9_at : Nat := 76
abbrev iX9_text : Nat := 77
abbrev iX9_put : Nat := 78
abbrev iX9_farm : Nat := 79
abbrev iX9_wheel : Nat := 80
abbrev iX9_holds : Nat := 81
abbrev iX9_anger : Nat := 82
abbrev iX9_day : Nat := 83
abbrev iX9_say : Nat := 84
abbrev iX9_make : Nat := 85
abbrev iX9_sell : Nat := 86
abbrev iX9_undo : Nat := 87
abbrev iX9_keep : Nat := 88
abbrev iX9_on : Nat := 89
abbrev iX9_peace : Nat := 90
abbrev iX9_plan : Nat := 91
abbrev iX9_through : Nat := 92
abbrev iX9_about : Nat := 93
abbrev iX9_sure : Nat := 94
abbrev iX9_salts : Nat := 95
abbrev iX9_kinds : Nat := 96
abbrev iX9_test : Nat := 97
abbrev iX9_shows : Nat := 98
abbrev iX9_duel : Nat := 99
abbrev iX9_odds : Nat := 100
abbrev iX9_mid : Nat := 101
abbrev iX9_lots : Nat := 102
abbrev iX9_asked : Nat := 103
abbrev iX9_upper : Nat := 104
abbrev iX9_lower : Nat := 105
abbrev iX9_count : Nat := 106
abbrev iX9_digest : Nat := 107
abbrev iX9_within : Nat := 108
abbrev iX9_isMatter : Nat := 109
abbrev iX9_rowOf : Nat := 110
abbrev iX9_textOf : Nat := 111
abbrev iX9_refusalOf : Nat := 112
abbrev iX9_refusalOfPlace : Nat := 113
abbrev iX9_isPlan : Nat := 114
abbrev iX9_areChances : Nat := 115
abbrev iX9_refusalOfAngers : Nat := 116
abbrev iX9_refusalOfPairs : Nat := 117
abbrev iX9_rindOf : Nat := 118
abbrev iX9_isOf : Nat := 119
abbrev iX9_fits : Nat := 120
abbrev iX9_kindsBy : Nat := 121
abbrev iX9_greatestPart : Nat := 122
abbrev iX9_mostByNephew : Nat := 123
abbrev iX9_leastByAunt : Nat := 124
abbrev iX9_power : Nat := 125
abbrev iX9_weighed : Nat := 126
abbrev iX9_enactLot : Nat := 127
abbrev iX9_counted : Nat := 128
abbrev iX9_thereOf : Nat := 129
abbrev iX9_digestOf : Nat := 130
abbrev iJ9_max_7cf53 : Nat := 131
abbrev iJ9_min_7cf53 : Nat := 132
abbrev iJ7_fill_53178 : Nat := 133
abbrev iL_cell : Nat := 134
abbrev iL_up : Nat := 135
abbrev iL_lay : Nat := 136
abbrev iL_letter : Nat := 137
abbrev iL_made : Nat := 138
abbrev iL_bits : Nat := 139
abbrev iL_laid : Nat := 140
abbrev iL_does : Nat := 141
abbrev iL_law : Nat := 142
