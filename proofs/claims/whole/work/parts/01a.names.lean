def RX0 : String := "FacingFields$Log"
def TX0 : u_T := fun k => match k with
  | 0 => ("FacingFields$Log", "ring", "[LFacingFields$Moment;", true)
  | 1 => ("FacingFields$Log", "next", "I", false)
  | _ => ("FacingFields$Log", "held", "I", false)
def tyX0 : Nat → FieldType := fun k => match k with
  | 0 => .array (.object "FacingFields$Moment")
  | 1 => .int
  | _ => .int
abbrev wsX00 : List Cond := u_ws RX0 TX0 3
theorem nmX0 : ∀ a, a < 3 → ∀ b, b < 3 → a ≠ b → (TX0 a).2.1 ≠ (TX0 b).2.1 := by decide +kernel
theorem tyX0_ok : ∀ k, k < 3 → parseFieldDescriptor (TX0 k).2.2.1 = some (tyX0 k) := by decide +kernel
abbrev cX0_init : ByteArray := prog_2_method_1_code
def yX0_init : MethodName := ⟨RX0, "<init>", "()V"⟩
abbrev cX0_add : ByteArray := prog_2_method_2_code
def yX0_add : MethodName := ⟨RX0, "add", "(LFacingFields$Moment;)V"⟩
abbrev cX0_takeLatest : ByteArray := prog_2_method_3_code
def yX0_takeLatest : MethodName := ⟨RX0, "takeLatest", "(LFacingFields$Moment;)V"⟩
def RX1 : String := "FacingFields$Moment"
def TX1 : u_T := fun k => match k with
  | 0 => ("FacingFields$Moment", "sown", "[I", true)
  | 1 => ("FacingFields$Moment", "facing", "[I", true)
  | 2 => ("FacingFields$Moment", "ropes", "[I", true)
  | 3 => ("FacingFields$Moment", "mules", "[I", true)
  | 4 => ("FacingFields$Moment", "stored", "[I", true)
  | 5 => ("FacingFields$Moment", "rain", "I", false)
  | _ => ("FacingFields$Moment", "years", "I", false)
def tyX1 : Nat → FieldType := fun k => match k with
  | 0 => .array .int
  | 1 => .array .int
  | 2 => .array .int
  | 3 => .array .int
  | 4 => .array .int
  | 5 => .int
  | _ => .int
abbrev wsX10 : List Cond := u_ws RX1 TX1 7
theorem nmX1 : ∀ a, a < 7 → ∀ b, b < 7 → a ≠ b → (TX1 a).2.1 ≠ (TX1 b).2.1 := by decide +kernel
theorem tyX1_ok : ∀ k, k < 7 → parseFieldDescriptor (TX1 k).2.2.1 = some (tyX1 k) := by decide +kernel
abbrev cX1_init : ByteArray := prog_3_method_1_code
def yX1_init : MethodName := ⟨RX1, "<init>", "()V"⟩
abbrev cX1_begin : ByteArray := prog_3_method_2_code
def yX1_begin : MethodName := ⟨RX1, "begin", "(I)V"⟩
abbrev cX1_copyFrom : ByteArray := prog_3_method_3_code
def yX1_copyFrom : MethodName := ⟨RX1, "copyFrom", "(LFacingFields$Moment;)V"⟩
def RX2 : String := "FacingFields$Text"
def TX2 : u_T := fun k => match k with
  | 0 => ("FacingFields$Text", "letters", "[I", true)
  | 1 => ("FacingFields$Text", "length", "I", false)
  | 2 => ("FacingFields$Text", "start", "I", false)
  | 3 => ("FacingFields$Text", "behind", "I", false)
  | _ => ("FacingFields$Text", "number", "I", false)
def tyX2 : Nat → FieldType := fun k => match k with
  | 0 => .array .int
  | 1 => .int
  | 2 => .int
  | 3 => .int
  | _ => .int
abbrev wsX20 : List Cond := u_ws RX2 TX2 5
theorem nmX2 : ∀ a, a < 5 → ∀ b, b < 5 → a ≠ b → (TX2 a).2.1 ≠ (TX2 b).2.1 := by decide +kernel
theorem tyX2_ok : ∀ k, k < 5 → parseFieldDescriptor (TX2 k).2.2.1 = some (tyX2 k) := by decide +kernel
abbrev cX2_init : ByteArray := prog_4_method_1_code
def yX2_init : MethodName := ⟨RX2, "<init>", "()V"⟩
abbrev cX2_readInto : ByteArray := prog_4_method_2_code
def yX2_readInto : MethodName := ⟨RX2, "readInto", "(LFacingFields$Told;)I"⟩
abbrev cX2_readCrop : ByteArray := prog_4_method_3_code
def yX2_readCrop : MethodName := ⟨RX2, "readCrop", "(LFacingFields$Told;)Z"⟩
abbrev cX2_readMan : ByteArray := prog_4_method_4_code
def yX2_readMan : MethodName := ⟨RX2, "readMan", "(LFacingFields$Told;)Z"⟩
abbrev cX2_readNumber : ByteArray := prog_4_method_5_code
def yX2_readNumber : MethodName := ⟨RX2, "readNumber", "(II)Z"⟩
abbrev cX2_nextToken : ByteArray := prog_4_method_6_code
def yX2_nextToken : MethodName := ⟨RX2, "nextToken", "()I"⟩
abbrev cX2_numberToken : ByteArray := prog_4_method_7_code
def yX2_numberToken : MethodName := ⟨RX2, "numberToken", "()I"⟩
abbrev cX2_isDigit : ByteArray := prog_4_method_8_code
def yX2_isDigit : MethodName := ⟨RX2, "isDigit", "(I)Z"⟩
def RX3 : String := "FacingFields$Told"
def TX3 : u_T := fun k => match k with
  | 0 => ("FacingFields$Told", "crops", "I", false)
  | 1 => ("FacingFields$Told", "weight", "[I", true)
  | 2 => ("FacingFields$Told", "worth", "[I", true)
  | 3 => ("FacingFields$Told", "men", "I", false)
  | 4 => ("FacingFields$Told", "strong", "[I", true)
  | 5 => ("FacingFields$Told", "legs", "[I", true)
  | 6 => ("FacingFields$Told", "needs", "[I", true)
  | _ => ("FacingFields$Told", "yields", "[[I", true)
def tyX3 : Nat → FieldType := fun k => match k with
  | 0 => .int
  | 1 => .array .int
  | 2 => .array .int
  | 3 => .int
  | 4 => .array .int
  | 5 => .array .int
  | 6 => .array .int
  | _ => .array (.array .int)
abbrev wsX30 : List Cond := u_ws RX3 TX3 8
theorem nmX3 : ∀ a, a < 8 → ∀ b, b < 8 → a ≠ b → (TX3 a).2.1 ≠ (TX3 b).2.1 := by decide +kernel
theorem tyX3_ok : ∀ k, k < 8 → parseFieldDescriptor (TX3 k).2.2.1 = some (tyX3 k) := by decide +kernel
abbrev cX3_init : ByteArray := prog_5_method_1_code
def yX3_init : MethodName := ⟨RX3, "<init>", "()V"⟩
def RX4 : String := "FacingFields"
def TX4 : u_T := fun k => match k with
  | 0 => ("FacingFields", "text", "LFacingFields$Text;", true)
  | 1 => ("FacingFields", "told", "LFacingFields$Told;", false)
  | 2 => ("FacingFields", "spare", "LFacingFields$Told;", false)
  | 3 => ("FacingFields", "present", "LFacingFields$Moment;", true)
  | 4 => ("FacingFields", "trial", "LFacingFields$Moment;", true)
  | 5 => ("FacingFields", "log", "LFacingFields$Log;", true)
  | 6 => ("FacingFields", "images", "[LFacingFields$Moment;", true)
  | 7 => ("FacingFields", "imageKept", "[Z", true)
  | 8 => ("FacingFields", "stubbleMan", "[I", true)
  | 9 => ("FacingFields", "stubbleSheaves", "[I", true)
  | 10 => ("FacingFields", "stubbles", "I", false)
  | 11 => ("FacingFields", "bestFacing", "[I", true)
  | 12 => ("FacingFields", "bestLeast", "I", false)
  | 13 => ("FacingFields", "bestFound", "Z", false)
  | _ => ("FacingFields", "traced", "J", false)
def tyX4 : Nat → FieldType := fun k => match k with
  | 0 => .object "FacingFields$Text"
  | 1 => .object "FacingFields$Told"
  | 2 => .object "FacingFields$Told"
  | 3 => .object "FacingFields$Moment"
  | 4 => .object "FacingFields$Moment"
  | 5 => .object "FacingFields$Log"
  | 6 => .array (.object "FacingFields$Moment")
  | 7 => .array .boolean
  | 8 => .array .int
  | 9 => .array .int
  | 10 => .int
  | 11 => .array .int
  | 12 => .int
  | 13 => .boolean
  | _ => .long
abbrev wsX40 : List Cond := u_ws RX4 TX4 15
theorem nmX4 : ∀ a, a < 15 → ∀ b, b < 15 → a ≠ b → (TX4 a).2.1 ≠ (TX4 b).2.1 := by decide +kernel
theorem tyX4_ok : ∀ k, k < 15 → parseFieldDescriptor (TX4 k).2.2.1 = some (tyX4 k) := by decide +kernel
abbrev cX4_init : ByteArray := prog_1_method_1_code
def yX4_init : MethodName := ⟨RX4, "<init>", "()V"⟩
abbrev cX4_type : ByteArray := prog_1_method_2_code
def yX4_type : MethodName := ⟨RX4, "type", "(I)I"⟩
abbrev cX4_clear : ByteArray := prog_1_method_3_code
def yX4_clear : MethodName := ⟨RX4, "clear", "()I"⟩
abbrev cX4_valley : ByteArray := prog_1_method_4_code
def yX4_valley : MethodName := ⟨RX4, "valley", "()I"⟩
abbrev cX4_man : ByteArray := prog_1_method_5_code
def yX4_man : MethodName := ⟨RX4, "man", "(II)I"⟩
abbrev cX4_yieldOf : ByteArray := prog_1_method_6_code
def yX4_yieldOf : MethodName := ⟨RX4, "yieldOf", "(II)I"⟩
abbrev cX4_carries : ByteArray := prog_1_method_7_code
def yX4_carries : MethodName := ⟨RX4, "carries", "(II)I"⟩
abbrev cX4_has : ByteArray := prog_1_method_8_code
def yX4_has : MethodName := ⟨RX4, "has", "(II)I"⟩
abbrev cX4_now : ByteArray := prog_1_method_9_code
def yX4_now : MethodName := ⟨RX4, "now", "(I)I"⟩
abbrev cX4_sows : ByteArray := prog_1_method_10_code
def yX4_sows : MethodName := ⟨RX4, "sows", "(II)I"⟩
abbrev cX4_rains : ByteArray := prog_1_method_11_code
def yX4_rains : MethodName := ⟨RX4, "rains", "(I)I"⟩
abbrev cX4_ropes : ByteArray := prog_1_method_12_code
def yX4_ropes : MethodName := ⟨RX4, "ropes", "(II)I"⟩
abbrev cX4_mules : ByteArray := prog_1_method_13_code
def yX4_mules : MethodName := ⟨RX4, "mules", "(II)I"⟩
abbrev cX4_marries : ByteArray := prog_1_method_14_code
def yX4_marries : MethodName := ⟨RX4, "marries", "(II)I"⟩
abbrev cX4_year : ByteArray := prog_1_method_15_code
def yX4_year : MethodName := ⟨RX4, "year", "()I"⟩
abbrev cX4_undo : ByteArray := prog_1_method_16_code
def yX4_undo : MethodName := ⟨RX4, "undo", "()I"⟩
abbrev cX4_best : ByteArray := prog_1_method_17_code
def yX4_best : MethodName := ⟨RX4, "best", "(III)I"⟩
abbrev cX4_rest : ByteArray := prog_1_method_18_code
def yX4_rest : MethodName := ⟨RX4, "rest", "(II)I"⟩
abbrev cX4_hungry : ByteArray := prog_1_method_19_code
def yX4_hungry : MethodName := ⟨RX4, "hungry", "(I)I"⟩
abbrev cX4_faces : ByteArray := prog_1_method_20_code
def yX4_faces : MethodName := ⟨RX4, "faces", "(I)I"⟩
abbrev cX4_needed : ByteArray := prog_1_method_21_code
def yX4_needed : MethodName := ⟨RX4, "needed", "(I)I"⟩
abbrev cX4_stubble : ByteArray := prog_1_method_22_code
def yX4_stubble : MethodName := ⟨RX4, "stubble", "(II)I"⟩
abbrev cX4_forget : ByteArray := prog_1_method_23_code
def yX4_forget : MethodName := ⟨RX4, "forget", "()I"⟩
abbrev cX4_cut : ByteArray := prog_1_method_24_code
def yX4_cut : MethodName := ⟨RX4, "cut", "(I)I"⟩
abbrev cX4_odds : ByteArray := prog_1_method_25_code
def yX4_odds : MethodName := ⟨RX4, "odds", "(IIIII)I"⟩
abbrev cX4_rich : ByteArray := prog_1_method_26_code
def yX4_rich : MethodName := ⟨RX4, "rich", "(II)I"⟩
abbrev cX4_poor : ByteArray := prog_1_method_27_code
def yX4_poor : MethodName := ⟨RX4, "poor", "()I"⟩
abbrev cX4_share : ByteArray := prog_1_method_28_code
def yX4_share : MethodName := ⟨RX4, "share", "(II)I"⟩
abbrev cX4_rate : ByteArray := prog_1_method_29_code
def yX4_rate : MethodName := ⟨RX4, "rate", "(II)I"⟩
abbrev cX4_keep : ByteArray := prog_1_method_30_code
def yX4_keep : MethodName := ⟨RX4, "keep", "(I)I"⟩
abbrev cX4_back : ByteArray := prog_1_method_31_code
def yX4_back : MethodName := ⟨RX4, "back", "(I)I"⟩
abbrev cX4_count : ByteArray := prog_1_method_32_code
def yX4_count : MethodName := ⟨RX4, "count", "(I)I"⟩
abbrev cX4_trace : ByteArray := prog_1_method_33_code
def yX4_trace : MethodName := ⟨RX4, "trace", "()J"⟩
abbrev cX4_isMan : ByteArray := prog_1_method_34_code
def yX4_isMan : MethodName := ⟨RX4, "isMan", "(I)Z"⟩
abbrev cX4_isCrop : ByteArray := prog_1_method_35_code
def yX4_isCrop : MethodName := ⟨RX4, "isCrop", "(I)Z"⟩
abbrev cX4_isBelow : ByteArray := prog_1_method_36_code
def yX4_isBelow : MethodName := ⟨RX4, "isBelow", "(II)Z"⟩
abbrev cX4_isStorable : ByteArray := prog_1_method_37_code
def yX4_isStorable : MethodName := ⟨RX4, "isStorable", "(I)Z"⟩
abbrev cX4_carriedBy : ByteArray := prog_1_method_38_code
def yX4_carriedBy : MethodName := ⟨RX4, "carriedBy", "(LFacingFields$Moment;II)I"⟩
abbrev cX4_takenIf : ByteArray := prog_1_method_39_code
def yX4_takenIf : MethodName := ⟨RX4, "takenIf", "(LFacingFields$Moment;II)I"⟩
abbrev cX4_takenBy : ByteArray := prog_1_method_40_code
def yX4_takenBy : MethodName := ⟨RX4, "takenBy", "(LFacingFields$Moment;I)I"⟩
abbrev cX4_keptBy : ByteArray := prog_1_method_41_code
def yX4_keptBy : MethodName := ⟨RX4, "keptBy", "(LFacingFields$Moment;I)I"⟩
abbrev cX4_wealthOf : ByteArray := prog_1_method_42_code
def yX4_wealthOf : MethodName := ⟨RX4, "wealthOf", "(LFacingFields$Moment;I)I"⟩
abbrev cX4_gainOf : ByteArray := prog_1_method_43_code
def yX4_gainOf : MethodName := ⟨RX4, "gainOf", "(LFacingFields$Moment;I)I"⟩
abbrev cX4_wealthOfAll : ByteArray := prog_1_method_44_code
def yX4_wealthOfAll : MethodName := ⟨RX4, "wealthOfAll", "()I"⟩
abbrev cX4_ropesOfAll : ByteArray := prog_1_method_45_code
def yX4_ropesOfAll : MethodName := ⟨RX4, "ropesOfAll", "()I"⟩
abbrev cX4_exchange : ByteArray := prog_1_method_46_code
def yX4_exchange : MethodName := ⟨RX4, "exchange", "(II)V"⟩
abbrev cX4_mostBySowing : ByteArray := prog_1_method_47_code
def yX4_mostBySowing : MethodName := ⟨RX4, "mostBySowing", "(I)I"⟩
abbrev cX4_isContent : ByteArray := prog_1_method_48_code
def yX4_isContent : MethodName := ⟨RX4, "isContent", "(I)Z"⟩
abbrev cX4_isHungry : ByteArray := prog_1_method_49_code
def yX4_isHungry : MethodName := ⟨RX4, "isHungry", "(I)Z"⟩
abbrev cX4_hungryBits : ByteArray := prog_1_method_50_code
def yX4_hungryBits : MethodName := ⟨RX4, "hungryBits", "()I"⟩
abbrev cX4_tryFacing : ByteArray := prog_1_method_51_code
def yX4_tryFacing : MethodName := ⟨RX4, "tryFacing", "(IZ)V"⟩
abbrev cX4_firstUnchosen : ByteArray := prog_1_method_52_code
def yX4_firstUnchosen : MethodName := ⟨RX4, "firstUnchosen", "()I"⟩
abbrev cX4_weighFacing : ByteArray := prog_1_method_53_code
def yX4_weighFacing : MethodName := ⟨RX4, "weighFacing", "()V"⟩
abbrev cX4_tryRopes : ByteArray := prog_1_method_54_code
def yX4_tryRopes : MethodName := ⟨RX4, "tryRopes", "()I"⟩
abbrev cX4_ropesAlone : ByteArray := prog_1_method_55_code
def yX4_ropesAlone : MethodName := ⟨RX4, "ropesAlone", "(I)I"⟩
abbrev cX4_ropesOfTwo : ByteArray := prog_1_method_56_code
def yX4_ropesOfTwo : MethodName := ⟨RX4, "ropesOfTwo", "(II)I"⟩
abbrev cX4_fitsStubble : ByteArray := prog_1_method_57_code
def yX4_fitsStubble : MethodName := ⟨RX4, "fitsStubble", "(II)Z"⟩
abbrev cX4_storedBehind : ByteArray := prog_1_method_58_code
def yX4_storedBehind : MethodName := ⟨RX4, "storedBehind", "(II)I"⟩
abbrev cX4_yearsTillPoor : ByteArray := prog_1_method_59_code
def yX4_yearsTillPoor : MethodName := ⟨RX4, "yearsTillPoor", "(I)I"⟩
abbrev cX4_chancesOf : ByteArray := prog_1_method_60_code
def yX4_chancesOf : MethodName := ⟨RX4, "chancesOf", "(IIII)I"⟩
abbrev cX4_inLeastTerms : ByteArray := prog_1_method_61_code
def yX4_inLeastTerms : MethodName := ⟨RX4, "inLeastTerms", "(III)I"⟩
abbrev cX4_rateMan : ByteArray := prog_1_method_62_code
def yX4_rateMan : MethodName := ⟨RX4, "rateMan", "(I)I"⟩
abbrev cX4_rateGiant : ByteArray := prog_1_method_63_code
def yX4_rateGiant : MethodName := ⟨RX4, "rateGiant", "(I)I"⟩
abbrev cX4_rateWidow : ByteArray := prog_1_method_64_code
def yX4_rateWidow : MethodName := ⟨RX4, "rateWidow", "(I)I"⟩
abbrev cX4_rateBrother : ByteArray := prog_1_method_65_code
def yX4_rateBrother : MethodName := ⟨RX4, "rateBrother", "(I)I"⟩
abbrev cX4_rateGleaner : ByteArray := prog_1_method_66_code
def yX4_rateGleaner : MethodName := ⟨RX4, "rateGleaner", "(I)I"⟩
abbrev cX4_rateGuest : ByteArray := prog_1_method_67_code
def yX4_rateGuest : MethodName := ⟨RX4, "rateGuest", "(I)I"⟩
def RX5 : String := "FacingFieldsModel"
def TX5 : u_T := fun k => match k with
  | 0 => ("FacingFieldsModel", "thrown", "I", false)
  | 1 => ("FacingFieldsModel", "trace", "J", false)
  | 2 => ("FacingFieldsModel", "text", "[I", true)
  | 3 => ("FacingFieldsModel", "typed", "I", false)
  | 4 => ("FacingFieldsModel", "next", "I", false)
  | 5 => ("FacingFieldsModel", "token", "I", false)
  | 6 => ("FacingFieldsModel", "place", "I", false)
  | 7 => ("FacingFieldsModel", "value", "I", false)
  | 8 => ("FacingFieldsModel", "fault", "I", false)
  | 9 => ("FacingFieldsModel", "many", "[I", true)
  | 10 => ("FacingFieldsModel", "weight", "[I", true)
  | 11 => ("FacingFieldsModel", "worth", "[I", true)
  | 12 => ("FacingFieldsModel", "strong", "[I", true)
  | 13 => ("FacingFieldsModel", "legs", "[I", true)
  | 14 => ("FacingFieldsModel", "needs", "[I", true)
  | 15 => ("FacingFieldsModel", "yields", "[I", true)
  | 16 => ("FacingFieldsModel", "s", "[I", true)
  | 17 => ("FacingFieldsModel", "w", "[I", true)
  | 18 => ("FacingFieldsModel", "kept", "[I", true)
  | 19 => ("FacingFieldsModel", "isKept", "[Z", true)
  | 20 => ("FacingFieldsModel", "undos", "[I", true)
  | 21 => ("FacingFieldsModel", "undoMany", "I", false)
  | 22 => ("FacingFieldsModel", "stubbleOf", "[I", true)
  | 23 => ("FacingFieldsModel", "stubbleMany", "[I", true)
  | 24 => ("FacingFieldsModel", "stubbles", "I", false)
  | 25 => ("FacingFieldsModel", "pair", "[I", true)
  | _ => ("FacingFieldsModel", "best", "[I", true)
def tyX5 : Nat → FieldType := fun k => match k with
  | 0 => .int
  | 1 => .long
  | 2 => .array .int
  | 3 => .int
  | 4 => .int
  | 5 => .int
  | 6 => .int
  | 7 => .int
  | 8 => .int
  | 9 => .array .int
  | 10 => .array .int
  | 11 => .array .int
  | 12 => .array .int
  | 13 => .array .int
  | 14 => .array .int
  | 15 => .array .int
  | 16 => .array .int
  | 17 => .array .int
  | 18 => .array .int
  | 19 => .array .boolean
  | 20 => .array .int
  | 21 => .int
  | 22 => .array .int
  | 23 => .array .int
  | 24 => .int
  | 25 => .array .int
  | _ => .array .int
abbrev wsX50 : List Cond := u_ws RX5 TX5 27
theorem nmX5 : ∀ a, a < 27 → ∀ b, b < 27 → a ≠ b → (TX5 a).2.1 ≠ (TX5 b).2.1 := by decide +kernel
theorem tyX5_ok : ∀ k, k < 27 → parseFieldDescriptor (TX5 k).2.2.1 = some (tyX5 k) := by decide +kernel
abbrev cX5_init : ByteArray := prog_7_method_1_code
def yX5_init : MethodName := ⟨RX5, "<init>", "()V"⟩
abbrev cX5_in : ByteArray := prog_7_method_3_code
def yX5_in : MethodName := ⟨RX5, "in", "(III)Z"⟩
abbrev cX5_type : ByteArray := prog_7_method_4_code
def yX5_type : MethodName := ⟨RX5, "type", "(I)I"⟩
abbrev cX5_clear : ByteArray := prog_7_method_5_code
def yX5_clear : MethodName := ⟨RX5, "clear", "()I"⟩
abbrev cX5_letterAt : ByteArray := prog_7_method_6_code
def yX5_letterAt : MethodName := ⟨RX5, "letterAt", "(I)I"⟩
abbrev cX5_advances : ByteArray := prog_7_method_7_code
def yX5_advances : MethodName := ⟨RX5, "advances", "()V"⟩
abbrev cX5_isWell : ByteArray := prog_7_method_8_code
def yX5_isWell : MethodName := ⟨RX5, "isWell", "()Z"⟩
abbrev cX5_takesToken : ByteArray := prog_7_method_9_code
def yX5_takesToken : MethodName := ⟨RX5, "takesToken", "(Z)I"⟩
abbrev cX5_number : ByteArray := prog_7_method_10_code
def yX5_number : MethodName := ⟨RX5, "number", "(II)I"⟩
abbrev cX5_readsItem : ByteArray := prog_7_method_11_code
def yX5_readsItem : MethodName := ⟨RX5, "readsItem", "(I)V"⟩
abbrev cX5_valley : ByteArray := prog_7_method_12_code
def yX5_valley : MethodName := ⟨RX5, "valley", "()I"⟩
abbrev cX5_settles : ByteArray := prog_7_method_13_code
def yX5_settles : MethodName := ⟨RX5, "settles", "()V"⟩
abbrev cX5_isMan : ByteArray := prog_7_method_14_code
def yX5_isMan : MethodName := ⟨RX5, "isMan", "(I)Z"⟩
abbrev cX5_isCrop : ByteArray := prog_7_method_15_code
def yX5_isCrop : MethodName := ⟨RX5, "isCrop", "(I)Z"⟩
abbrev cX5_carriesBy : ByteArray := prog_7_method_16_code
def yX5_carriesBy : MethodName := ⟨RX5, "carriesBy", "([III)I"⟩
abbrev cX5_takesBy : ByteArray := prog_7_method_17_code
def yX5_takesBy : MethodName := ⟨RX5, "takesBy", "([II)I"⟩
abbrev cX5_keptBy : ByteArray := prog_7_method_18_code
def yX5_keptBy : MethodName := ⟨RX5, "keptBy", "([II)I"⟩
abbrev cX5_takenWorth : ByteArray := prog_7_method_19_code
def yX5_takenWorth : MethodName := ⟨RX5, "takenWorth", "([II)I"⟩
abbrev cX5_hasBy : ByteArray := prog_7_method_20_code
def yX5_hasBy : MethodName := ⟨RX5, "hasBy", "([II)I"⟩
abbrev cX5_man : ByteArray := prog_7_method_21_code
def yX5_man : MethodName := ⟨RX5, "man", "(II)I"⟩
abbrev cX5_yieldOf : ByteArray := prog_7_method_22_code
def yX5_yieldOf : MethodName := ⟨RX5, "yieldOf", "(II)I"⟩
abbrev cX5_carries : ByteArray := prog_7_method_23_code
def yX5_carries : MethodName := ⟨RX5, "carries", "(II)I"⟩
abbrev cX5_has : ByteArray := prog_7_method_24_code
def yX5_has : MethodName := ⟨RX5, "has", "(II)I"⟩
abbrev cX5_hasAll : ByteArray := prog_7_method_25_code
def yX5_hasAll : MethodName := ⟨RX5, "hasAll", "()I"⟩
abbrev cX5_hungries : ByteArray := prog_7_method_26_code
def yX5_hungries : MethodName := ⟨RX5, "hungries", "()I"⟩
abbrev cX5_now : ByteArray := prog_7_method_27_code
def yX5_now : MethodName := ⟨RX5, "now", "(I)I"⟩
abbrev cX5_notes : ByteArray := prog_7_method_28_code
def yX5_notes : MethodName := ⟨RX5, "notes", "()V"⟩
abbrev cX5_becomes : ByteArray := prog_7_method_29_code
def yX5_becomes : MethodName := ⟨RX5, "becomes", "(II)I"⟩
abbrev cX5_sows : ByteArray := prog_7_method_30_code
def yX5_sows : MethodName := ⟨RX5, "sows", "(II)I"⟩
abbrev cX5_rains : ByteArray := prog_7_method_31_code
def yX5_rains : MethodName := ⟨RX5, "rains", "(I)I"⟩
abbrev cX5_ropes : ByteArray := prog_7_method_32_code
def yX5_ropes : MethodName := ⟨RX5, "ropes", "(II)I"⟩
abbrev cX5_mules : ByteArray := prog_7_method_33_code
def yX5_mules : MethodName := ⟨RX5, "mules", "(II)I"⟩
abbrev cX5_puts : ByteArray := prog_7_method_34_code
def yX5_puts : MethodName := ⟨RX5, "puts", "([III)V"⟩
abbrev cX5_marries : ByteArray := prog_7_method_35_code
def yX5_marries : MethodName := ⟨RX5, "marries", "(II)I"⟩
abbrev cX5_goes : ByteArray := prog_7_method_36_code
def yX5_goes : MethodName := ⟨RX5, "goes", "([I)I"⟩
abbrev cX5_year : ByteArray := prog_7_method_37_code
def yX5_year : MethodName := ⟨RX5, "year", "()I"⟩
abbrev cX5_undo : ByteArray := prog_7_method_38_code
def yX5_undo : MethodName := ⟨RX5, "undo", "()I"⟩
abbrev cX5_asNow : ByteArray := prog_7_method_39_code
def yX5_asNow : MethodName := ⟨RX5, "asNow", "()V"⟩
abbrev cX5_best : ByteArray := prog_7_method_40_code
def yX5_best : MethodName := ⟨RX5, "best", "(III)I"⟩
abbrev cX5_hasWith : ByteArray := prog_7_method_41_code
def yX5_hasWith : MethodName := ⟨RX5, "hasWith", "(IIII)I"⟩
abbrev cX5_isRest : ByteArray := prog_7_method_42_code
def yX5_isRest : MethodName := ⟨RX5, "isRest", "(IIII)Z"⟩
abbrev cX5_rest : ByteArray := prog_7_method_43_code
def yX5_rest : MethodName := ⟨RX5, "rest", "(II)I"⟩
abbrev cX5_isHungry : ByteArray := prog_7_method_44_code
def yX5_isHungry : MethodName := ⟨RX5, "isHungry", "(I)Z"⟩
abbrev cX5_hungry : ByteArray := prog_7_method_45_code
def yX5_hungry : MethodName := ⟨RX5, "hungry", "(I)I"⟩
abbrev cX5_leastBy : ByteArray := prog_7_method_46_code
def yX5_leastBy : MethodName := ⟨RX5, "leastBy", "()I"⟩
abbrev cX5_isRow : ByteArray := prog_7_method_47_code
def yX5_isRow : MethodName := ⟨RX5, "isRow", "(I)Z"⟩
abbrev cX5_faces : ByteArray := prog_7_method_48_code
def yX5_faces : MethodName := ⟨RX5, "faces", "(I)I"⟩
abbrev cX5_needed : ByteArray := prog_7_method_49_code
def yX5_needed : MethodName := ⟨RX5, "needed", "(I)I"⟩
abbrev cX5_stubble : ByteArray := prog_7_method_50_code
def yX5_stubble : MethodName := ⟨RX5, "stubble", "(II)I"⟩
abbrev cX5_forget : ByteArray := prog_7_method_51_code
def yX5_forget : MethodName := ⟨RX5, "forget", "()I"⟩
abbrev cX5_cut : ByteArray := prog_7_method_52_code
def yX5_cut : MethodName := ⟨RX5, "cut", "(I)I"⟩
abbrev cX5_power : ByteArray := prog_7_method_53_code
def yX5_power : MethodName := ⟨RX5, "power", "(II)I"⟩
abbrev cX5_gcd : ByteArray := prog_7_method_54_code
def yX5_gcd : MethodName := ⟨RX5, "gcd", "(II)I"⟩
abbrev cX5_odds : ByteArray := prog_7_method_55_code
def yX5_odds : MethodName := ⟨RX5, "odds", "(IIIII)I"⟩
abbrev cX5_rich : ByteArray := prog_7_method_56_code
def yX5_rich : MethodName := ⟨RX5, "rich", "(II)I"⟩
abbrev cX5_poor : ByteArray := prog_7_method_57_code
def yX5_poor : MethodName := ⟨RX5, "poor", "()I"⟩
abbrev cX5_share : ByteArray := prog_7_method_58_code
def yX5_share : MethodName := ⟨RX5, "share", "(II)I"⟩
abbrev cX5_rate : ByteArray := prog_7_method_59_code
def yX5_rate : MethodName := ⟨RX5, "rate", "(II)I"⟩
abbrev cX5_keep : ByteArray := prog_7_method_60_code
def yX5_keep : MethodName := ⟨RX5, "keep", "(I)I"⟩
abbrev cX5_back : ByteArray := prog_7_method_61_code
def yX5_back : MethodName := ⟨RX5, "back", "(I)I"⟩
abbrev cX5_count : ByteArray := prog_7_method_62_code
def yX5_count : MethodName := ⟨RX5, "count", "(I)I"⟩
abbrev cX5_trace : ByteArray := prog_7_method_63_code
def yX5_trace : MethodName := ⟨RX5, "trace", "()J"⟩
def RJ9 : String := "java/lang/Math"
def TJ9 : u_T := fun k => match k with
  | _ => ("", "", "", false)
def tyJ9 : Nat → FieldType := fun k => match k with
  | _ => .int
abbrev wsJ90 : List Cond := u_ws RJ9 TJ9 0
theorem nmJ9 : ∀ a, a < 0 → ∀ b, b < 0 → a ≠ b → (TJ9 a).2.1 ≠ (TJ9 b).2.1 := by decide +kernel
theorem tyJ9_ok : ∀ k, k < 0 → parseFieldDescriptor (TJ9 k).2.2.1 = some (tyJ9 k) := by decide +kernel
abbrev cJ9_max_7cf53 : ByteArray := prog_8_method_65_code
def yJ9_max_7cf53 : MethodName := ⟨RJ9, "max", "(II)I"⟩
abbrev cJ9_min_7cf53 : ByteArray := prog_8_method_69_code
def yJ9_min_7cf53 : MethodName := ⟨RJ9, "min", "(II)I"⟩
def RJ10 : String := "java/lang/System"
def TJ10 : u_T := fun k => match k with
  | _ => ("", "", "", false)
def tyJ10 : Nat → FieldType := fun k => match k with
  | _ => .int
abbrev wsJ100 : List Cond := u_ws RJ10 TJ10 0
theorem nmJ10 : ∀ a, a < 0 → ∀ b, b < 0 → a ≠ b → (TJ10 a).2.1 ≠ (TJ10 b).2.1 := by decide +kernel
theorem tyJ10_ok : ∀ k, k < 0 → parseFieldDescriptor (TJ10 k).2.2.1 = some (tyJ10 k) := by decide +kernel
def RL : String := "FacingFieldsLaw"
abbrev cL_law : ByteArray := code
def yL_law : MethodName := ⟨RL, "law", "([I)Z"⟩
def wsL_law_r1 : List Cond := [Cond.classLink RL 7 RX4, Cond.instantiable RX4 15, Cond.initialized RX4, Cond.classLink RL 10 RX5, Cond.instantiable RX5 27, Cond.initialized RX5, Cond.methodLink RL 9 yX4_init, Cond.instanceMethod yX4_init, Cond.code yX4_init cX4_init 2 none, Cond.methodLink RX4 1 objectInit, Cond.instanceMethod objectInit, Cond.code objectInit ⟨#[0xb1]⟩ 1 none, Cond.classLink RX4 7 RX2, Cond.instantiable RX2 5, Cond.initialized RX2, Cond.fieldLink RX4 10 "FacingFields" "text" "LFacingFields$Text;", Cond.classLink RX4 16 RX3, Cond.instantiable RX3 8, Cond.initialized RX3, Cond.fieldLink RX4 19 "FacingFields" "told" "LFacingFields$Told;", Cond.fieldLink RX4 23 "FacingFields" "spare" "LFacingFields$Told;", Cond.classLink RX4 26 RX1, Cond.instantiable RX1 7, Cond.initialized RX1]
def wsL_law_r2 : List Cond := [Cond.fieldLink RX4 29 "FacingFields" "present" "LFacingFields$Moment;", Cond.fieldLink RX4 33 "FacingFields" "trial" "LFacingFields$Moment;", Cond.classLink RX4 36 RX0, Cond.instantiable RX0 3, Cond.initialized RX0, Cond.fieldLink RX4 39 "FacingFields" "log" "LFacingFields$Log;", Cond.fieldLink RX4 43 "FacingFields" "images" "[LFacingFields$Moment;", Cond.arrayClass .boolean, Cond.fieldLink RX4 47 "FacingFields" "imageKept" "[Z", Cond.arrayClass .int, Cond.fieldLink RX4 51 "FacingFields" "stubbleMan" "[I", Cond.fieldLink RX4 55 "FacingFields" "stubbleSheaves" "[I", Cond.fieldLink RX4 58 "FacingFields" "bestFacing" "[I", Cond.instanceMethod yX2_init, Cond.code yX2_init cX2_init 1 none, Cond.methodLink RX2 3 objectInit, Cond.fieldLink RX2 9 "FacingFields$Text" "letters" "[I", Cond.instanceMethod yX3_init, Cond.code yX3_init cX3_init 1 none, Cond.methodLink RX3 3 objectInit, Cond.fieldLink RX3 9 "FacingFields$Told" "weight" "[I", Cond.fieldLink RX3 15 "FacingFields$Told" "worth" "[I", Cond.fieldLink RX3 18 "FacingFields$Told" "strong" "[I", Cond.fieldLink RX3 21 "FacingFields$Told" "legs" "[I"]
def wsL_law_r3 : List Cond := [Cond.fieldLink RX3 24 "FacingFields$Told" "needs" "[I", Cond.classLink RX3 27 "[[I", Cond.fieldLink RX3 29 "FacingFields$Told" "yields" "[[I", Cond.instanceMethod yX1_init, Cond.code yX1_init cX1_init 1 none, Cond.methodLink RX1 3 objectInit, Cond.fieldLink RX1 9 "FacingFields$Moment" "sown" "[I", Cond.fieldLink RX1 15 "FacingFields$Moment" "facing" "[I", Cond.fieldLink RX1 18 "FacingFields$Moment" "ropes" "[I", Cond.fieldLink RX1 21 "FacingFields$Moment" "mules" "[I", Cond.fieldLink RX1 24 "FacingFields$Moment" "stored" "[I", Cond.methodLink RX4 38 yX0_init, Cond.instanceMethod yX0_init, Cond.code yX0_init cX0_init 2 none, Cond.methodLink RX0 3 objectInit, Cond.classLink RX0 9 RX1, Cond.fieldLink RX0 11 "FacingFields$Log" "ring" "[LFacingFields$Moment;", Cond.methodLink RX4 61 yX1_begin, Cond.instanceMethod yX1_begin, Cond.selects RX1 yX1_begin yX1_begin, Cond.code yX1_begin cX1_begin 4 none, Cond.fieldLink RX1 27 "FacingFields$Moment" "rain" "I", Cond.fieldLink RX1 31 "FacingFields$Moment" "years" "I", Cond.methodLink RL 12 yX5_init]
def wsL_law_r4 : List Cond := [Cond.instanceMethod yX5_init, Cond.code yX5_init cX5_init 1 none, Cond.methodLink RX5 1 objectInit, Cond.fieldLink RX5 7 "FacingFieldsModel" "text" "[I", Cond.fieldLink RX5 13 "FacingFieldsModel" "many" "[I", Cond.fieldLink RX5 16 "FacingFieldsModel" "weight" "[I", Cond.fieldLink RX5 19 "FacingFieldsModel" "worth" "[I", Cond.fieldLink RX5 22 "FacingFieldsModel" "strong" "[I", Cond.fieldLink RX5 25 "FacingFieldsModel" "legs" "[I", Cond.fieldLink RX5 28 "FacingFieldsModel" "needs" "[I", Cond.fieldLink RX5 31 "FacingFieldsModel" "yields" "[I", Cond.fieldLink RX5 34 "FacingFieldsModel" "s" "[I", Cond.fieldLink RX5 37 "FacingFieldsModel" "w" "[I", Cond.fieldLink RX5 40 "FacingFieldsModel" "kept" "[I", Cond.fieldLink RX5 43 "FacingFieldsModel" "isKept" "[Z", Cond.fieldLink RX5 47 "FacingFieldsModel" "undos" "[I", Cond.fieldLink RX5 50 "FacingFieldsModel" "stubbleOf" "[I", Cond.fieldLink RX5 53 "FacingFieldsModel" "stubbleMany" "[I", Cond.fieldLink RX5 56 "FacingFieldsModel" "pair" "[I", Cond.fieldLink RX5 59 "FacingFieldsModel" "best" "[I", Cond.methodLink RL 13 yX4_type, Cond.instanceMethod yX4_type, Cond.selects RX4 yX4_type yX4_type, Cond.code yX4_type cX4_type 2 (some .int)]
def wsL_law_r5 : List Cond := [Cond.fieldLink RX4 65 "FacingFields$Text" "length" "I", Cond.fieldLink RX4 69 "FacingFields$Text" "letters" "[I", Cond.methodLink RL 17 yX5_type, Cond.instanceMethod yX5_type, Cond.selects RX5 yX5_type yX5_type, Cond.code yX5_type cX5_type 2 (some .int), Cond.fieldLink RX5 62 "FacingFieldsModel" "thrown" "I", Cond.fieldLink RX5 70 "FacingFieldsModel" "typed" "I", Cond.methodLink RX5 66 yX5_in, Cond.static yX5_in, Cond.code yX5_in cX5_in 3 (some .boolean), Cond.methodLink RL 18 yX4_clear, Cond.instanceMethod yX4_clear, Cond.selects RX4 yX4_clear yX4_clear, Cond.code yX4_clear cX4_clear 2 (some .int), Cond.methodLink RL 22 yX5_clear, Cond.instanceMethod yX5_clear, Cond.selects RX5 yX5_clear yX5_clear, Cond.code yX5_clear cX5_clear 2 (some .int), Cond.methodLink RL 23 yX4_valley, Cond.instanceMethod yX4_valley, Cond.selects RX4 yX4_valley yX4_valley, Cond.code yX4_valley cX4_valley 4 (some .int), Cond.fieldLink RX4 76 "FacingFields$Told" "men" "I"]
def wsL_law_r6 : List Cond := [Cond.fieldLink RX4 79 "FacingFields$Log" "held" "I", Cond.fieldLink RX4 82 "FacingFields" "stubbles" "I", Cond.methodLink RX4 72 yX2_readInto, Cond.instanceMethod yX2_readInto, Cond.selects RX2 yX2_readInto yX2_readInto, Cond.code yX2_readInto cX2_readInto 7 (some .int), Cond.fieldLink RX2 15 "FacingFields$Told" "crops" "I", Cond.fieldLink RX2 21 "FacingFields$Told" "men" "I", Cond.fieldLink RX2 24 "FacingFields$Text" "behind" "I", Cond.fieldLink RX2 38 "FacingFields$Text" "start" "I", Cond.methodLink RX2 27 yX2_nextToken, Cond.instanceMethod yX2_nextToken, Cond.selects RX2 yX2_nextToken yX2_nextToken, Cond.code yX2_nextToken cX2_nextToken 1 (some .int), Cond.fieldLink RX2 67 "FacingFields$Text" "length" "I", Cond.methodLink RX2 70 yX2_isDigit, Cond.static yX2_isDigit, Cond.code yX2_isDigit cX2_isDigit 1 (some .boolean), Cond.methodLink RX2 74 yX2_numberToken, Cond.instanceMethod yX2_numberToken, Cond.selects RX2 yX2_numberToken yX2_numberToken, Cond.code yX2_numberToken cX2_numberToken 2 (some .int), Cond.fieldLink RX2 48 "FacingFields$Text" "number" "I", Cond.methodLink RX2 77 Lib.Math.min.name]
def wsL_law_r7 : List Cond := [Cond.static Lib.Math.min.name, Cond.initialized "java/lang/Math", Cond.code Lib.Math.min.name Lib.Math.min.code 2 (some .int), Cond.methodLink RX2 31 yX2_readCrop, Cond.instanceMethod yX2_readCrop, Cond.selects RX2 yX2_readCrop yX2_readCrop, Cond.code yX2_readCrop cX2_readCrop 3 (some .boolean), Cond.fieldLink RX2 45 "FacingFields$Told" "weight" "[I", Cond.fieldLink RX2 51 "FacingFields$Told" "worth" "[I", Cond.methodLink RX2 41 yX2_readNumber, Cond.instanceMethod yX2_readNumber, Cond.selects RX2 yX2_readNumber yX2_readNumber, Cond.code yX2_readNumber cX2_readNumber 3 (some .boolean), Cond.methodLink RX2 35 yX2_readMan, Cond.instanceMethod yX2_readMan, Cond.selects RX2 yX2_readMan yX2_readMan, Cond.code yX2_readMan cX2_readMan 4 (some .boolean), Cond.fieldLink RX2 54 "FacingFields$Told" "strong" "[I", Cond.fieldLink RX2 57 "FacingFields$Told" "legs" "[I", Cond.fieldLink RX2 60 "FacingFields$Told" "needs" "[I", Cond.fieldLink RX2 63 "FacingFields$Told" "yields" "[[I", Cond.methodLink RL 26 yX5_valley, Cond.instanceMethod yX5_valley, Cond.selects RX5 yX5_valley yX5_valley]
def wsL_law_r8 : List Cond := [Cond.code yX5_valley cX5_valley 3 (some .int), Cond.fieldLink RX5 89 "FacingFieldsModel" "fault" "I", Cond.fieldLink RX5 73 "FacingFieldsModel" "next" "I", Cond.fieldLink RX5 83 "FacingFieldsModel" "token" "I", Cond.fieldLink RX5 86 "FacingFieldsModel" "value" "I", Cond.methodLink RX5 96 yX5_advances, Cond.instanceMethod yX5_advances, Cond.selects RX5 yX5_advances yX5_advances, Cond.code yX5_advances cX5_advances 2 none, Cond.fieldLink RX5 80 "FacingFieldsModel" "place" "I", Cond.methodLink RX5 76 yX5_letterAt, Cond.instanceMethod yX5_letterAt, Cond.selects RX5 yX5_letterAt yX5_letterAt, Cond.code yX5_letterAt cX5_letterAt 2 (some .int), Cond.methodLink RX5 92 yX5_isWell, Cond.instanceMethod yX5_isWell, Cond.selects RX5 yX5_isWell yX5_isWell, Cond.code yX5_isWell cX5_isWell 1 (some .boolean), Cond.methodLink RX5 99 yX5_takesToken, Cond.instanceMethod yX5_takesToken, Cond.selects RX5 yX5_takesToken yX5_takesToken, Cond.code yX5_takesToken cX5_takesToken 3 (some .int), Cond.methodLink RX5 107 yX5_readsItem, Cond.instanceMethod yX5_readsItem]
def wsL_law_r9 : List Cond := [Cond.selects RX5 yX5_readsItem yX5_readsItem, Cond.code yX5_readsItem cX5_readsItem 4 none, Cond.methodLink RX5 103 yX5_number, Cond.instanceMethod yX5_number, Cond.selects RX5 yX5_number yX5_number, Cond.code yX5_number cX5_number 3 (some .int), Cond.methodLink RX5 111 yX5_settles, Cond.instanceMethod yX5_settles, Cond.selects RX5 yX5_settles yX5_settles, Cond.code yX5_settles cX5_settles 3 none, Cond.fieldLink RX5 114 "FacingFieldsModel" "stubbles" "I", Cond.fieldLink RX5 117 "FacingFieldsModel" "undoMany" "I", Cond.methodLink RL 27 yX4_man, Cond.instanceMethod yX4_man, Cond.selects RX4 yX4_man yX4_man, Cond.code yX4_man cX4_man 3 (some .int), Cond.fieldLink RX4 89 "FacingFields$Told" "strong" "[I", Cond.fieldLink RX4 92 "FacingFields$Told" "legs" "[I", Cond.fieldLink RX4 95 "FacingFields$Told" "needs" "[I", Cond.fieldLink RX4 98 "FacingFields$Moment" "sown" "[I", Cond.fieldLink RX4 101 "FacingFields$Moment" "facing" "[I", Cond.fieldLink RX4 104 "FacingFields$Moment" "ropes" "[I", Cond.fieldLink RX4 107 "FacingFields$Moment" "mules" "[I", Cond.methodLink RX4 85 yX4_isMan]
def wsL_law_r10 : List Cond := [Cond.instanceMethod yX4_isMan, Cond.selects RX4 yX4_isMan yX4_isMan, Cond.code yX4_isMan cX4_isMan 2 (some .boolean), Cond.methodLink RX4 155 yX4_isBelow, Cond.static yX4_isBelow, Cond.code yX4_isBelow cX4_isBelow 2 (some .boolean), Cond.methodLink RL 31 yX5_man, Cond.instanceMethod yX5_man, Cond.selects RX5 yX5_man yX5_man, Cond.code yX5_man cX5_man 3 (some .int), Cond.methodLink RX5 134 yX5_isMan, Cond.instanceMethod yX5_isMan, Cond.selects RX5 yX5_isMan yX5_isMan, Cond.code yX5_isMan cX5_isMan 2 (some .boolean), Cond.methodLink RL 32 yX4_yieldOf, Cond.instanceMethod yX4_yieldOf, Cond.selects RX4 yX4_yieldOf yX4_yieldOf, Cond.code yX4_yieldOf cX4_yieldOf 3 (some .int), Cond.fieldLink RX4 113 "FacingFields$Told" "yields" "[[I", Cond.methodLink RX4 110 yX4_isCrop, Cond.instanceMethod yX4_isCrop, Cond.selects RX4 yX4_isCrop yX4_isCrop, Cond.code yX4_isCrop cX4_isCrop 2 (some .boolean), Cond.fieldLink RX4 176 "FacingFields$Told" "crops" "I"]
def wsL_law_r11 : List Cond := [Cond.methodLink RL 35 yX5_yieldOf, Cond.instanceMethod yX5_yieldOf, Cond.selects RX5 yX5_yieldOf yX5_yieldOf, Cond.code yX5_yieldOf cX5_yieldOf 3 (some .int), Cond.methodLink RX5 138 yX5_isCrop, Cond.instanceMethod yX5_isCrop, Cond.selects RX5 yX5_isCrop yX5_isCrop, Cond.code yX5_isCrop cX5_isCrop 2 (some .boolean), Cond.methodLink RL 36 yX4_carries, Cond.instanceMethod yX4_carries, Cond.selects RX4 yX4_carries yX4_carries, Cond.code yX4_carries cX4_carries 3 (some .int), Cond.methodLink RX4 117 yX4_carriedBy, Cond.instanceMethod yX4_carriedBy, Cond.selects RX4 yX4_carriedBy yX4_carriedBy, Cond.code yX4_carriedBy cX4_carriedBy 7 (some .int), Cond.fieldLink RX4 245 "FacingFields$Told" "weight" "[I", Cond.fieldLink RX4 138 "FacingFields$Moment" "rain" "I", Cond.methodLink RL 39 yX5_carries, Cond.instanceMethod yX5_carries, Cond.selects RX5 yX5_carries yX5_carries, Cond.code yX5_carries cX5_carries 3 (some .int), Cond.methodLink RX5 120 yX5_carriesBy, Cond.instanceMethod yX5_carriesBy]
def wsL_law_r12 : List Cond := [Cond.selects RX5 yX5_carriesBy yX5_carriesBy, Cond.code yX5_carriesBy cX5_carriesBy 5 (some .int), Cond.methodLink RL 40 yX4_has, Cond.instanceMethod yX4_has, Cond.selects RX4 yX4_has yX4_has, Cond.code yX4_has cX4_has 3 (some .int), Cond.constant RX4 121 (-1000000), Cond.fieldLink RX4 132 "FacingFields$Moment" "stored" "[I", Cond.methodLink RX4 122 yX4_takenBy, Cond.instanceMethod yX4_takenBy, Cond.selects RX4 yX4_takenBy yX4_takenBy, Cond.code yX4_takenBy cX4_takenBy 4 (some .int), Cond.methodLink RX4 202 yX4_takenIf, Cond.instanceMethod yX4_takenIf, Cond.selects RX4 yX4_takenIf yX4_takenIf, Cond.code yX4_takenIf cX4_takenIf 5 (some .int), Cond.methodLink RX4 248 Lib.Math.min.name, Cond.methodLink RX4 126 yX4_keptBy, Cond.instanceMethod yX4_keptBy, Cond.selects RX4 yX4_keptBy yX4_keptBy, Cond.code yX4_keptBy cX4_keptBy 5 (some .int), Cond.methodLink RX4 129 yX4_wealthOf, Cond.instanceMethod yX4_wealthOf, Cond.selects RX4 yX4_wealthOf yX4_wealthOf]
def wsL_law_r13 : List Cond := [Cond.code yX4_wealthOf cX4_wealthOf 7 (some .int), Cond.fieldLink RX4 179 "FacingFields$Told" "worth" "[I", Cond.methodLink RL 43 yX5_has, Cond.instanceMethod yX5_has, Cond.selects RX5 yX5_has yX5_has, Cond.code yX5_has cX5_has 3 (some .int), Cond.constant RX5 141 (-1000000), Cond.methodLink RX5 124 yX5_takesBy, Cond.instanceMethod yX5_takesBy, Cond.selects RX5 yX5_takesBy yX5_takesBy, Cond.code yX5_takesBy cX5_takesBy 7 (some .int), Cond.methodLink RX5 131 yX5_keptBy, Cond.instanceMethod yX5_keptBy, Cond.selects RX5 yX5_keptBy yX5_keptBy, Cond.code yX5_keptBy cX5_keptBy 4 (some .int), Cond.methodLink RX5 142 yX5_hasBy, Cond.instanceMethod yX5_hasBy, Cond.selects RX5 yX5_hasBy yX5_hasBy, Cond.code yX5_hasBy cX5_hasBy 3 (some .int), Cond.methodLink RX5 128 yX5_takenWorth, Cond.instanceMethod yX5_takenWorth, Cond.selects RX5 yX5_takenWorth yX5_takenWorth, Cond.code yX5_takenWorth cX5_takenWorth 4 (some .int), Cond.methodLink RL 44 yX4_now]
def wsL_law_r14 : List Cond := [Cond.instanceMethod yX4_now, Cond.selects RX4 yX4_now yX4_now, Cond.code yX4_now cX4_now 2 (some .int), Cond.fieldLink RX4 135 "FacingFields$Moment" "years" "I", Cond.methodLink RX4 141 yX4_ropesOfAll, Cond.instanceMethod yX4_ropesOfAll, Cond.selects RX4 yX4_ropesOfAll yX4_ropesOfAll, Cond.code yX4_ropesOfAll cX4_ropesOfAll 3 (some .int), Cond.methodLink RX4 145 yX4_hungryBits, Cond.instanceMethod yX4_hungryBits, Cond.selects RX4 yX4_hungryBits yX4_hungryBits, Cond.code yX4_hungryBits cX4_hungryBits 3 (some .int), Cond.methodLink RX4 185 yX4_isHungry, Cond.instanceMethod yX4_isHungry, Cond.selects RX4 yX4_isHungry yX4_isHungry, Cond.code yX4_isHungry cX4_isHungry 4 (some .boolean), Cond.methodLink RX4 173 yX1_copyFrom, Cond.instanceMethod yX1_copyFrom, Cond.selects RX1 yX1_copyFrom yX1_copyFrom, Cond.code yX1_copyFrom cX1_copyFrom 2 none, Cond.methodLink RX1 34 arraycopyName, Cond.native arraycopyName, Cond.static arraycopyName, Cond.initialized "java/lang/System"]
def wsL_law_r15 : List Cond := [Cond.methodLink RX4 256 yX4_mostBySowing, Cond.instanceMethod yX4_mostBySowing, Cond.selects RX4 yX4_mostBySowing yX4_mostBySowing, Cond.code yX4_mostBySowing cX4_mostBySowing 5 (some .int), Cond.methodLink RX4 253 Lib.Math.max.name, Cond.static Lib.Math.max.name, Cond.code Lib.Math.max.name Lib.Math.max.code 2 (some .int), Cond.methodLink RX4 148 yX4_wealthOfAll, Cond.instanceMethod yX4_wealthOfAll, Cond.selects RX4 yX4_wealthOfAll yX4_wealthOfAll, Cond.code yX4_wealthOfAll cX4_wealthOfAll 3 (some .int), Cond.methodLink RL 47 yX5_now, Cond.instanceMethod yX5_now, Cond.selects RX5 yX5_now yX5_now, Cond.code yX5_now cX5_now 4 (some .int), Cond.methodLink RX5 148 yX5_hungries, Cond.instanceMethod yX5_hungries, Cond.selects RX5 yX5_hungries yX5_hungries, Cond.code yX5_hungries cX5_hungries 3 (some .int), Cond.methodLink RX5 145 yX5_isHungry, Cond.instanceMethod yX5_isHungry, Cond.selects RX5 yX5_isHungry yX5_isHungry, Cond.code yX5_isHungry cX5_isHungry 6 (some .boolean), Cond.methodLink RX5 169 yX5_asNow]
def wsL_law_r16 : List Cond := [Cond.instanceMethod yX5_asNow, Cond.selects RX5 yX5_asNow yX5_asNow, Cond.code yX5_asNow cX5_asNow 2 none, Cond.methodLink RX5 152 yX5_hasAll, Cond.instanceMethod yX5_hasAll, Cond.selects RX5 yX5_hasAll yX5_hasAll, Cond.code yX5_hasAll cX5_hasAll 3 (some .int), Cond.methodLink RL 48 yX4_sows, Cond.instanceMethod yX4_sows, Cond.selects RX4 yX4_sows yX4_sows, Cond.code yX4_sows cX4_sows 4 (some .int), Cond.methodLink RX4 151 yX0_add, Cond.instanceMethod yX0_add, Cond.selects RX0 yX0_add yX0_add, Cond.code yX0_add cX0_add 2 none, Cond.fieldLink RX0 18 "FacingFields$Log" "next" "I", Cond.fieldLink RX0 26 "FacingFields$Log" "held" "I", Cond.methodLink RX0 29 Lib.Math.min.name, Cond.methodLink RX0 22 yX1_copyFrom, Cond.methodLink RL 51 yX5_sows, Cond.instanceMethod yX5_sows, Cond.selects RX5 yX5_sows yX5_sows, Cond.code yX5_sows cX5_sows 3 (some .int), Cond.methodLink RX5 158 yX5_becomes]
def wsL_law_r17 : List Cond := [Cond.instanceMethod yX5_becomes, Cond.selects RX5 yX5_becomes yX5_becomes, Cond.code yX5_becomes cX5_becomes 4 (some .int), Cond.methodLink RX5 155 yX5_notes, Cond.instanceMethod yX5_notes, Cond.selects RX5 yX5_notes yX5_notes, Cond.code yX5_notes cX5_notes 2 none, Cond.methodLink RL 52 yX4_rains, Cond.instanceMethod yX4_rains, Cond.selects RX4 yX4_rains yX4_rains, Cond.code yX4_rains cX4_rains 3 (some .int), Cond.methodLink RL 55 yX5_rains, Cond.instanceMethod yX5_rains, Cond.selects RX5 yX5_rains yX5_rains, Cond.code yX5_rains cX5_rains 2 (some .int), Cond.methodLink RL 56 yX4_ropes, Cond.instanceMethod yX4_ropes, Cond.selects RX4 yX4_ropes yX4_ropes, Cond.code yX4_ropes cX4_ropes 4 (some .int), Cond.methodLink RL 59 yX5_ropes, Cond.instanceMethod yX5_ropes, Cond.selects RX5 yX5_ropes yX5_ropes, Cond.code yX5_ropes cX5_ropes 3 (some .int), Cond.methodLink RL 60 yX4_mules]
def wsL_law_r18 : List Cond := [Cond.instanceMethod yX4_mules, Cond.selects RX4 yX4_mules yX4_mules, Cond.code yX4_mules cX4_mules 4 (some .int), Cond.methodLink RL 63 yX5_mules, Cond.instanceMethod yX5_mules, Cond.selects RX5 yX5_mules yX5_mules, Cond.code yX5_mules cX5_mules 3 (some .int), Cond.methodLink RL 64 yX4_marries, Cond.instanceMethod yX4_marries, Cond.selects RX4 yX4_marries yX4_marries, Cond.code yX4_marries cX4_marries 3 (some .int), Cond.methodLink RX4 159 yX4_exchange, Cond.instanceMethod yX4_exchange, Cond.selects RX4 yX4_exchange yX4_exchange, Cond.code yX4_exchange cX4_exchange 5 none, Cond.methodLink RL 67 yX5_marries, Cond.instanceMethod yX5_marries, Cond.selects RX5 yX5_marries yX5_marries, Cond.code yX5_marries cX5_marries 5 (some .int), Cond.methodLink RX5 161 yX5_puts, Cond.instanceMethod yX5_puts, Cond.selects RX5 yX5_puts yX5_puts, Cond.code yX5_puts cX5_puts 4 none, Cond.methodLink RL 68 yX4_year]
def wsL_law_r19 : List Cond := [Cond.instanceMethod yX4_year, Cond.selects RX4 yX4_year yX4_year, Cond.code yX4_year cX4_year 4 (some .int), Cond.methodLink RX4 163 yX4_gainOf, Cond.instanceMethod yX4_gainOf, Cond.selects RX4 yX4_gainOf yX4_gainOf, Cond.code yX4_gainOf cX4_gainOf 3 (some .int), Cond.methodLink RX4 166 yX4_storedBehind, Cond.static yX4_storedBehind, Cond.code yX4_storedBehind cX4_storedBehind 2 (some .int), Cond.methodLink RL 71 yX5_year, Cond.instanceMethod yX5_year, Cond.selects RX5 yX5_year yX5_year, Cond.code yX5_year cX5_year 1 (some .int), Cond.methodLink RX5 165 yX5_goes, Cond.instanceMethod yX5_goes, Cond.selects RX5 yX5_goes yX5_goes, Cond.code yX5_goes cX5_goes 6 (some .int), Cond.methodLink RL 72 yX4_undo, Cond.instanceMethod yX4_undo, Cond.selects RX4 yX4_undo yX4_undo, Cond.code yX4_undo cX4_undo 1 (some .int), Cond.methodLink RX4 170 yX0_takeLatest, Cond.instanceMethod yX0_takeLatest]
def wsL_law_r20 : List Cond := [Cond.selects RX0 yX0_takeLatest yX0_takeLatest, Cond.code yX0_takeLatest cX0_takeLatest 2 none, Cond.methodLink RL 75 yX5_undo, Cond.instanceMethod yX5_undo, Cond.selects RX5 yX5_undo yX5_undo, Cond.code yX5_undo cX5_undo 2 (some .int), Cond.methodLink RL 76 yX4_best, Cond.instanceMethod yX4_best, Cond.selects RX4 yX4_best yX4_best, Cond.code yX4_best cX4_best 10 (some .int), Cond.methodLink RL 80 yX5_best, Cond.instanceMethod yX5_best, Cond.selects RX5 yX5_best yX5_best, Cond.code yX5_best cX5_best 9 (some .int), Cond.methodLink RL 81 yX4_rest, Cond.instanceMethod yX4_rest, Cond.selects RX4 yX4_rest yX4_rest, Cond.code yX4_rest cX4_rest 8 (some .int), Cond.methodLink RX4 182 yX4_isContent, Cond.instanceMethod yX4_isContent, Cond.selects RX4 yX4_isContent yX4_isContent, Cond.code yX4_isContent cX4_isContent 2 (some .boolean), Cond.methodLink RL 84 yX5_rest, Cond.instanceMethod yX5_rest]
def wsL_law_r21 : List Cond := [Cond.selects RX5 yX5_rest yX5_rest, Cond.code yX5_rest cX5_rest 8 (some .int), Cond.methodLink RX5 176 yX5_isRest, Cond.instanceMethod yX5_isRest, Cond.selects RX5 yX5_isRest yX5_isRest, Cond.code yX5_isRest cX5_isRest 7 (some .boolean), Cond.methodLink RX5 172 yX5_hasWith, Cond.instanceMethod yX5_hasWith, Cond.selects RX5 yX5_hasWith yX5_hasWith, Cond.code yX5_hasWith cX5_hasWith 5 (some .int), Cond.methodLink RL 85 yX4_hungry, Cond.instanceMethod yX4_hungry, Cond.selects RX4 yX4_hungry yX4_hungry, Cond.code yX4_hungry cX4_hungry 2 (some .int), Cond.methodLink RL 88 yX5_hungry, Cond.instanceMethod yX5_hungry, Cond.selects RX5 yX5_hungry yX5_hungry, Cond.code yX5_hungry cX5_hungry 2 (some .int), Cond.methodLink RL 89 yX4_faces, Cond.instanceMethod yX4_faces, Cond.selects RX4 yX4_faces yX4_faces, Cond.code yX4_faces cX4_faces 3 (some .int), Cond.fieldLink RX4 188 "FacingFields" "bestFound" "Z", Cond.fieldLink RX4 196 "FacingFields" "bestLeast" "I"]
def wsL_law_r22 : List Cond := [Cond.methodLink RX4 192 yX4_tryFacing, Cond.instanceMethod yX4_tryFacing, Cond.selects RX4 yX4_tryFacing yX4_tryFacing, Cond.code yX4_tryFacing cX4_tryFacing 5 none, Cond.methodLink RX4 259 yX4_firstUnchosen, Cond.instanceMethod yX4_firstUnchosen, Cond.selects RX4 yX4_firstUnchosen yX4_firstUnchosen, Cond.code yX4_firstUnchosen cX4_firstUnchosen 2 (some .int), Cond.methodLink RX4 262 yX4_weighFacing, Cond.instanceMethod yX4_weighFacing, Cond.selects RX4 yX4_weighFacing yX4_weighFacing, Cond.code yX4_weighFacing cX4_weighFacing 3 none, Cond.methodLink RX4 265 arraycopyName, Cond.methodLink RL 92 yX5_faces, Cond.instanceMethod yX5_faces, Cond.selects RX5 yX5_faces yX5_faces, Cond.code yX5_faces cX5_faces 6 (some .int), Cond.methodLink RX5 181 yX5_isRow, Cond.instanceMethod yX5_isRow, Cond.selects RX5 yX5_isRow yX5_isRow, Cond.code yX5_isRow cX5_isRow 6 (some .boolean), Cond.methodLink RX5 184 yX5_leastBy, Cond.instanceMethod yX5_leastBy, Cond.selects RX5 yX5_leastBy yX5_leastBy]
def wsL_law_r23 : List Cond := [Cond.code yX5_leastBy cX5_leastBy 4 (some .int), Cond.constant RX5 180 (1000000), Cond.methodLink RL 93 yX4_needed, Cond.instanceMethod yX4_needed, Cond.selects RX4 yX4_needed yX4_needed, Cond.code yX4_needed cX4_needed 3 (some .int), Cond.methodLink RX4 199 yX4_tryRopes, Cond.instanceMethod yX4_tryRopes, Cond.selects RX4 yX4_tryRopes yX4_tryRopes, Cond.code yX4_tryRopes cX4_tryRopes 5 (some .int), Cond.methodLink RX4 271 yX4_ropesAlone, Cond.instanceMethod yX4_ropesAlone, Cond.selects RX4 yX4_ropesAlone yX4_ropesAlone, Cond.code yX4_ropesAlone cX4_ropesAlone 2 (some .int), Cond.methodLink RX4 274 yX4_ropesOfTwo, Cond.instanceMethod yX4_ropesOfTwo, Cond.selects RX4 yX4_ropesOfTwo yX4_ropesOfTwo, Cond.code yX4_ropesOfTwo cX4_ropesOfTwo 8 (some .int), Cond.methodLink RL 96 yX5_needed, Cond.instanceMethod yX5_needed, Cond.selects RX5 yX5_needed yX5_needed, Cond.code yX5_needed cX5_needed 7 (some .int), Cond.methodLink RL 97 yX4_stubble, Cond.instanceMethod yX4_stubble]
def wsL_law_r24 : List Cond := [Cond.selects RX4 yX4_stubble yX4_stubble, Cond.code yX4_stubble cX4_stubble 3 (some .int), Cond.methodLink RL 100 yX5_stubble, Cond.instanceMethod yX5_stubble, Cond.selects RX5 yX5_stubble yX5_stubble, Cond.code yX5_stubble cX5_stubble 3 (some .int), Cond.methodLink RL 101 yX4_forget, Cond.instanceMethod yX4_forget, Cond.selects RX4 yX4_forget yX4_forget, Cond.code yX4_forget cX4_forget 2 (some .int), Cond.methodLink RL 104 yX5_forget, Cond.instanceMethod yX5_forget, Cond.selects RX5 yX5_forget yX5_forget, Cond.code yX5_forget cX5_forget 2 (some .int), Cond.methodLink RL 105 yX4_cut, Cond.instanceMethod yX4_cut, Cond.selects RX4 yX4_cut yX4_cut, Cond.code yX4_cut cX4_cut 4 (some .int), Cond.methodLink RX4 205 yX4_fitsStubble, Cond.instanceMethod yX4_fitsStubble, Cond.selects RX4 yX4_fitsStubble yX4_fitsStubble, Cond.code yX4_fitsStubble cX4_fitsStubble 4 (some .boolean), Cond.methodLink RL 108 yX5_cut, Cond.instanceMethod yX5_cut]
def wsL_law_r25 : List Cond := [Cond.selects RX5 yX5_cut yX5_cut, Cond.code yX5_cut cX5_cut 7 (some .int), Cond.methodLink RL 109 yX4_odds, Cond.instanceMethod yX4_odds, Cond.selects RX4 yX4_odds yX4_odds, Cond.code yX4_odds cX4_odds 8 (some .int), Cond.methodLink RX4 208 yX4_isStorable, Cond.static yX4_isStorable, Cond.code yX4_isStorable cX4_isStorable 1 (some .boolean), Cond.methodLink RX4 211 yX4_chancesOf, Cond.instanceMethod yX4_chancesOf, Cond.selects RX4 yX4_chancesOf yX4_chancesOf, Cond.code yX4_chancesOf cX4_chancesOf 13 (some .int), Cond.methodLink RX4 215 yX4_inLeastTerms, Cond.static yX4_inLeastTerms, Cond.code yX4_inLeastTerms cX4_inLeastTerms 7 (some .int), Cond.methodLink RL 113 yX5_odds, Cond.instanceMethod yX5_odds, Cond.selects RX5 yX5_odds yX5_odds, Cond.code yX5_odds cX5_odds 10 (some .int), Cond.methodLink RX5 187 yX5_power, Cond.static yX5_power, Cond.code yX5_power cX5_power 4 (some .int), Cond.methodLink RX5 190 yX5_gcd]
def wsL_law_r26 : List Cond := [Cond.static yX5_gcd, Cond.code yX5_gcd cX5_gcd 5 (some .int), Cond.methodLink RL 114 yX4_rich, Cond.instanceMethod yX4_rich, Cond.selects RX4 yX4_rich yX4_rich, Cond.code yX4_rich cX4_rich 6 (some .int), Cond.methodLink RL 117 yX5_rich, Cond.instanceMethod yX5_rich, Cond.selects RX5 yX5_rich yX5_rich, Cond.code yX5_rich cX5_rich 4 (some .int), Cond.methodLink RL 118 yX4_poor, Cond.instanceMethod yX4_poor, Cond.selects RX4 yX4_poor yX4_poor, Cond.code yX4_poor cX4_poor 4 (some .int), Cond.methodLink RX4 219 yX4_yearsTillPoor, Cond.instanceMethod yX4_yearsTillPoor, Cond.selects RX4 yX4_yearsTillPoor yX4_yearsTillPoor, Cond.code yX4_yearsTillPoor cX4_yearsTillPoor 5 (some .int), Cond.methodLink RL 121 yX5_poor, Cond.instanceMethod yX5_poor, Cond.selects RX5 yX5_poor yX5_poor, Cond.code yX5_poor cX5_poor 3 (some .int), Cond.methodLink RL 122 yX4_share, Cond.instanceMethod yX4_share]
def wsL_law_r27 : List Cond := [Cond.selects RX4 yX4_share yX4_share, Cond.code yX4_share cX4_share 3 (some .int), Cond.methodLink RL 125 yX5_share, Cond.instanceMethod yX5_share, Cond.selects RX5 yX5_share yX5_share, Cond.code yX5_share cX5_share 4 (some .int), Cond.methodLink RL 126 yX4_rate, Cond.instanceMethod yX4_rate, Cond.selects RX4 yX4_rate yX4_rate, Cond.code yX4_rate cX4_rate 3 (some .int), Cond.methodLink RX4 223 yX4_rateMan, Cond.instanceMethod yX4_rateMan, Cond.selects RX4 yX4_rateMan yX4_rateMan, Cond.code yX4_rateMan cX4_rateMan 2 (some .int), Cond.fieldLink RX4 241 "FacingFields" "traced" "J", Cond.methodLink RX4 226 yX4_rateGiant, Cond.instanceMethod yX4_rateGiant, Cond.selects RX4 yX4_rateGiant yX4_rateGiant, Cond.code yX4_rateGiant cX4_rateGiant 2 (some .int), Cond.constantLong RX4 277 (10), Cond.methodLink RX4 229 yX4_rateWidow, Cond.instanceMethod yX4_rateWidow, Cond.selects RX4 yX4_rateWidow yX4_rateWidow, Cond.code yX4_rateWidow cX4_rateWidow 2 (some .int)]
def wsL_law_r28 : List Cond := [Cond.constantLong RX4 279 (100), Cond.methodLink RX4 232 yX4_rateBrother, Cond.instanceMethod yX4_rateBrother, Cond.selects RX4 yX4_rateBrother yX4_rateBrother, Cond.code yX4_rateBrother cX4_rateBrother 2 (some .int), Cond.constantLong RX4 281 (1000), Cond.methodLink RX4 235 yX4_rateGleaner, Cond.instanceMethod yX4_rateGleaner, Cond.selects RX4 yX4_rateGleaner yX4_rateGleaner, Cond.code yX4_rateGleaner cX4_rateGleaner 2 (some .int), Cond.constantLong RX4 283 (10000), Cond.methodLink RX4 238 yX4_rateGuest, Cond.instanceMethod yX4_rateGuest, Cond.selects RX4 yX4_rateGuest yX4_rateGuest, Cond.code yX4_rateGuest cX4_rateGuest 2 (some .int), Cond.constantLong RX4 285 (100000), Cond.methodLink RL 129 yX5_rate, Cond.instanceMethod yX5_rate, Cond.selects RX5 yX5_rate yX5_rate, Cond.code yX5_rate cX5_rate 4 (some .int), Cond.fieldLink RX5 193 "FacingFieldsModel" "trace" "J", Cond.constantLong RX5 197 (11), Cond.constantLong RX5 199 (101), Cond.constantLong RX5 201 (1011)]
def wsL_law_r29 : List Cond := [Cond.constantLong RX5 203 (10101), Cond.constantLong RX5 205 (100001), Cond.methodLink RL 130 yX4_keep, Cond.instanceMethod yX4_keep, Cond.selects RX4 yX4_keep yX4_keep, Cond.code yX4_keep cX4_keep 2 (some .int), Cond.methodLink RL 133 yX5_keep, Cond.instanceMethod yX5_keep, Cond.selects RX5 yX5_keep yX5_keep, Cond.code yX5_keep cX5_keep 3 (some .int), Cond.methodLink RL 134 yX4_back, Cond.instanceMethod yX4_back, Cond.selects RX4 yX4_back yX4_back, Cond.code yX4_back cX4_back 2 (some .int), Cond.methodLink RL 137 yX5_back, Cond.instanceMethod yX5_back, Cond.selects RX5 yX5_back yX5_back, Cond.code yX5_back cX5_back 3 (some .int), Cond.methodLink RL 138 yX4_count, Cond.instanceMethod yX4_count, Cond.selects RX4 yX4_count yX4_count, Cond.code yX4_count cX4_count 2 (some .int), Cond.methodLink RL 141 yX5_count, Cond.instanceMethod yX5_count]
def wsL_law_r30 : List Cond := [Cond.selects RX5 yX5_count yX5_count, Cond.code yX5_count cX5_count 2 (some .int), Cond.methodLink RL 142 yX4_trace, Cond.instanceMethod yX4_trace, Cond.selects RX4 yX4_trace yX4_trace, Cond.code yX4_trace cX4_trace 1 (some .long), Cond.methodLink RL 146 yX5_trace, Cond.instanceMethod yX5_trace, Cond.selects RX5 yX5_trace yX5_trace, Cond.code yX5_trace cX5_trace 1 (some .long)]
def wsL_law : List Cond := (wsL_law_r1 ++ (wsL_law_r2 ++ (wsL_law_r3 ++ (wsL_law_r4 ++ (wsL_law_r5 ++ (wsL_law_r6 ++ (wsL_law_r7 ++ (wsL_law_r8 ++ (wsL_law_r9 ++ (wsL_law_r10 ++ (wsL_law_r11 ++ (wsL_law_r12 ++ (wsL_law_r13 ++ (wsL_law_r14 ++ (wsL_law_r15 ++ (wsL_law_r16 ++ (wsL_law_r17 ++ (wsL_law_r18 ++ (wsL_law_r19 ++ (wsL_law_r20 ++ (wsL_law_r21 ++ (wsL_law_r22 ++ (wsL_law_r23 ++ (wsL_law_r24 ++ (wsL_law_r25 ++ (wsL_law_r26 ++ (wsL_law_r27 ++ (wsL_law_r28 ++ (wsL_law_r29 ++ wsL_law_r30))))))))))))))))))))))))))))) ++ wsX40 ++ wsX50 ++ wsX20 ++ wsX30 ++ wsX10 ++ wsX00 ++ ([] : List Cond)
set_option maxRecDepth 100000 in
theorem tL_1 : ∀ w ∈ wsL_law_r1, w ∈ lw_tbl := List.forall_mem_cons.mpr ⟨List.mem_of_getElem? (i := 70) rfl, List.forall_mem_cons.mpr ⟨List.mem_of_getElem? (i := 71) rfl, List.forall_mem_cons.mpr ⟨List.mem_of_getElem? (i := 62) rfl, List.forall_mem_cons.mpr ⟨List.mem_of_getElem? (i := 574) rfl, List.forall_mem_cons.mpr ⟨List.mem_of_getElem? (i := 575) rfl, List.forall_mem_cons.mpr ⟨List.mem_of_getElem? (i := 67) rfl, List.forall_mem_cons.mpr ⟨List.mem_of_getElem? (i := 72) rfl, List.forall_mem_cons.mpr ⟨List.mem_of_getElem? (i := 73) rfl, List.forall_mem_cons.mpr ⟨List.mem_of_getElem? (i := 74) rfl, List.forall_mem_cons.mpr ⟨List.mem_of_getElem? (i := 75) rfl, List.forall_mem_cons.mpr ⟨List.mem_of_getElem? (i := 76) rfl, List.forall_mem_cons.mpr ⟨List.mem_of_getElem? (i := 77) rfl, List.forall_mem_cons.mpr ⟨List.mem_of_getElem? (i := 78) rfl, List.forall_mem_cons.mpr ⟨List.mem_of_getElem? (i := 79) rfl, List.forall_mem_cons.mpr ⟨List.mem_of_getElem? (i := 63) rfl, List.forall_mem_cons.mpr ⟨List.mem_of_getElem? (i := 209) rfl, List.forall_mem_cons.mpr ⟨List.mem_of_getElem? (i := 103) rfl, List.forall_mem_cons.mpr ⟨List.mem_of_getElem? (i := 104) rfl, List.forall_mem_cons.mpr ⟨List.mem_of_getElem? (i := 64) rfl, List.forall_mem_cons.mpr ⟨List.mem_of_getElem? (i := 210) rfl, List.forall_mem_cons.mpr ⟨List.mem_of_getElem? (i := 211) rfl, List.forall_mem_cons.mpr ⟨List.mem_of_getElem? (i := 150) rfl, List.forall_mem_cons.mpr ⟨List.mem_of_getElem? (i := 151) rfl, List.forall_mem_cons.mpr ⟨List.mem_of_getElem? (i := 65) rfl, fun _ h => absurd h List.not_mem_nil⟩⟩⟩⟩⟩⟩⟩⟩⟩⟩⟩⟩⟩⟩⟩⟩⟩⟩⟩⟩⟩⟩⟩⟩
set_option maxRecDepth 100000 in
theorem tL_2 : ∀ w ∈ wsL_law_r2, w ∈ lw_tbl := List.forall_mem_cons.mpr ⟨List.mem_of_getElem? (i := 212) rfl, List.forall_mem_cons.mpr ⟨List.mem_of_getElem? (i := 213) rfl, List.forall_mem_cons.mpr ⟨List.mem_of_getElem? (i := 185) rfl, List.forall_mem_cons.mpr ⟨List.mem_of_getElem? (i := 186) rfl, List.forall_mem_cons.mpr ⟨List.mem_of_getElem? (i := 66) rfl, List.forall_mem_cons.mpr ⟨List.mem_of_getElem? (i := 214) rfl, List.forall_mem_cons.mpr ⟨List.mem_of_getElem? (i := 215) rfl, List.forall_mem_cons.mpr ⟨List.mem_of_getElem? (i := 255) rfl, List.forall_mem_cons.mpr ⟨List.mem_of_getElem? (i := 216) rfl, List.forall_mem_cons.mpr ⟨List.mem_of_getElem? (i := 102) rfl, List.forall_mem_cons.mpr ⟨List.mem_of_getElem? (i := 217) rfl, List.forall_mem_cons.mpr ⟨List.mem_of_getElem? (i := 218) rfl, List.forall_mem_cons.mpr ⟨List.mem_of_getElem? (i := 220) rfl, List.forall_mem_cons.mpr ⟨List.mem_of_getElem? (i := 81) rfl, List.forall_mem_cons.mpr ⟨List.mem_of_getElem? (i := 82) rfl, List.forall_mem_cons.mpr ⟨List.mem_of_getElem? (i := 83) rfl, List.forall_mem_cons.mpr ⟨List.mem_of_getElem? (i := 84) rfl, List.forall_mem_cons.mpr ⟨List.mem_of_getElem? (i := 106) rfl, List.forall_mem_cons.mpr ⟨List.mem_of_getElem? (i := 107) rfl, List.forall_mem_cons.mpr ⟨List.mem_of_getElem? (i := 108) rfl, List.forall_mem_cons.mpr ⟨List.mem_of_getElem? (i := 113) rfl, List.forall_mem_cons.mpr ⟨List.mem_of_getElem? (i := 116) rfl, List.forall_mem_cons.mpr ⟨List.mem_of_getElem? (i := 121) rfl, List.forall_mem_cons.mpr ⟨List.mem_of_getElem? (i := 124) rfl, fun _ h => absurd h List.not_mem_nil⟩⟩⟩⟩⟩⟩⟩⟩⟩⟩⟩⟩⟩⟩⟩⟩⟩⟩⟩⟩⟩⟩⟩⟩
set_option maxRecDepth 100000 in
theorem tL_3 : ∀ w ∈ wsL_law_r3, w ∈ lw_tbl := List.forall_mem_cons.mpr ⟨List.mem_of_getElem? (i := 127) rfl, List.forall_mem_cons.mpr ⟨List.mem_of_getElem? (i := 109) rfl, List.forall_mem_cons.mpr ⟨List.mem_of_getElem? (i := 130) rfl, List.forall_mem_cons.mpr ⟨List.mem_of_getElem? (i := 153) rfl, List.forall_mem_cons.mpr ⟨List.mem_of_getElem? (i := 154) rfl, List.forall_mem_cons.mpr ⟨List.mem_of_getElem? (i := 155) rfl, List.forall_mem_cons.mpr ⟨List.mem_of_getElem? (i := 156) rfl, List.forall_mem_cons.mpr ⟨List.mem_of_getElem? (i := 158) rfl, List.forall_mem_cons.mpr ⟨List.mem_of_getElem? (i := 160) rfl, List.forall_mem_cons.mpr ⟨List.mem_of_getElem? (i := 162) rfl, List.forall_mem_cons.mpr ⟨List.mem_of_getElem? (i := 164) rfl, List.forall_mem_cons.mpr ⟨List.mem_of_getElem? (i := 187) rfl, List.forall_mem_cons.mpr ⟨List.mem_of_getElem? (i := 188) rfl, List.forall_mem_cons.mpr ⟨List.mem_of_getElem? (i := 189) rfl, List.forall_mem_cons.mpr ⟨List.mem_of_getElem? (i := 190) rfl, List.forall_mem_cons.mpr ⟨List.mem_of_getElem? (i := 191) rfl, List.forall_mem_cons.mpr ⟨List.mem_of_getElem? (i := 194) rfl, List.forall_mem_cons.mpr ⟨List.mem_of_getElem? (i := 205) rfl, List.forall_mem_cons.mpr ⟨List.mem_of_getElem? (i := 206) rfl, List.forall_mem_cons.mpr ⟨List.mem_of_getElem? (i := 207) rfl, List.forall_mem_cons.mpr ⟨List.mem_of_getElem? (i := 208) rfl, List.forall_mem_cons.mpr ⟨List.mem_of_getElem? (i := 166) rfl, List.forall_mem_cons.mpr ⟨List.mem_of_getElem? (i := 168) rfl, List.forall_mem_cons.mpr ⟨List.mem_of_getElem? (i := 576) rfl, fun _ h => absurd h List.not_mem_nil⟩⟩⟩⟩⟩⟩⟩⟩⟩⟩⟩⟩⟩⟩⟩⟩⟩⟩⟩⟩⟩⟩⟩⟩
set_option maxRecDepth 100000 in
theorem tL_4 : ∀ w ∈ wsL_law_r4, w ∈ lw_tbl := List.forall_mem_cons.mpr ⟨List.mem_of_getElem? (i := 577) rfl, List.forall_mem_cons.mpr ⟨List.mem_of_getElem? (i := 578) rfl, List.forall_mem_cons.mpr ⟨List.mem_of_getElem? (i := 579) rfl, List.forall_mem_cons.mpr ⟨List.mem_of_getElem? (i := 582) rfl, List.forall_mem_cons.mpr ⟨List.mem_of_getElem? (i := 589) rfl, List.forall_mem_cons.mpr ⟨List.mem_of_getElem? (i := 590) rfl, List.forall_mem_cons.mpr ⟨List.mem_of_getElem? (i := 591) rfl, List.forall_mem_cons.mpr ⟨List.mem_of_getElem? (i := 592) rfl, List.forall_mem_cons.mpr ⟨List.mem_of_getElem? (i := 593) rfl, List.forall_mem_cons.mpr ⟨List.mem_of_getElem? (i := 594) rfl, List.forall_mem_cons.mpr ⟨List.mem_of_getElem? (i := 595) rfl, List.forall_mem_cons.mpr ⟨List.mem_of_getElem? (i := 596) rfl, List.forall_mem_cons.mpr ⟨List.mem_of_getElem? (i := 597) rfl, List.forall_mem_cons.mpr ⟨List.mem_of_getElem? (i := 598) rfl, List.forall_mem_cons.mpr ⟨List.mem_of_getElem? (i := 599) rfl, List.forall_mem_cons.mpr ⟨List.mem_of_getElem? (i := 600) rfl, List.forall_mem_cons.mpr ⟨List.mem_of_getElem? (i := 602) rfl, List.forall_mem_cons.mpr ⟨List.mem_of_getElem? (i := 603) rfl, List.forall_mem_cons.mpr ⟨List.mem_of_getElem? (i := 605) rfl, List.forall_mem_cons.mpr ⟨List.mem_of_getElem? (i := 606) rfl, List.forall_mem_cons.mpr ⟨List.mem_of_getElem? (i := 256) rfl, List.forall_mem_cons.mpr ⟨List.mem_of_getElem? (i := 257) rfl, List.forall_mem_cons.mpr ⟨List.mem_of_getElem? (i := 258) rfl, List.forall_mem_cons.mpr ⟨List.mem_of_getElem? (i := 259) rfl, fun _ h => absurd h List.not_mem_nil⟩⟩⟩⟩⟩⟩⟩⟩⟩⟩⟩⟩⟩⟩⟩⟩⟩⟩⟩⟩⟩⟩⟩⟩
set_option maxRecDepth 100000 in
theorem tL_5 : ∀ w ∈ wsL_law_r5, w ∈ lw_tbl := List.forall_mem_cons.mpr ⟨List.mem_of_getElem? (i := 86) rfl, List.forall_mem_cons.mpr ⟨List.mem_of_getElem? (i := 85) rfl, List.forall_mem_cons.mpr ⟨List.mem_of_getElem? (i := 662) rfl, List.forall_mem_cons.mpr ⟨List.mem_of_getElem? (i := 663) rfl, List.forall_mem_cons.mpr ⟨List.mem_of_getElem? (i := 664) rfl, List.forall_mem_cons.mpr ⟨List.mem_of_getElem? (i := 665) rfl, List.forall_mem_cons.mpr ⟨List.mem_of_getElem? (i := 580) rfl, List.forall_mem_cons.mpr ⟨List.mem_of_getElem? (i := 583) rfl, List.forall_mem_cons.mpr ⟨List.mem_of_getElem? (i := 666) rfl, List.forall_mem_cons.mpr ⟨List.mem_of_getElem? (i := 667) rfl, List.forall_mem_cons.mpr ⟨List.mem_of_getElem? (i := 668) rfl, List.forall_mem_cons.mpr ⟨List.mem_of_getElem? (i := 260) rfl, List.forall_mem_cons.mpr ⟨List.mem_of_getElem? (i := 261) rfl, List.forall_mem_cons.mpr ⟨List.mem_of_getElem? (i := 262) rfl, List.forall_mem_cons.mpr ⟨List.mem_of_getElem? (i := 263) rfl, List.forall_mem_cons.mpr ⟨List.mem_of_getElem? (i := 669) rfl, List.forall_mem_cons.mpr ⟨List.mem_of_getElem? (i := 670) rfl, List.forall_mem_cons.mpr ⟨List.mem_of_getElem? (i := 671) rfl, List.forall_mem_cons.mpr ⟨List.mem_of_getElem? (i := 672) rfl, List.forall_mem_cons.mpr ⟨List.mem_of_getElem? (i := 264) rfl, List.forall_mem_cons.mpr ⟨List.mem_of_getElem? (i := 265) rfl, List.forall_mem_cons.mpr ⟨List.mem_of_getElem? (i := 266) rfl, List.forall_mem_cons.mpr ⟨List.mem_of_getElem? (i := 267) rfl, List.forall_mem_cons.mpr ⟨List.mem_of_getElem? (i := 120) rfl, fun _ h => absurd h List.not_mem_nil⟩⟩⟩⟩⟩⟩⟩⟩⟩⟩⟩⟩⟩⟩⟩⟩⟩⟩⟩⟩⟩⟩⟩⟩
set_option maxRecDepth 100000 in
theorem tL_6 : ∀ w ∈ wsL_law_r6, w ∈ lw_tbl := List.forall_mem_cons.mpr ⟨List.mem_of_getElem? (i := 197) rfl, List.forall_mem_cons.mpr ⟨List.mem_of_getElem? (i := 219) rfl, List.forall_mem_cons.mpr ⟨List.mem_of_getElem? (i := 268) rfl, List.forall_mem_cons.mpr ⟨List.mem_of_getElem? (i := 269) rfl, List.forall_mem_cons.mpr ⟨List.mem_of_getElem? (i := 270) rfl, List.forall_mem_cons.mpr ⟨List.mem_of_getElem? (i := 271) rfl, List.forall_mem_cons.mpr ⟨List.mem_of_getElem? (i := 111) rfl, List.forall_mem_cons.mpr ⟨List.mem_of_getElem? (i := 119) rfl, List.forall_mem_cons.mpr ⟨List.mem_of_getElem? (i := 89) rfl, List.forall_mem_cons.mpr ⟨List.mem_of_getElem? (i := 88) rfl, List.forall_mem_cons.mpr ⟨List.mem_of_getElem? (i := 272) rfl, List.forall_mem_cons.mpr ⟨List.mem_of_getElem? (i := 274) rfl, List.forall_mem_cons.mpr ⟨List.mem_of_getElem? (i := 0) rfl, List.forall_mem_cons.mpr ⟨List.mem_of_getElem? (i := 275) rfl, List.forall_mem_cons.mpr ⟨List.mem_of_getElem? (i := 87) rfl, List.forall_mem_cons.mpr ⟨List.mem_of_getElem? (i := 276) rfl, List.forall_mem_cons.mpr ⟨List.mem_of_getElem? (i := 277) rfl, List.forall_mem_cons.mpr ⟨List.mem_of_getElem? (i := 278) rfl, List.forall_mem_cons.mpr ⟨List.mem_of_getElem? (i := 279) rfl, List.forall_mem_cons.mpr ⟨List.mem_of_getElem? (i := 281) rfl, List.forall_mem_cons.mpr ⟨List.mem_of_getElem? (i := 1) rfl, List.forall_mem_cons.mpr ⟨List.mem_of_getElem? (i := 282) rfl, List.forall_mem_cons.mpr ⟨List.mem_of_getElem? (i := 90) rfl, List.forall_mem_cons.mpr ⟨List.mem_of_getElem? (i := 283) rfl, fun _ h => absurd h List.not_mem_nil⟩⟩⟩⟩⟩⟩⟩⟩⟩⟩⟩⟩⟩⟩⟩⟩⟩⟩⟩⟩⟩⟩⟩⟩
set_option maxRecDepth 100000 in
theorem tL_7 : ∀ w ∈ wsL_law_r7, w ∈ lw_tbl := List.forall_mem_cons.mpr ⟨List.mem_of_getElem? (i := 284) rfl, List.forall_mem_cons.mpr ⟨List.mem_of_getElem? (i := 68) rfl, List.forall_mem_cons.mpr ⟨List.mem_of_getElem? (i := 285) rfl, List.forall_mem_cons.mpr ⟨List.mem_of_getElem? (i := 286) rfl, List.forall_mem_cons.mpr ⟨List.mem_of_getElem? (i := 288) rfl, List.forall_mem_cons.mpr ⟨List.mem_of_getElem? (i := 2) rfl, List.forall_mem_cons.mpr ⟨List.mem_of_getElem? (i := 289) rfl, List.forall_mem_cons.mpr ⟨List.mem_of_getElem? (i := 114) rfl, List.forall_mem_cons.mpr ⟨List.mem_of_getElem? (i := 117) rfl, List.forall_mem_cons.mpr ⟨List.mem_of_getElem? (i := 290) rfl, List.forall_mem_cons.mpr ⟨List.mem_of_getElem? (i := 292) rfl, List.forall_mem_cons.mpr ⟨List.mem_of_getElem? (i := 3) rfl, List.forall_mem_cons.mpr ⟨List.mem_of_getElem? (i := 293) rfl, List.forall_mem_cons.mpr ⟨List.mem_of_getElem? (i := 294) rfl, List.forall_mem_cons.mpr ⟨List.mem_of_getElem? (i := 296) rfl, List.forall_mem_cons.mpr ⟨List.mem_of_getElem? (i := 4) rfl, List.forall_mem_cons.mpr ⟨List.mem_of_getElem? (i := 297) rfl, List.forall_mem_cons.mpr ⟨List.mem_of_getElem? (i := 122) rfl, List.forall_mem_cons.mpr ⟨List.mem_of_getElem? (i := 125) rfl, List.forall_mem_cons.mpr ⟨List.mem_of_getElem? (i := 128) rfl, List.forall_mem_cons.mpr ⟨List.mem_of_getElem? (i := 131) rfl, List.forall_mem_cons.mpr ⟨List.mem_of_getElem? (i := 673) rfl, List.forall_mem_cons.mpr ⟨List.mem_of_getElem? (i := 674) rfl, List.forall_mem_cons.mpr ⟨List.mem_of_getElem? (i := 675) rfl, fun _ h => absurd h List.not_mem_nil⟩⟩⟩⟩⟩⟩⟩⟩⟩⟩⟩⟩⟩⟩⟩⟩⟩⟩⟩⟩⟩⟩⟩⟩
set_option maxRecDepth 100000 in
theorem tL_8 : ∀ w ∈ wsL_law_r8, w ∈ lw_tbl := List.forall_mem_cons.mpr ⟨List.mem_of_getElem? (i := 676) rfl, List.forall_mem_cons.mpr ⟨List.mem_of_getElem? (i := 588) rfl, List.forall_mem_cons.mpr ⟨List.mem_of_getElem? (i := 584) rfl, List.forall_mem_cons.mpr ⟨List.mem_of_getElem? (i := 585) rfl, List.forall_mem_cons.mpr ⟨List.mem_of_getElem? (i := 587) rfl, List.forall_mem_cons.mpr ⟨List.mem_of_getElem? (i := 677) rfl, List.forall_mem_cons.mpr ⟨List.mem_of_getElem? (i := 679) rfl, List.forall_mem_cons.mpr ⟨List.mem_of_getElem? (i := 35) rfl, List.forall_mem_cons.mpr ⟨List.mem_of_getElem? (i := 680) rfl, List.forall_mem_cons.mpr ⟨List.mem_of_getElem? (i := 586) rfl, List.forall_mem_cons.mpr ⟨List.mem_of_getElem? (i := 681) rfl, List.forall_mem_cons.mpr ⟨List.mem_of_getElem? (i := 683) rfl, List.forall_mem_cons.mpr ⟨List.mem_of_getElem? (i := 36) rfl, List.forall_mem_cons.mpr ⟨List.mem_of_getElem? (i := 684) rfl, List.forall_mem_cons.mpr ⟨List.mem_of_getElem? (i := 685) rfl, List.forall_mem_cons.mpr ⟨List.mem_of_getElem? (i := 687) rfl, List.forall_mem_cons.mpr ⟨List.mem_of_getElem? (i := 37) rfl, List.forall_mem_cons.mpr ⟨List.mem_of_getElem? (i := 688) rfl, List.forall_mem_cons.mpr ⟨List.mem_of_getElem? (i := 689) rfl, List.forall_mem_cons.mpr ⟨List.mem_of_getElem? (i := 691) rfl, List.forall_mem_cons.mpr ⟨List.mem_of_getElem? (i := 38) rfl, List.forall_mem_cons.mpr ⟨List.mem_of_getElem? (i := 692) rfl, List.forall_mem_cons.mpr ⟨List.mem_of_getElem? (i := 693) rfl, List.forall_mem_cons.mpr ⟨List.mem_of_getElem? (i := 695) rfl, fun _ h => absurd h List.not_mem_nil⟩⟩⟩⟩⟩⟩⟩⟩⟩⟩⟩⟩⟩⟩⟩⟩⟩⟩⟩⟩⟩⟩⟩⟩
set_option maxRecDepth 100000 in
theorem tL_9 : ∀ w ∈ wsL_law_r9, w ∈ lw_tbl := List.forall_mem_cons.mpr ⟨List.mem_of_getElem? (i := 39) rfl, List.forall_mem_cons.mpr ⟨List.mem_of_getElem? (i := 696) rfl, List.forall_mem_cons.mpr ⟨List.mem_of_getElem? (i := 697) rfl, List.forall_mem_cons.mpr ⟨List.mem_of_getElem? (i := 699) rfl, List.forall_mem_cons.mpr ⟨List.mem_of_getElem? (i := 40) rfl, List.forall_mem_cons.mpr ⟨List.mem_of_getElem? (i := 700) rfl, List.forall_mem_cons.mpr ⟨List.mem_of_getElem? (i := 701) rfl, List.forall_mem_cons.mpr ⟨List.mem_of_getElem? (i := 703) rfl, List.forall_mem_cons.mpr ⟨List.mem_of_getElem? (i := 41) rfl, List.forall_mem_cons.mpr ⟨List.mem_of_getElem? (i := 704) rfl, List.forall_mem_cons.mpr ⟨List.mem_of_getElem? (i := 604) rfl, List.forall_mem_cons.mpr ⟨List.mem_of_getElem? (i := 601) rfl, List.forall_mem_cons.mpr ⟨List.mem_of_getElem? (i := 298) rfl, List.forall_mem_cons.mpr ⟨List.mem_of_getElem? (i := 299) rfl, List.forall_mem_cons.mpr ⟨List.mem_of_getElem? (i := 300) rfl, List.forall_mem_cons.mpr ⟨List.mem_of_getElem? (i := 301) rfl, List.forall_mem_cons.mpr ⟨List.mem_of_getElem? (i := 123) rfl, List.forall_mem_cons.mpr ⟨List.mem_of_getElem? (i := 126) rfl, List.forall_mem_cons.mpr ⟨List.mem_of_getElem? (i := 129) rfl, List.forall_mem_cons.mpr ⟨List.mem_of_getElem? (i := 157) rfl, List.forall_mem_cons.mpr ⟨List.mem_of_getElem? (i := 159) rfl, List.forall_mem_cons.mpr ⟨List.mem_of_getElem? (i := 161) rfl, List.forall_mem_cons.mpr ⟨List.mem_of_getElem? (i := 163) rfl, List.forall_mem_cons.mpr ⟨List.mem_of_getElem? (i := 302) rfl, fun _ h => absurd h List.not_mem_nil⟩⟩⟩⟩⟩⟩⟩⟩⟩⟩⟩⟩⟩⟩⟩⟩⟩⟩⟩⟩⟩⟩⟩⟩
set_option maxRecDepth 100000 in
theorem tL_10 : ∀ w ∈ wsL_law_r10, w ∈ lw_tbl := List.forall_mem_cons.mpr ⟨List.mem_of_getElem? (i := 304) rfl, List.forall_mem_cons.mpr ⟨List.mem_of_getElem? (i := 5) rfl, List.forall_mem_cons.mpr ⟨List.mem_of_getElem? (i := 305) rfl, List.forall_mem_cons.mpr ⟨List.mem_of_getElem? (i := 306) rfl, List.forall_mem_cons.mpr ⟨List.mem_of_getElem? (i := 307) rfl, List.forall_mem_cons.mpr ⟨List.mem_of_getElem? (i := 308) rfl, List.forall_mem_cons.mpr ⟨List.mem_of_getElem? (i := 705) rfl, List.forall_mem_cons.mpr ⟨List.mem_of_getElem? (i := 706) rfl, List.forall_mem_cons.mpr ⟨List.mem_of_getElem? (i := 707) rfl, List.forall_mem_cons.mpr ⟨List.mem_of_getElem? (i := 708) rfl, List.forall_mem_cons.mpr ⟨List.mem_of_getElem? (i := 709) rfl, List.forall_mem_cons.mpr ⟨List.mem_of_getElem? (i := 711) rfl, List.forall_mem_cons.mpr ⟨List.mem_of_getElem? (i := 42) rfl, List.forall_mem_cons.mpr ⟨List.mem_of_getElem? (i := 712) rfl, List.forall_mem_cons.mpr ⟨List.mem_of_getElem? (i := 309) rfl, List.forall_mem_cons.mpr ⟨List.mem_of_getElem? (i := 310) rfl, List.forall_mem_cons.mpr ⟨List.mem_of_getElem? (i := 311) rfl, List.forall_mem_cons.mpr ⟨List.mem_of_getElem? (i := 312) rfl, List.forall_mem_cons.mpr ⟨List.mem_of_getElem? (i := 132) rfl, List.forall_mem_cons.mpr ⟨List.mem_of_getElem? (i := 313) rfl, List.forall_mem_cons.mpr ⟨List.mem_of_getElem? (i := 315) rfl, List.forall_mem_cons.mpr ⟨List.mem_of_getElem? (i := 6) rfl, List.forall_mem_cons.mpr ⟨List.mem_of_getElem? (i := 316) rfl, List.forall_mem_cons.mpr ⟨List.mem_of_getElem? (i := 112) rfl, fun _ h => absurd h List.not_mem_nil⟩⟩⟩⟩⟩⟩⟩⟩⟩⟩⟩⟩⟩⟩⟩⟩⟩⟩⟩⟩⟩⟩⟩⟩
set_option maxRecDepth 100000 in
theorem tL_11 : ∀ w ∈ wsL_law_r11, w ∈ lw_tbl := List.forall_mem_cons.mpr ⟨List.mem_of_getElem? (i := 713) rfl, List.forall_mem_cons.mpr ⟨List.mem_of_getElem? (i := 714) rfl, List.forall_mem_cons.mpr ⟨List.mem_of_getElem? (i := 715) rfl, List.forall_mem_cons.mpr ⟨List.mem_of_getElem? (i := 716) rfl, List.forall_mem_cons.mpr ⟨List.mem_of_getElem? (i := 717) rfl, List.forall_mem_cons.mpr ⟨List.mem_of_getElem? (i := 719) rfl, List.forall_mem_cons.mpr ⟨List.mem_of_getElem? (i := 43) rfl, List.forall_mem_cons.mpr ⟨List.mem_of_getElem? (i := 720) rfl, List.forall_mem_cons.mpr ⟨List.mem_of_getElem? (i := 317) rfl, List.forall_mem_cons.mpr ⟨List.mem_of_getElem? (i := 318) rfl, List.forall_mem_cons.mpr ⟨List.mem_of_getElem? (i := 319) rfl, List.forall_mem_cons.mpr ⟨List.mem_of_getElem? (i := 320) rfl, List.forall_mem_cons.mpr ⟨List.mem_of_getElem? (i := 321) rfl, List.forall_mem_cons.mpr ⟨List.mem_of_getElem? (i := 323) rfl, List.forall_mem_cons.mpr ⟨List.mem_of_getElem? (i := 7) rfl, List.forall_mem_cons.mpr ⟨List.mem_of_getElem? (i := 324) rfl, List.forall_mem_cons.mpr ⟨List.mem_of_getElem? (i := 115) rfl, List.forall_mem_cons.mpr ⟨List.mem_of_getElem? (i := 167) rfl, List.forall_mem_cons.mpr ⟨List.mem_of_getElem? (i := 721) rfl, List.forall_mem_cons.mpr ⟨List.mem_of_getElem? (i := 722) rfl, List.forall_mem_cons.mpr ⟨List.mem_of_getElem? (i := 723) rfl, List.forall_mem_cons.mpr ⟨List.mem_of_getElem? (i := 724) rfl, List.forall_mem_cons.mpr ⟨List.mem_of_getElem? (i := 725) rfl, List.forall_mem_cons.mpr ⟨List.mem_of_getElem? (i := 727) rfl, fun _ h => absurd h List.not_mem_nil⟩⟩⟩⟩⟩⟩⟩⟩⟩⟩⟩⟩⟩⟩⟩⟩⟩⟩⟩⟩⟩⟩⟩⟩
set_option maxRecDepth 100000 in
theorem tL_12 : ∀ w ∈ wsL_law_r12, w ∈ lw_tbl := List.forall_mem_cons.mpr ⟨List.mem_of_getElem? (i := 44) rfl, List.forall_mem_cons.mpr ⟨List.mem_of_getElem? (i := 728) rfl, List.forall_mem_cons.mpr ⟨List.mem_of_getElem? (i := 325) rfl, List.forall_mem_cons.mpr ⟨List.mem_of_getElem? (i := 326) rfl, List.forall_mem_cons.mpr ⟨List.mem_of_getElem? (i := 327) rfl, List.forall_mem_cons.mpr ⟨List.mem_of_getElem? (i := 328) rfl, List.forall_mem_cons.mpr ⟨List.mem_of_getElem? (i := 329) rfl, List.forall_mem_cons.mpr ⟨List.mem_of_getElem? (i := 165) rfl, List.forall_mem_cons.mpr ⟨List.mem_of_getElem? (i := 330) rfl, List.forall_mem_cons.mpr ⟨List.mem_of_getElem? (i := 332) rfl, List.forall_mem_cons.mpr ⟨List.mem_of_getElem? (i := 8) rfl, List.forall_mem_cons.mpr ⟨List.mem_of_getElem? (i := 333) rfl, List.forall_mem_cons.mpr ⟨List.mem_of_getElem? (i := 334) rfl, List.forall_mem_cons.mpr ⟨List.mem_of_getElem? (i := 336) rfl, List.forall_mem_cons.mpr ⟨List.mem_of_getElem? (i := 9) rfl, List.forall_mem_cons.mpr ⟨List.mem_of_getElem? (i := 337) rfl, List.forall_mem_cons.mpr ⟨List.mem_of_getElem? (i := 338) rfl, List.forall_mem_cons.mpr ⟨List.mem_of_getElem? (i := 339) rfl, List.forall_mem_cons.mpr ⟨List.mem_of_getElem? (i := 341) rfl, List.forall_mem_cons.mpr ⟨List.mem_of_getElem? (i := 10) rfl, List.forall_mem_cons.mpr ⟨List.mem_of_getElem? (i := 342) rfl, List.forall_mem_cons.mpr ⟨List.mem_of_getElem? (i := 343) rfl, List.forall_mem_cons.mpr ⟨List.mem_of_getElem? (i := 345) rfl, List.forall_mem_cons.mpr ⟨List.mem_of_getElem? (i := 11) rfl, fun _ h => absurd h List.not_mem_nil⟩⟩⟩⟩⟩⟩⟩⟩⟩⟩⟩⟩⟩⟩⟩⟩⟩⟩⟩⟩⟩⟩⟩⟩
set_option maxRecDepth 100000 in
theorem tL_13 : ∀ w ∈ wsL_law_r13, w ∈ lw_tbl := List.forall_mem_cons.mpr ⟨List.mem_of_getElem? (i := 346) rfl, List.forall_mem_cons.mpr ⟨List.mem_of_getElem? (i := 118) rfl, List.forall_mem_cons.mpr ⟨List.mem_of_getElem? (i := 729) rfl, List.forall_mem_cons.mpr ⟨List.mem_of_getElem? (i := 730) rfl, List.forall_mem_cons.mpr ⟨List.mem_of_getElem? (i := 731) rfl, List.forall_mem_cons.mpr ⟨List.mem_of_getElem? (i := 732) rfl, List.forall_mem_cons.mpr ⟨List.mem_of_getElem? (i := 733) rfl, List.forall_mem_cons.mpr ⟨List.mem_of_getElem? (i := 734) rfl, List.forall_mem_cons.mpr ⟨List.mem_of_getElem? (i := 736) rfl, List.forall_mem_cons.mpr ⟨List.mem_of_getElem? (i := 45) rfl, List.forall_mem_cons.mpr ⟨List.mem_of_getElem? (i := 737) rfl, List.forall_mem_cons.mpr ⟨List.mem_of_getElem? (i := 738) rfl, List.forall_mem_cons.mpr ⟨List.mem_of_getElem? (i := 740) rfl, List.forall_mem_cons.mpr ⟨List.mem_of_getElem? (i := 46) rfl, List.forall_mem_cons.mpr ⟨List.mem_of_getElem? (i := 741) rfl, List.forall_mem_cons.mpr ⟨List.mem_of_getElem? (i := 742) rfl, List.forall_mem_cons.mpr ⟨List.mem_of_getElem? (i := 744) rfl, List.forall_mem_cons.mpr ⟨List.mem_of_getElem? (i := 47) rfl, List.forall_mem_cons.mpr ⟨List.mem_of_getElem? (i := 745) rfl, List.forall_mem_cons.mpr ⟨List.mem_of_getElem? (i := 746) rfl, List.forall_mem_cons.mpr ⟨List.mem_of_getElem? (i := 748) rfl, List.forall_mem_cons.mpr ⟨List.mem_of_getElem? (i := 48) rfl, List.forall_mem_cons.mpr ⟨List.mem_of_getElem? (i := 749) rfl, List.forall_mem_cons.mpr ⟨List.mem_of_getElem? (i := 347) rfl, fun _ h => absurd h List.not_mem_nil⟩⟩⟩⟩⟩⟩⟩⟩⟩⟩⟩⟩⟩⟩⟩⟩⟩⟩⟩⟩⟩⟩⟩⟩
set_option maxRecDepth 100000 in
theorem tL_14 : ∀ w ∈ wsL_law_r14, w ∈ lw_tbl := List.forall_mem_cons.mpr ⟨List.mem_of_getElem? (i := 348) rfl, List.forall_mem_cons.mpr ⟨List.mem_of_getElem? (i := 349) rfl, List.forall_mem_cons.mpr ⟨List.mem_of_getElem? (i := 350) rfl, List.forall_mem_cons.mpr ⟨List.mem_of_getElem? (i := 169) rfl, List.forall_mem_cons.mpr ⟨List.mem_of_getElem? (i := 351) rfl, List.forall_mem_cons.mpr ⟨List.mem_of_getElem? (i := 353) rfl, List.forall_mem_cons.mpr ⟨List.mem_of_getElem? (i := 12) rfl, List.forall_mem_cons.mpr ⟨List.mem_of_getElem? (i := 354) rfl, List.forall_mem_cons.mpr ⟨List.mem_of_getElem? (i := 355) rfl, List.forall_mem_cons.mpr ⟨List.mem_of_getElem? (i := 357) rfl, List.forall_mem_cons.mpr ⟨List.mem_of_getElem? (i := 13) rfl, List.forall_mem_cons.mpr ⟨List.mem_of_getElem? (i := 358) rfl, List.forall_mem_cons.mpr ⟨List.mem_of_getElem? (i := 359) rfl, List.forall_mem_cons.mpr ⟨List.mem_of_getElem? (i := 361) rfl, List.forall_mem_cons.mpr ⟨List.mem_of_getElem? (i := 14) rfl, List.forall_mem_cons.mpr ⟨List.mem_of_getElem? (i := 362) rfl, List.forall_mem_cons.mpr ⟨List.mem_of_getElem? (i := 363) rfl, List.forall_mem_cons.mpr ⟨List.mem_of_getElem? (i := 364) rfl, List.forall_mem_cons.mpr ⟨List.mem_of_getElem? (i := 365) rfl, List.forall_mem_cons.mpr ⟨List.mem_of_getElem? (i := 366) rfl, List.forall_mem_cons.mpr ⟨List.mem_of_getElem? (i := 367) rfl, List.forall_mem_cons.mpr ⟨List.mem_of_getElem? (i := 369) rfl, List.forall_mem_cons.mpr ⟨List.mem_of_getElem? (i := 368) rfl, List.forall_mem_cons.mpr ⟨List.mem_of_getElem? (i := 69) rfl, fun _ h => absurd h List.not_mem_nil⟩⟩⟩⟩⟩⟩⟩⟩⟩⟩⟩⟩⟩⟩⟩⟩⟩⟩⟩⟩⟩⟩⟩⟩
set_option maxRecDepth 100000 in
theorem tL_15 : ∀ w ∈ wsL_law_r15, w ∈ lw_tbl := List.forall_mem_cons.mpr ⟨List.mem_of_getElem? (i := 370) rfl, List.forall_mem_cons.mpr ⟨List.mem_of_getElem? (i := 372) rfl, List.forall_mem_cons.mpr ⟨List.mem_of_getElem? (i := 15) rfl, List.forall_mem_cons.mpr ⟨List.mem_of_getElem? (i := 373) rfl, List.forall_mem_cons.mpr ⟨List.mem_of_getElem? (i := 374) rfl, List.forall_mem_cons.mpr ⟨List.mem_of_getElem? (i := 375) rfl, List.forall_mem_cons.mpr ⟨List.mem_of_getElem? (i := 376) rfl, List.forall_mem_cons.mpr ⟨List.mem_of_getElem? (i := 377) rfl, List.forall_mem_cons.mpr ⟨List.mem_of_getElem? (i := 379) rfl, List.forall_mem_cons.mpr ⟨List.mem_of_getElem? (i := 16) rfl, List.forall_mem_cons.mpr ⟨List.mem_of_getElem? (i := 380) rfl, List.forall_mem_cons.mpr ⟨List.mem_of_getElem? (i := 750) rfl, List.forall_mem_cons.mpr ⟨List.mem_of_getElem? (i := 751) rfl, List.forall_mem_cons.mpr ⟨List.mem_of_getElem? (i := 752) rfl, List.forall_mem_cons.mpr ⟨List.mem_of_getElem? (i := 753) rfl, List.forall_mem_cons.mpr ⟨List.mem_of_getElem? (i := 754) rfl, List.forall_mem_cons.mpr ⟨List.mem_of_getElem? (i := 756) rfl, List.forall_mem_cons.mpr ⟨List.mem_of_getElem? (i := 49) rfl, List.forall_mem_cons.mpr ⟨List.mem_of_getElem? (i := 757) rfl, List.forall_mem_cons.mpr ⟨List.mem_of_getElem? (i := 758) rfl, List.forall_mem_cons.mpr ⟨List.mem_of_getElem? (i := 760) rfl, List.forall_mem_cons.mpr ⟨List.mem_of_getElem? (i := 50) rfl, List.forall_mem_cons.mpr ⟨List.mem_of_getElem? (i := 761) rfl, List.forall_mem_cons.mpr ⟨List.mem_of_getElem? (i := 762) rfl, fun _ h => absurd h List.not_mem_nil⟩⟩⟩⟩⟩⟩⟩⟩⟩⟩⟩⟩⟩⟩⟩⟩⟩⟩⟩⟩⟩⟩⟩⟩
set_option maxRecDepth 100000 in
theorem tL_16 : ∀ w ∈ wsL_law_r16, w ∈ lw_tbl := List.forall_mem_cons.mpr ⟨List.mem_of_getElem? (i := 764) rfl, List.forall_mem_cons.mpr ⟨List.mem_of_getElem? (i := 51) rfl, List.forall_mem_cons.mpr ⟨List.mem_of_getElem? (i := 765) rfl, List.forall_mem_cons.mpr ⟨List.mem_of_getElem? (i := 766) rfl, List.forall_mem_cons.mpr ⟨List.mem_of_getElem? (i := 768) rfl, List.forall_mem_cons.mpr ⟨List.mem_of_getElem? (i := 52) rfl, List.forall_mem_cons.mpr ⟨List.mem_of_getElem? (i := 769) rfl, List.forall_mem_cons.mpr ⟨List.mem_of_getElem? (i := 381) rfl, List.forall_mem_cons.mpr ⟨List.mem_of_getElem? (i := 382) rfl, List.forall_mem_cons.mpr ⟨List.mem_of_getElem? (i := 383) rfl, List.forall_mem_cons.mpr ⟨List.mem_of_getElem? (i := 384) rfl, List.forall_mem_cons.mpr ⟨List.mem_of_getElem? (i := 385) rfl, List.forall_mem_cons.mpr ⟨List.mem_of_getElem? (i := 386) rfl, List.forall_mem_cons.mpr ⟨List.mem_of_getElem? (i := 387) rfl, List.forall_mem_cons.mpr ⟨List.mem_of_getElem? (i := 388) rfl, List.forall_mem_cons.mpr ⟨List.mem_of_getElem? (i := 195) rfl, List.forall_mem_cons.mpr ⟨List.mem_of_getElem? (i := 196) rfl, List.forall_mem_cons.mpr ⟨List.mem_of_getElem? (i := 390) rfl, List.forall_mem_cons.mpr ⟨List.mem_of_getElem? (i := 389) rfl, List.forall_mem_cons.mpr ⟨List.mem_of_getElem? (i := 770) rfl, List.forall_mem_cons.mpr ⟨List.mem_of_getElem? (i := 771) rfl, List.forall_mem_cons.mpr ⟨List.mem_of_getElem? (i := 772) rfl, List.forall_mem_cons.mpr ⟨List.mem_of_getElem? (i := 773) rfl, List.forall_mem_cons.mpr ⟨List.mem_of_getElem? (i := 774) rfl, fun _ h => absurd h List.not_mem_nil⟩⟩⟩⟩⟩⟩⟩⟩⟩⟩⟩⟩⟩⟩⟩⟩⟩⟩⟩⟩⟩⟩⟩⟩
set_option maxRecDepth 100000 in
theorem tL_17 : ∀ w ∈ wsL_law_r17, w ∈ lw_tbl := List.forall_mem_cons.mpr ⟨List.mem_of_getElem? (i := 776) rfl, List.forall_mem_cons.mpr ⟨List.mem_of_getElem? (i := 53) rfl, List.forall_mem_cons.mpr ⟨List.mem_of_getElem? (i := 777) rfl, List.forall_mem_cons.mpr ⟨List.mem_of_getElem? (i := 778) rfl, List.forall_mem_cons.mpr ⟨List.mem_of_getElem? (i := 780) rfl, List.forall_mem_cons.mpr ⟨List.mem_of_getElem? (i := 54) rfl, List.forall_mem_cons.mpr ⟨List.mem_of_getElem? (i := 781) rfl, List.forall_mem_cons.mpr ⟨List.mem_of_getElem? (i := 391) rfl, List.forall_mem_cons.mpr ⟨List.mem_of_getElem? (i := 392) rfl, List.forall_mem_cons.mpr ⟨List.mem_of_getElem? (i := 393) rfl, List.forall_mem_cons.mpr ⟨List.mem_of_getElem? (i := 394) rfl, List.forall_mem_cons.mpr ⟨List.mem_of_getElem? (i := 782) rfl, List.forall_mem_cons.mpr ⟨List.mem_of_getElem? (i := 783) rfl, List.forall_mem_cons.mpr ⟨List.mem_of_getElem? (i := 784) rfl, List.forall_mem_cons.mpr ⟨List.mem_of_getElem? (i := 785) rfl, List.forall_mem_cons.mpr ⟨List.mem_of_getElem? (i := 395) rfl, List.forall_mem_cons.mpr ⟨List.mem_of_getElem? (i := 396) rfl, List.forall_mem_cons.mpr ⟨List.mem_of_getElem? (i := 397) rfl, List.forall_mem_cons.mpr ⟨List.mem_of_getElem? (i := 398) rfl, List.forall_mem_cons.mpr ⟨List.mem_of_getElem? (i := 786) rfl, List.forall_mem_cons.mpr ⟨List.mem_of_getElem? (i := 787) rfl, List.forall_mem_cons.mpr ⟨List.mem_of_getElem? (i := 788) rfl, List.forall_mem_cons.mpr ⟨List.mem_of_getElem? (i := 789) rfl, List.forall_mem_cons.mpr ⟨List.mem_of_getElem? (i := 399) rfl, fun _ h => absurd h List.not_mem_nil⟩⟩⟩⟩⟩⟩⟩⟩⟩⟩⟩⟩⟩⟩⟩⟩⟩⟩⟩⟩⟩⟩⟩⟩
set_option maxRecDepth 100000 in
theorem tL_18 : ∀ w ∈ wsL_law_r18, w ∈ lw_tbl := List.forall_mem_cons.mpr ⟨List.mem_of_getElem? (i := 400) rfl, List.forall_mem_cons.mpr ⟨List.mem_of_getElem? (i := 401) rfl, List.forall_mem_cons.mpr ⟨List.mem_of_getElem? (i := 402) rfl, List.forall_mem_cons.mpr ⟨List.mem_of_getElem? (i := 790) rfl, List.forall_mem_cons.mpr ⟨List.mem_of_getElem? (i := 791) rfl, List.forall_mem_cons.mpr ⟨List.mem_of_getElem? (i := 792) rfl, List.forall_mem_cons.mpr ⟨List.mem_of_getElem? (i := 793) rfl, List.forall_mem_cons.mpr ⟨List.mem_of_getElem? (i := 403) rfl, List.forall_mem_cons.mpr ⟨List.mem_of_getElem? (i := 404) rfl, List.forall_mem_cons.mpr ⟨List.mem_of_getElem? (i := 405) rfl, List.forall_mem_cons.mpr ⟨List.mem_of_getElem? (i := 406) rfl, List.forall_mem_cons.mpr ⟨List.mem_of_getElem? (i := 407) rfl, List.forall_mem_cons.mpr ⟨List.mem_of_getElem? (i := 409) rfl, List.forall_mem_cons.mpr ⟨List.mem_of_getElem? (i := 17) rfl, List.forall_mem_cons.mpr ⟨List.mem_of_getElem? (i := 410) rfl, List.forall_mem_cons.mpr ⟨List.mem_of_getElem? (i := 794) rfl, List.forall_mem_cons.mpr ⟨List.mem_of_getElem? (i := 795) rfl, List.forall_mem_cons.mpr ⟨List.mem_of_getElem? (i := 796) rfl, List.forall_mem_cons.mpr ⟨List.mem_of_getElem? (i := 797) rfl, List.forall_mem_cons.mpr ⟨List.mem_of_getElem? (i := 798) rfl, List.forall_mem_cons.mpr ⟨List.mem_of_getElem? (i := 800) rfl, List.forall_mem_cons.mpr ⟨List.mem_of_getElem? (i := 55) rfl, List.forall_mem_cons.mpr ⟨List.mem_of_getElem? (i := 801) rfl, List.forall_mem_cons.mpr ⟨List.mem_of_getElem? (i := 411) rfl, fun _ h => absurd h List.not_mem_nil⟩⟩⟩⟩⟩⟩⟩⟩⟩⟩⟩⟩⟩⟩⟩⟩⟩⟩⟩⟩⟩⟩⟩⟩
set_option maxRecDepth 100000 in
theorem tL_19 : ∀ w ∈ wsL_law_r19, w ∈ lw_tbl := List.forall_mem_cons.mpr ⟨List.mem_of_getElem? (i := 412) rfl, List.forall_mem_cons.mpr ⟨List.mem_of_getElem? (i := 413) rfl, List.forall_mem_cons.mpr ⟨List.mem_of_getElem? (i := 414) rfl, List.forall_mem_cons.mpr ⟨List.mem_of_getElem? (i := 415) rfl, List.forall_mem_cons.mpr ⟨List.mem_of_getElem? (i := 417) rfl, List.forall_mem_cons.mpr ⟨List.mem_of_getElem? (i := 18) rfl, List.forall_mem_cons.mpr ⟨List.mem_of_getElem? (i := 418) rfl, List.forall_mem_cons.mpr ⟨List.mem_of_getElem? (i := 419) rfl, List.forall_mem_cons.mpr ⟨List.mem_of_getElem? (i := 420) rfl, List.forall_mem_cons.mpr ⟨List.mem_of_getElem? (i := 421) rfl, List.forall_mem_cons.mpr ⟨List.mem_of_getElem? (i := 802) rfl, List.forall_mem_cons.mpr ⟨List.mem_of_getElem? (i := 803) rfl, List.forall_mem_cons.mpr ⟨List.mem_of_getElem? (i := 804) rfl, List.forall_mem_cons.mpr ⟨List.mem_of_getElem? (i := 805) rfl, List.forall_mem_cons.mpr ⟨List.mem_of_getElem? (i := 806) rfl, List.forall_mem_cons.mpr ⟨List.mem_of_getElem? (i := 808) rfl, List.forall_mem_cons.mpr ⟨List.mem_of_getElem? (i := 56) rfl, List.forall_mem_cons.mpr ⟨List.mem_of_getElem? (i := 809) rfl, List.forall_mem_cons.mpr ⟨List.mem_of_getElem? (i := 422) rfl, List.forall_mem_cons.mpr ⟨List.mem_of_getElem? (i := 423) rfl, List.forall_mem_cons.mpr ⟨List.mem_of_getElem? (i := 424) rfl, List.forall_mem_cons.mpr ⟨List.mem_of_getElem? (i := 425) rfl, List.forall_mem_cons.mpr ⟨List.mem_of_getElem? (i := 426) rfl, List.forall_mem_cons.mpr ⟨List.mem_of_getElem? (i := 427) rfl, fun _ h => absurd h List.not_mem_nil⟩⟩⟩⟩⟩⟩⟩⟩⟩⟩⟩⟩⟩⟩⟩⟩⟩⟩⟩⟩⟩⟩⟩⟩
set_option maxRecDepth 100000 in
theorem tL_20 : ∀ w ∈ wsL_law_r20, w ∈ lw_tbl := List.forall_mem_cons.mpr ⟨List.mem_of_getElem? (i := 428) rfl, List.forall_mem_cons.mpr ⟨List.mem_of_getElem? (i := 429) rfl, List.forall_mem_cons.mpr ⟨List.mem_of_getElem? (i := 810) rfl, List.forall_mem_cons.mpr ⟨List.mem_of_getElem? (i := 811) rfl, List.forall_mem_cons.mpr ⟨List.mem_of_getElem? (i := 812) rfl, List.forall_mem_cons.mpr ⟨List.mem_of_getElem? (i := 813) rfl, List.forall_mem_cons.mpr ⟨List.mem_of_getElem? (i := 430) rfl, List.forall_mem_cons.mpr ⟨List.mem_of_getElem? (i := 431) rfl, List.forall_mem_cons.mpr ⟨List.mem_of_getElem? (i := 432) rfl, List.forall_mem_cons.mpr ⟨List.mem_of_getElem? (i := 433) rfl, List.forall_mem_cons.mpr ⟨List.mem_of_getElem? (i := 814) rfl, List.forall_mem_cons.mpr ⟨List.mem_of_getElem? (i := 815) rfl, List.forall_mem_cons.mpr ⟨List.mem_of_getElem? (i := 816) rfl, List.forall_mem_cons.mpr ⟨List.mem_of_getElem? (i := 817) rfl, List.forall_mem_cons.mpr ⟨List.mem_of_getElem? (i := 434) rfl, List.forall_mem_cons.mpr ⟨List.mem_of_getElem? (i := 435) rfl, List.forall_mem_cons.mpr ⟨List.mem_of_getElem? (i := 436) rfl, List.forall_mem_cons.mpr ⟨List.mem_of_getElem? (i := 437) rfl, List.forall_mem_cons.mpr ⟨List.mem_of_getElem? (i := 438) rfl, List.forall_mem_cons.mpr ⟨List.mem_of_getElem? (i := 440) rfl, List.forall_mem_cons.mpr ⟨List.mem_of_getElem? (i := 19) rfl, List.forall_mem_cons.mpr ⟨List.mem_of_getElem? (i := 441) rfl, List.forall_mem_cons.mpr ⟨List.mem_of_getElem? (i := 818) rfl, List.forall_mem_cons.mpr ⟨List.mem_of_getElem? (i := 819) rfl, fun _ h => absurd h List.not_mem_nil⟩⟩⟩⟩⟩⟩⟩⟩⟩⟩⟩⟩⟩⟩⟩⟩⟩⟩⟩⟩⟩⟩⟩⟩
set_option maxRecDepth 100000 in
theorem tL_21 : ∀ w ∈ wsL_law_r21, w ∈ lw_tbl := List.forall_mem_cons.mpr ⟨List.mem_of_getElem? (i := 820) rfl, List.forall_mem_cons.mpr ⟨List.mem_of_getElem? (i := 821) rfl, List.forall_mem_cons.mpr ⟨List.mem_of_getElem? (i := 822) rfl, List.forall_mem_cons.mpr ⟨List.mem_of_getElem? (i := 824) rfl, List.forall_mem_cons.mpr ⟨List.mem_of_getElem? (i := 57) rfl, List.forall_mem_cons.mpr ⟨List.mem_of_getElem? (i := 825) rfl, List.forall_mem_cons.mpr ⟨List.mem_of_getElem? (i := 826) rfl, List.forall_mem_cons.mpr ⟨List.mem_of_getElem? (i := 828) rfl, List.forall_mem_cons.mpr ⟨List.mem_of_getElem? (i := 58) rfl, List.forall_mem_cons.mpr ⟨List.mem_of_getElem? (i := 829) rfl, List.forall_mem_cons.mpr ⟨List.mem_of_getElem? (i := 442) rfl, List.forall_mem_cons.mpr ⟨List.mem_of_getElem? (i := 443) rfl, List.forall_mem_cons.mpr ⟨List.mem_of_getElem? (i := 444) rfl, List.forall_mem_cons.mpr ⟨List.mem_of_getElem? (i := 445) rfl, List.forall_mem_cons.mpr ⟨List.mem_of_getElem? (i := 830) rfl, List.forall_mem_cons.mpr ⟨List.mem_of_getElem? (i := 831) rfl, List.forall_mem_cons.mpr ⟨List.mem_of_getElem? (i := 832) rfl, List.forall_mem_cons.mpr ⟨List.mem_of_getElem? (i := 833) rfl, List.forall_mem_cons.mpr ⟨List.mem_of_getElem? (i := 446) rfl, List.forall_mem_cons.mpr ⟨List.mem_of_getElem? (i := 447) rfl, List.forall_mem_cons.mpr ⟨List.mem_of_getElem? (i := 448) rfl, List.forall_mem_cons.mpr ⟨List.mem_of_getElem? (i := 449) rfl, List.forall_mem_cons.mpr ⟨List.mem_of_getElem? (i := 222) rfl, List.forall_mem_cons.mpr ⟨List.mem_of_getElem? (i := 221) rfl, fun _ h => absurd h List.not_mem_nil⟩⟩⟩⟩⟩⟩⟩⟩⟩⟩⟩⟩⟩⟩⟩⟩⟩⟩⟩⟩⟩⟩⟩⟩
set_option maxRecDepth 100000 in
theorem tL_22 : ∀ w ∈ wsL_law_r22, w ∈ lw_tbl := List.forall_mem_cons.mpr ⟨List.mem_of_getElem? (i := 450) rfl, List.forall_mem_cons.mpr ⟨List.mem_of_getElem? (i := 452) rfl, List.forall_mem_cons.mpr ⟨List.mem_of_getElem? (i := 20) rfl, List.forall_mem_cons.mpr ⟨List.mem_of_getElem? (i := 453) rfl, List.forall_mem_cons.mpr ⟨List.mem_of_getElem? (i := 454) rfl, List.forall_mem_cons.mpr ⟨List.mem_of_getElem? (i := 456) rfl, List.forall_mem_cons.mpr ⟨List.mem_of_getElem? (i := 21) rfl, List.forall_mem_cons.mpr ⟨List.mem_of_getElem? (i := 457) rfl, List.forall_mem_cons.mpr ⟨List.mem_of_getElem? (i := 458) rfl, List.forall_mem_cons.mpr ⟨List.mem_of_getElem? (i := 460) rfl, List.forall_mem_cons.mpr ⟨List.mem_of_getElem? (i := 22) rfl, List.forall_mem_cons.mpr ⟨List.mem_of_getElem? (i := 461) rfl, List.forall_mem_cons.mpr ⟨List.mem_of_getElem? (i := 462) rfl, List.forall_mem_cons.mpr ⟨List.mem_of_getElem? (i := 834) rfl, List.forall_mem_cons.mpr ⟨List.mem_of_getElem? (i := 835) rfl, List.forall_mem_cons.mpr ⟨List.mem_of_getElem? (i := 836) rfl, List.forall_mem_cons.mpr ⟨List.mem_of_getElem? (i := 837) rfl, List.forall_mem_cons.mpr ⟨List.mem_of_getElem? (i := 838) rfl, List.forall_mem_cons.mpr ⟨List.mem_of_getElem? (i := 840) rfl, List.forall_mem_cons.mpr ⟨List.mem_of_getElem? (i := 59) rfl, List.forall_mem_cons.mpr ⟨List.mem_of_getElem? (i := 841) rfl, List.forall_mem_cons.mpr ⟨List.mem_of_getElem? (i := 842) rfl, List.forall_mem_cons.mpr ⟨List.mem_of_getElem? (i := 844) rfl, List.forall_mem_cons.mpr ⟨List.mem_of_getElem? (i := 60) rfl, fun _ h => absurd h List.not_mem_nil⟩⟩⟩⟩⟩⟩⟩⟩⟩⟩⟩⟩⟩⟩⟩⟩⟩⟩⟩⟩⟩⟩⟩⟩
set_option maxRecDepth 100000 in
theorem tL_23 : ∀ w ∈ wsL_law_r23, w ∈ lw_tbl := List.forall_mem_cons.mpr ⟨List.mem_of_getElem? (i := 845) rfl, List.forall_mem_cons.mpr ⟨List.mem_of_getElem? (i := 846) rfl, List.forall_mem_cons.mpr ⟨List.mem_of_getElem? (i := 463) rfl, List.forall_mem_cons.mpr ⟨List.mem_of_getElem? (i := 464) rfl, List.forall_mem_cons.mpr ⟨List.mem_of_getElem? (i := 465) rfl, List.forall_mem_cons.mpr ⟨List.mem_of_getElem? (i := 466) rfl, List.forall_mem_cons.mpr ⟨List.mem_of_getElem? (i := 467) rfl, List.forall_mem_cons.mpr ⟨List.mem_of_getElem? (i := 469) rfl, List.forall_mem_cons.mpr ⟨List.mem_of_getElem? (i := 23) rfl, List.forall_mem_cons.mpr ⟨List.mem_of_getElem? (i := 470) rfl, List.forall_mem_cons.mpr ⟨List.mem_of_getElem? (i := 471) rfl, List.forall_mem_cons.mpr ⟨List.mem_of_getElem? (i := 473) rfl, List.forall_mem_cons.mpr ⟨List.mem_of_getElem? (i := 24) rfl, List.forall_mem_cons.mpr ⟨List.mem_of_getElem? (i := 474) rfl, List.forall_mem_cons.mpr ⟨List.mem_of_getElem? (i := 475) rfl, List.forall_mem_cons.mpr ⟨List.mem_of_getElem? (i := 477) rfl, List.forall_mem_cons.mpr ⟨List.mem_of_getElem? (i := 25) rfl, List.forall_mem_cons.mpr ⟨List.mem_of_getElem? (i := 478) rfl, List.forall_mem_cons.mpr ⟨List.mem_of_getElem? (i := 847) rfl, List.forall_mem_cons.mpr ⟨List.mem_of_getElem? (i := 848) rfl, List.forall_mem_cons.mpr ⟨List.mem_of_getElem? (i := 849) rfl, List.forall_mem_cons.mpr ⟨List.mem_of_getElem? (i := 850) rfl, List.forall_mem_cons.mpr ⟨List.mem_of_getElem? (i := 479) rfl, List.forall_mem_cons.mpr ⟨List.mem_of_getElem? (i := 480) rfl, fun _ h => absurd h List.not_mem_nil⟩⟩⟩⟩⟩⟩⟩⟩⟩⟩⟩⟩⟩⟩⟩⟩⟩⟩⟩⟩⟩⟩⟩⟩
set_option maxRecDepth 100000 in
theorem tL_24 : ∀ w ∈ wsL_law_r24, w ∈ lw_tbl := List.forall_mem_cons.mpr ⟨List.mem_of_getElem? (i := 481) rfl, List.forall_mem_cons.mpr ⟨List.mem_of_getElem? (i := 482) rfl, List.forall_mem_cons.mpr ⟨List.mem_of_getElem? (i := 851) rfl, List.forall_mem_cons.mpr ⟨List.mem_of_getElem? (i := 852) rfl, List.forall_mem_cons.mpr ⟨List.mem_of_getElem? (i := 853) rfl, List.forall_mem_cons.mpr ⟨List.mem_of_getElem? (i := 854) rfl, List.forall_mem_cons.mpr ⟨List.mem_of_getElem? (i := 483) rfl, List.forall_mem_cons.mpr ⟨List.mem_of_getElem? (i := 484) rfl, List.forall_mem_cons.mpr ⟨List.mem_of_getElem? (i := 485) rfl, List.forall_mem_cons.mpr ⟨List.mem_of_getElem? (i := 486) rfl, List.forall_mem_cons.mpr ⟨List.mem_of_getElem? (i := 855) rfl, List.forall_mem_cons.mpr ⟨List.mem_of_getElem? (i := 856) rfl, List.forall_mem_cons.mpr ⟨List.mem_of_getElem? (i := 857) rfl, List.forall_mem_cons.mpr ⟨List.mem_of_getElem? (i := 858) rfl, List.forall_mem_cons.mpr ⟨List.mem_of_getElem? (i := 487) rfl, List.forall_mem_cons.mpr ⟨List.mem_of_getElem? (i := 488) rfl, List.forall_mem_cons.mpr ⟨List.mem_of_getElem? (i := 489) rfl, List.forall_mem_cons.mpr ⟨List.mem_of_getElem? (i := 490) rfl, List.forall_mem_cons.mpr ⟨List.mem_of_getElem? (i := 491) rfl, List.forall_mem_cons.mpr ⟨List.mem_of_getElem? (i := 493) rfl, List.forall_mem_cons.mpr ⟨List.mem_of_getElem? (i := 26) rfl, List.forall_mem_cons.mpr ⟨List.mem_of_getElem? (i := 494) rfl, List.forall_mem_cons.mpr ⟨List.mem_of_getElem? (i := 859) rfl, List.forall_mem_cons.mpr ⟨List.mem_of_getElem? (i := 860) rfl, fun _ h => absurd h List.not_mem_nil⟩⟩⟩⟩⟩⟩⟩⟩⟩⟩⟩⟩⟩⟩⟩⟩⟩⟩⟩⟩⟩⟩⟩⟩
set_option maxRecDepth 100000 in
theorem tL_25 : ∀ w ∈ wsL_law_r25, w ∈ lw_tbl := List.forall_mem_cons.mpr ⟨List.mem_of_getElem? (i := 861) rfl, List.forall_mem_cons.mpr ⟨List.mem_of_getElem? (i := 862) rfl, List.forall_mem_cons.mpr ⟨List.mem_of_getElem? (i := 495) rfl, List.forall_mem_cons.mpr ⟨List.mem_of_getElem? (i := 496) rfl, List.forall_mem_cons.mpr ⟨List.mem_of_getElem? (i := 497) rfl, List.forall_mem_cons.mpr ⟨List.mem_of_getElem? (i := 498) rfl, List.forall_mem_cons.mpr ⟨List.mem_of_getElem? (i := 499) rfl, List.forall_mem_cons.mpr ⟨List.mem_of_getElem? (i := 500) rfl, List.forall_mem_cons.mpr ⟨List.mem_of_getElem? (i := 501) rfl, List.forall_mem_cons.mpr ⟨List.mem_of_getElem? (i := 502) rfl, List.forall_mem_cons.mpr ⟨List.mem_of_getElem? (i := 504) rfl, List.forall_mem_cons.mpr ⟨List.mem_of_getElem? (i := 27) rfl, List.forall_mem_cons.mpr ⟨List.mem_of_getElem? (i := 505) rfl, List.forall_mem_cons.mpr ⟨List.mem_of_getElem? (i := 506) rfl, List.forall_mem_cons.mpr ⟨List.mem_of_getElem? (i := 507) rfl, List.forall_mem_cons.mpr ⟨List.mem_of_getElem? (i := 508) rfl, List.forall_mem_cons.mpr ⟨List.mem_of_getElem? (i := 863) rfl, List.forall_mem_cons.mpr ⟨List.mem_of_getElem? (i := 864) rfl, List.forall_mem_cons.mpr ⟨List.mem_of_getElem? (i := 865) rfl, List.forall_mem_cons.mpr ⟨List.mem_of_getElem? (i := 866) rfl, List.forall_mem_cons.mpr ⟨List.mem_of_getElem? (i := 867) rfl, List.forall_mem_cons.mpr ⟨List.mem_of_getElem? (i := 868) rfl, List.forall_mem_cons.mpr ⟨List.mem_of_getElem? (i := 869) rfl, List.forall_mem_cons.mpr ⟨List.mem_of_getElem? (i := 870) rfl, fun _ h => absurd h List.not_mem_nil⟩⟩⟩⟩⟩⟩⟩⟩⟩⟩⟩⟩⟩⟩⟩⟩⟩⟩⟩⟩⟩⟩⟩⟩
set_option maxRecDepth 100000 in
theorem tL_26 : ∀ w ∈ wsL_law_r26, w ∈ lw_tbl := List.forall_mem_cons.mpr ⟨List.mem_of_getElem? (i := 871) rfl, List.forall_mem_cons.mpr ⟨List.mem_of_getElem? (i := 872) rfl, List.forall_mem_cons.mpr ⟨List.mem_of_getElem? (i := 509) rfl, List.forall_mem_cons.mpr ⟨List.mem_of_getElem? (i := 510) rfl, List.forall_mem_cons.mpr ⟨List.mem_of_getElem? (i := 511) rfl, List.forall_mem_cons.mpr ⟨List.mem_of_getElem? (i := 512) rfl, List.forall_mem_cons.mpr ⟨List.mem_of_getElem? (i := 873) rfl, List.forall_mem_cons.mpr ⟨List.mem_of_getElem? (i := 874) rfl, List.forall_mem_cons.mpr ⟨List.mem_of_getElem? (i := 875) rfl, List.forall_mem_cons.mpr ⟨List.mem_of_getElem? (i := 876) rfl, List.forall_mem_cons.mpr ⟨List.mem_of_getElem? (i := 513) rfl, List.forall_mem_cons.mpr ⟨List.mem_of_getElem? (i := 514) rfl, List.forall_mem_cons.mpr ⟨List.mem_of_getElem? (i := 515) rfl, List.forall_mem_cons.mpr ⟨List.mem_of_getElem? (i := 516) rfl, List.forall_mem_cons.mpr ⟨List.mem_of_getElem? (i := 517) rfl, List.forall_mem_cons.mpr ⟨List.mem_of_getElem? (i := 519) rfl, List.forall_mem_cons.mpr ⟨List.mem_of_getElem? (i := 28) rfl, List.forall_mem_cons.mpr ⟨List.mem_of_getElem? (i := 520) rfl, List.forall_mem_cons.mpr ⟨List.mem_of_getElem? (i := 877) rfl, List.forall_mem_cons.mpr ⟨List.mem_of_getElem? (i := 878) rfl, List.forall_mem_cons.mpr ⟨List.mem_of_getElem? (i := 879) rfl, List.forall_mem_cons.mpr ⟨List.mem_of_getElem? (i := 880) rfl, List.forall_mem_cons.mpr ⟨List.mem_of_getElem? (i := 521) rfl, List.forall_mem_cons.mpr ⟨List.mem_of_getElem? (i := 522) rfl, fun _ h => absurd h List.not_mem_nil⟩⟩⟩⟩⟩⟩⟩⟩⟩⟩⟩⟩⟩⟩⟩⟩⟩⟩⟩⟩⟩⟩⟩⟩
set_option maxRecDepth 100000 in
theorem tL_27 : ∀ w ∈ wsL_law_r27, w ∈ lw_tbl := List.forall_mem_cons.mpr ⟨List.mem_of_getElem? (i := 523) rfl, List.forall_mem_cons.mpr ⟨List.mem_of_getElem? (i := 524) rfl, List.forall_mem_cons.mpr ⟨List.mem_of_getElem? (i := 881) rfl, List.forall_mem_cons.mpr ⟨List.mem_of_getElem? (i := 882) rfl, List.forall_mem_cons.mpr ⟨List.mem_of_getElem? (i := 883) rfl, List.forall_mem_cons.mpr ⟨List.mem_of_getElem? (i := 884) rfl, List.forall_mem_cons.mpr ⟨List.mem_of_getElem? (i := 525) rfl, List.forall_mem_cons.mpr ⟨List.mem_of_getElem? (i := 526) rfl, List.forall_mem_cons.mpr ⟨List.mem_of_getElem? (i := 527) rfl, List.forall_mem_cons.mpr ⟨List.mem_of_getElem? (i := 528) rfl, List.forall_mem_cons.mpr ⟨List.mem_of_getElem? (i := 529) rfl, List.forall_mem_cons.mpr ⟨List.mem_of_getElem? (i := 531) rfl, List.forall_mem_cons.mpr ⟨List.mem_of_getElem? (i := 29) rfl, List.forall_mem_cons.mpr ⟨List.mem_of_getElem? (i := 532) rfl, List.forall_mem_cons.mpr ⟨List.mem_of_getElem? (i := 223) rfl, List.forall_mem_cons.mpr ⟨List.mem_of_getElem? (i := 533) rfl, List.forall_mem_cons.mpr ⟨List.mem_of_getElem? (i := 535) rfl, List.forall_mem_cons.mpr ⟨List.mem_of_getElem? (i := 30) rfl, List.forall_mem_cons.mpr ⟨List.mem_of_getElem? (i := 536) rfl, List.forall_mem_cons.mpr ⟨List.mem_of_getElem? (i := 537) rfl, List.forall_mem_cons.mpr ⟨List.mem_of_getElem? (i := 538) rfl, List.forall_mem_cons.mpr ⟨List.mem_of_getElem? (i := 540) rfl, List.forall_mem_cons.mpr ⟨List.mem_of_getElem? (i := 31) rfl, List.forall_mem_cons.mpr ⟨List.mem_of_getElem? (i := 541) rfl, fun _ h => absurd h List.not_mem_nil⟩⟩⟩⟩⟩⟩⟩⟩⟩⟩⟩⟩⟩⟩⟩⟩⟩⟩⟩⟩⟩⟩⟩⟩
set_option maxRecDepth 100000 in
theorem tL_28 : ∀ w ∈ wsL_law_r28, w ∈ lw_tbl := List.forall_mem_cons.mpr ⟨List.mem_of_getElem? (i := 542) rfl, List.forall_mem_cons.mpr ⟨List.mem_of_getElem? (i := 543) rfl, List.forall_mem_cons.mpr ⟨List.mem_of_getElem? (i := 545) rfl, List.forall_mem_cons.mpr ⟨List.mem_of_getElem? (i := 32) rfl, List.forall_mem_cons.mpr ⟨List.mem_of_getElem? (i := 546) rfl, List.forall_mem_cons.mpr ⟨List.mem_of_getElem? (i := 547) rfl, List.forall_mem_cons.mpr ⟨List.mem_of_getElem? (i := 548) rfl, List.forall_mem_cons.mpr ⟨List.mem_of_getElem? (i := 550) rfl, List.forall_mem_cons.mpr ⟨List.mem_of_getElem? (i := 33) rfl, List.forall_mem_cons.mpr ⟨List.mem_of_getElem? (i := 551) rfl, List.forall_mem_cons.mpr ⟨List.mem_of_getElem? (i := 552) rfl, List.forall_mem_cons.mpr ⟨List.mem_of_getElem? (i := 553) rfl, List.forall_mem_cons.mpr ⟨List.mem_of_getElem? (i := 555) rfl, List.forall_mem_cons.mpr ⟨List.mem_of_getElem? (i := 34) rfl, List.forall_mem_cons.mpr ⟨List.mem_of_getElem? (i := 556) rfl, List.forall_mem_cons.mpr ⟨List.mem_of_getElem? (i := 557) rfl, List.forall_mem_cons.mpr ⟨List.mem_of_getElem? (i := 885) rfl, List.forall_mem_cons.mpr ⟨List.mem_of_getElem? (i := 886) rfl, List.forall_mem_cons.mpr ⟨List.mem_of_getElem? (i := 887) rfl, List.forall_mem_cons.mpr ⟨List.mem_of_getElem? (i := 888) rfl, List.forall_mem_cons.mpr ⟨List.mem_of_getElem? (i := 581) rfl, List.forall_mem_cons.mpr ⟨List.mem_of_getElem? (i := 889) rfl, List.forall_mem_cons.mpr ⟨List.mem_of_getElem? (i := 890) rfl, List.forall_mem_cons.mpr ⟨List.mem_of_getElem? (i := 891) rfl, fun _ h => absurd h List.not_mem_nil⟩⟩⟩⟩⟩⟩⟩⟩⟩⟩⟩⟩⟩⟩⟩⟩⟩⟩⟩⟩⟩⟩⟩⟩
set_option maxRecDepth 100000 in
theorem tL_29 : ∀ w ∈ wsL_law_r29, w ∈ lw_tbl := List.forall_mem_cons.mpr ⟨List.mem_of_getElem? (i := 892) rfl, List.forall_mem_cons.mpr ⟨List.mem_of_getElem? (i := 893) rfl, List.forall_mem_cons.mpr ⟨List.mem_of_getElem? (i := 558) rfl, List.forall_mem_cons.mpr ⟨List.mem_of_getElem? (i := 559) rfl, List.forall_mem_cons.mpr ⟨List.mem_of_getElem? (i := 560) rfl, List.forall_mem_cons.mpr ⟨List.mem_of_getElem? (i := 561) rfl, List.forall_mem_cons.mpr ⟨List.mem_of_getElem? (i := 894) rfl, List.forall_mem_cons.mpr ⟨List.mem_of_getElem? (i := 895) rfl, List.forall_mem_cons.mpr ⟨List.mem_of_getElem? (i := 896) rfl, List.forall_mem_cons.mpr ⟨List.mem_of_getElem? (i := 897) rfl, List.forall_mem_cons.mpr ⟨List.mem_of_getElem? (i := 562) rfl, List.forall_mem_cons.mpr ⟨List.mem_of_getElem? (i := 563) rfl, List.forall_mem_cons.mpr ⟨List.mem_of_getElem? (i := 564) rfl, List.forall_mem_cons.mpr ⟨List.mem_of_getElem? (i := 565) rfl, List.forall_mem_cons.mpr ⟨List.mem_of_getElem? (i := 898) rfl, List.forall_mem_cons.mpr ⟨List.mem_of_getElem? (i := 899) rfl, List.forall_mem_cons.mpr ⟨List.mem_of_getElem? (i := 900) rfl, List.forall_mem_cons.mpr ⟨List.mem_of_getElem? (i := 901) rfl, List.forall_mem_cons.mpr ⟨List.mem_of_getElem? (i := 566) rfl, List.forall_mem_cons.mpr ⟨List.mem_of_getElem? (i := 567) rfl, List.forall_mem_cons.mpr ⟨List.mem_of_getElem? (i := 568) rfl, List.forall_mem_cons.mpr ⟨List.mem_of_getElem? (i := 569) rfl, List.forall_mem_cons.mpr ⟨List.mem_of_getElem? (i := 902) rfl, List.forall_mem_cons.mpr ⟨List.mem_of_getElem? (i := 903) rfl, fun _ h => absurd h List.not_mem_nil⟩⟩⟩⟩⟩⟩⟩⟩⟩⟩⟩⟩⟩⟩⟩⟩⟩⟩⟩⟩⟩⟩⟩⟩
set_option maxRecDepth 100000 in
theorem tL_30 : ∀ w ∈ wsL_law_r30, w ∈ lw_tbl := List.forall_mem_cons.mpr ⟨List.mem_of_getElem? (i := 904) rfl, List.forall_mem_cons.mpr ⟨List.mem_of_getElem? (i := 905) rfl, List.forall_mem_cons.mpr ⟨List.mem_of_getElem? (i := 570) rfl, List.forall_mem_cons.mpr ⟨List.mem_of_getElem? (i := 571) rfl, List.forall_mem_cons.mpr ⟨List.mem_of_getElem? (i := 572) rfl, List.forall_mem_cons.mpr ⟨List.mem_of_getElem? (i := 573) rfl, List.forall_mem_cons.mpr ⟨List.mem_of_getElem? (i := 906) rfl, List.forall_mem_cons.mpr ⟨List.mem_of_getElem? (i := 907) rfl, List.forall_mem_cons.mpr ⟨List.mem_of_getElem? (i := 908) rfl, List.forall_mem_cons.mpr ⟨List.mem_of_getElem? (i := 909) rfl, fun _ h => absurd h List.not_mem_nil⟩⟩⟩⟩⟩⟩⟩⟩⟩⟩
set_option maxRecDepth 100000 in
theorem tLy_0 : ∀ w ∈ [u_lay RX0 TX0 0, u_lay RX0 TX0 1, u_lay RX0 TX0 2], w ∈ lw_tbl := List.forall_mem_cons.mpr ⟨List.mem_of_getElem? (i := 198) rfl, List.forall_mem_cons.mpr ⟨List.mem_of_getElem? (i := 200) rfl, List.forall_mem_cons.mpr ⟨List.mem_of_getElem? (i := 202) rfl, fun _ h => absurd h List.not_mem_nil⟩⟩⟩
theorem tLY_0 : ∀ w ∈ wsX00, w ∈ lw_tbl := tLy_0
set_option maxRecDepth 100000 in
theorem tLy_1 : ∀ w ∈ [u_lay RX1 TX1 0, u_lay RX1 TX1 1, u_lay RX1 TX1 2, u_lay RX1 TX1 3, u_lay RX1 TX1 4, u_lay RX1 TX1 5, u_lay RX1 TX1 6], w ∈ lw_tbl := List.forall_mem_cons.mpr ⟨List.mem_of_getElem? (i := 170) rfl, List.forall_mem_cons.mpr ⟨List.mem_of_getElem? (i := 172) rfl, List.forall_mem_cons.mpr ⟨List.mem_of_getElem? (i := 174) rfl, List.forall_mem_cons.mpr ⟨List.mem_of_getElem? (i := 176) rfl, List.forall_mem_cons.mpr ⟨List.mem_of_getElem? (i := 178) rfl, List.forall_mem_cons.mpr ⟨List.mem_of_getElem? (i := 180) rfl, List.forall_mem_cons.mpr ⟨List.mem_of_getElem? (i := 182) rfl, fun _ h => absurd h List.not_mem_nil⟩⟩⟩⟩⟩⟩⟩
theorem tLY_1 : ∀ w ∈ wsX10, w ∈ lw_tbl := tLy_1
set_option maxRecDepth 100000 in
theorem tLy_2 : ∀ w ∈ [u_lay RX2 TX2 0, u_lay RX2 TX2 1, u_lay RX2 TX2 2, u_lay RX2 TX2 3, u_lay RX2 TX2 4], w ∈ lw_tbl := List.forall_mem_cons.mpr ⟨List.mem_of_getElem? (i := 91) rfl, List.forall_mem_cons.mpr ⟨List.mem_of_getElem? (i := 93) rfl, List.forall_mem_cons.mpr ⟨List.mem_of_getElem? (i := 95) rfl, List.forall_mem_cons.mpr ⟨List.mem_of_getElem? (i := 97) rfl, List.forall_mem_cons.mpr ⟨List.mem_of_getElem? (i := 99) rfl, fun _ h => absurd h List.not_mem_nil⟩⟩⟩⟩⟩
theorem tLY_2 : ∀ w ∈ wsX20, w ∈ lw_tbl := tLy_2
set_option maxRecDepth 100000 in
theorem tLy_3 : ∀ w ∈ [u_lay RX3 TX3 0, u_lay RX3 TX3 1, u_lay RX3 TX3 2, u_lay RX3 TX3 3, u_lay RX3 TX3 4, u_lay RX3 TX3 5, u_lay RX3 TX3 6, u_lay RX3 TX3 7], w ∈ lw_tbl := List.forall_mem_cons.mpr ⟨List.mem_of_getElem? (i := 133) rfl, List.forall_mem_cons.mpr ⟨List.mem_of_getElem? (i := 135) rfl, List.forall_mem_cons.mpr ⟨List.mem_of_getElem? (i := 137) rfl, List.forall_mem_cons.mpr ⟨List.mem_of_getElem? (i := 139) rfl, List.forall_mem_cons.mpr ⟨List.mem_of_getElem? (i := 141) rfl, List.forall_mem_cons.mpr ⟨List.mem_of_getElem? (i := 143) rfl, List.forall_mem_cons.mpr ⟨List.mem_of_getElem? (i := 145) rfl, List.forall_mem_cons.mpr ⟨List.mem_of_getElem? (i := 147) rfl, fun _ h => absurd h List.not_mem_nil⟩⟩⟩⟩⟩⟩⟩⟩
theorem tLY_3 : ∀ w ∈ wsX30, w ∈ lw_tbl := tLy_3
set_option maxRecDepth 100000 in
theorem tLy_4 : ∀ w ∈ [u_lay RX4 TX4 0, u_lay RX4 TX4 1, u_lay RX4 TX4 2, u_lay RX4 TX4 3, u_lay RX4 TX4 4, u_lay RX4 TX4 5, u_lay RX4 TX4 6, u_lay RX4 TX4 7, u_lay RX4 TX4 8, u_lay RX4 TX4 9, u_lay RX4 TX4 10, u_lay RX4 TX4 11, u_lay RX4 TX4 12, u_lay RX4 TX4 13, u_lay RX4 TX4 14], w ∈ lw_tbl := List.forall_mem_cons.mpr ⟨List.mem_of_getElem? (i := 224) rfl, List.forall_mem_cons.mpr ⟨List.mem_of_getElem? (i := 226) rfl, List.forall_mem_cons.mpr ⟨List.mem_of_getElem? (i := 228) rfl, List.forall_mem_cons.mpr ⟨List.mem_of_getElem? (i := 230) rfl, List.forall_mem_cons.mpr ⟨List.mem_of_getElem? (i := 232) rfl, List.forall_mem_cons.mpr ⟨List.mem_of_getElem? (i := 234) rfl, List.forall_mem_cons.mpr ⟨List.mem_of_getElem? (i := 236) rfl, List.forall_mem_cons.mpr ⟨List.mem_of_getElem? (i := 238) rfl, List.forall_mem_cons.mpr ⟨List.mem_of_getElem? (i := 240) rfl, List.forall_mem_cons.mpr ⟨List.mem_of_getElem? (i := 242) rfl, List.forall_mem_cons.mpr ⟨List.mem_of_getElem? (i := 244) rfl, List.forall_mem_cons.mpr ⟨List.mem_of_getElem? (i := 246) rfl, List.forall_mem_cons.mpr ⟨List.mem_of_getElem? (i := 248) rfl, List.forall_mem_cons.mpr ⟨List.mem_of_getElem? (i := 250) rfl, List.forall_mem_cons.mpr ⟨List.mem_of_getElem? (i := 252) rfl, fun _ h => absurd h List.not_mem_nil⟩⟩⟩⟩⟩⟩⟩⟩⟩⟩⟩⟩⟩⟩⟩
theorem tLY_4 : ∀ w ∈ wsX40, w ∈ lw_tbl := tLy_4
set_option maxRecDepth 100000 in
theorem tLy_5 : ∀ w ∈ [u_lay RX5 TX5 0, u_lay RX5 TX5 1, u_lay RX5 TX5 2, u_lay RX5 TX5 3, u_lay RX5 TX5 4, u_lay RX5 TX5 5, u_lay RX5 TX5 6, u_lay RX5 TX5 7, u_lay RX5 TX5 8, u_lay RX5 TX5 9, u_lay RX5 TX5 10, u_lay RX5 TX5 11, u_lay RX5 TX5 12, u_lay RX5 TX5 13, u_lay RX5 TX5 14, u_lay RX5 TX5 15, u_lay RX5 TX5 16, u_lay RX5 TX5 17, u_lay RX5 TX5 18, u_lay RX5 TX5 19, u_lay RX5 TX5 20, u_lay RX5 TX5 21, u_lay RX5 TX5 22, u_lay RX5 TX5 23, u_lay RX5 TX5 24, u_lay RX5 TX5 25, u_lay RX5 TX5 26], w ∈ lw_tbl := List.forall_mem_cons.mpr ⟨List.mem_of_getElem? (i := 607) rfl, List.forall_mem_cons.mpr ⟨List.mem_of_getElem? (i := 609) rfl, List.forall_mem_cons.mpr ⟨List.mem_of_getElem? (i := 611) rfl, List.forall_mem_cons.mpr ⟨List.mem_of_getElem? (i := 613) rfl, List.forall_mem_cons.mpr ⟨List.mem_of_getElem? (i := 615) rfl, List.forall_mem_cons.mpr ⟨List.mem_of_getElem? (i := 617) rfl, List.forall_mem_cons.mpr ⟨List.mem_of_getElem? (i := 619) rfl, List.forall_mem_cons.mpr ⟨List.mem_of_getElem? (i := 621) rfl, List.forall_mem_cons.mpr ⟨List.mem_of_getElem? (i := 623) rfl, List.forall_mem_cons.mpr ⟨List.mem_of_getElem? (i := 625) rfl, List.forall_mem_cons.mpr ⟨List.mem_of_getElem? (i := 627) rfl, List.forall_mem_cons.mpr ⟨List.mem_of_getElem? (i := 629) rfl, List.forall_mem_cons.mpr ⟨List.mem_of_getElem? (i := 631) rfl, List.forall_mem_cons.mpr ⟨List.mem_of_getElem? (i := 633) rfl, List.forall_mem_cons.mpr ⟨List.mem_of_getElem? (i := 635) rfl, List.forall_mem_cons.mpr ⟨List.mem_of_getElem? (i := 637) rfl, List.forall_mem_cons.mpr ⟨List.mem_of_getElem? (i := 639) rfl, List.forall_mem_cons.mpr ⟨List.mem_of_getElem? (i := 641) rfl, List.forall_mem_cons.mpr ⟨List.mem_of_getElem? (i := 643) rfl, List.forall_mem_cons.mpr ⟨List.mem_of_getElem? (i := 645) rfl, List.forall_mem_cons.mpr ⟨List.mem_of_getElem? (i := 647) rfl, List.forall_mem_cons.mpr ⟨List.mem_of_getElem? (i := 649) rfl, List.forall_mem_cons.mpr ⟨List.mem_of_getElem? (i := 651) rfl, List.forall_mem_cons.mpr ⟨List.mem_of_getElem? (i := 653) rfl, List.forall_mem_cons.mpr ⟨List.mem_of_getElem? (i := 655) rfl, List.forall_mem_cons.mpr ⟨List.mem_of_getElem? (i := 657) rfl, List.forall_mem_cons.mpr ⟨List.mem_of_getElem? (i := 659) rfl, fun _ h => absurd h List.not_mem_nil⟩⟩⟩⟩⟩⟩⟩⟩⟩⟩⟩⟩⟩⟩⟩⟩⟩⟩⟩⟩⟩⟩⟩⟩⟩⟩⟩
theorem tLY_5 : ∀ w ∈ wsX50, w ∈ lw_tbl := tLy_5
theorem wsL_law_in : ∀ w ∈ wsL_law, w ∈ lw_tbl := List.forall_mem_append.mpr ⟨List.forall_mem_append.mpr ⟨List.forall_mem_append.mpr ⟨List.forall_mem_append.mpr ⟨List.forall_mem_append.mpr ⟨List.forall_mem_append.mpr ⟨List.forall_mem_append.mpr ⟨List.forall_mem_append.mpr ⟨tL_1, List.forall_mem_append.mpr ⟨tL_2, List.forall_mem_append.mpr ⟨tL_3, List.forall_mem_append.mpr ⟨tL_4, List.forall_mem_append.mpr ⟨tL_5, List.forall_mem_append.mpr ⟨tL_6, List.forall_mem_append.mpr ⟨tL_7, List.forall_mem_append.mpr ⟨tL_8, List.forall_mem_append.mpr ⟨tL_9, List.forall_mem_append.mpr ⟨tL_10, List.forall_mem_append.mpr ⟨tL_11, List.forall_mem_append.mpr ⟨tL_12, List.forall_mem_append.mpr ⟨tL_13, List.forall_mem_append.mpr ⟨tL_14, List.forall_mem_append.mpr ⟨tL_15, List.forall_mem_append.mpr ⟨tL_16, List.forall_mem_append.mpr ⟨tL_17, List.forall_mem_append.mpr ⟨tL_18, List.forall_mem_append.mpr ⟨tL_19, List.forall_mem_append.mpr ⟨tL_20, List.forall_mem_append.mpr ⟨tL_21, List.forall_mem_append.mpr ⟨tL_22, List.forall_mem_append.mpr ⟨tL_23, List.forall_mem_append.mpr ⟨tL_24, List.forall_mem_append.mpr ⟨tL_25, List.forall_mem_append.mpr ⟨tL_26, List.forall_mem_append.mpr ⟨tL_27, List.forall_mem_append.mpr ⟨tL_28, List.forall_mem_append.mpr ⟨tL_29, tL_30⟩⟩⟩⟩⟩⟩⟩⟩⟩⟩⟩⟩⟩⟩⟩⟩⟩⟩⟩⟩⟩⟩⟩⟩⟩⟩⟩⟩⟩, tLY_4⟩, tLY_5⟩, tLY_2⟩, tLY_3⟩, tLY_1⟩, tLY_0⟩, fun _ h => absurd h List.not_mem_nil⟩
theorem inlX0 : ∀ w ∈ wsX00, w ∈ wsL_law := fun _ h => List.mem_append_left _ (List.mem_append_right _ h)
theorem inlX1 : ∀ w ∈ wsX10, w ∈ wsL_law := fun _ h => List.mem_append_left _ (List.mem_append_left _ (List.mem_append_right _ h))
theorem inlX2 : ∀ w ∈ wsX20, w ∈ wsL_law := fun _ h => List.mem_append_left _ (List.mem_append_left _ (List.mem_append_left _ (List.mem_append_left _ (List.mem_append_right _ h))))
theorem inlX3 : ∀ w ∈ wsX30, w ∈ wsL_law := fun _ h => List.mem_append_left _ (List.mem_append_left _ (List.mem_append_left _ (List.mem_append_right _ h)))
theorem inlX4 : ∀ w ∈ wsX40, w ∈ wsL_law := fun _ h => List.mem_append_left _ (List.mem_append_left _ (List.mem_append_left _ (List.mem_append_left _ (List.mem_append_left _ (List.mem_append_left _ (List.mem_append_right _ h))))))
theorem inlX5 : ∀ w ∈ wsX50, w ∈ wsL_law := fun _ h => List.mem_append_left _ (List.mem_append_left _ (List.mem_append_left _ (List.mem_append_left _ (List.mem_append_left _ (List.mem_append_right _ h)))))
abbrev vwCl : List vw_C := [(RX0, TX0, 3), (RX1, TX1, 7), (RX2, TX2, 5), (RX3, TX3, 8), (RX4, TX4, 15), (RX5, TX5, 27)]
