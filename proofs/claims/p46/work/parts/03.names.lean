def RX0 : String := "Ninewheel$LongNumber"
def TX0 : u_T := fun k => match k with
  | _ => ("Ninewheel$LongNumber", "row", "[I", true)
def tyX0 : Nat → FieldType := fun k => match k with
  | _ => .array .int
abbrev wsX00 : List Cond := u_ws RX0 TX0 1
theorem nmX0 : ∀ a, a < 1 → ∀ b, b < 1 → a ≠ b → (TX0 a).2.1 ≠ (TX0 b).2.1 := by decide +kernel
theorem tyX0_ok : ∀ k, k < 1 → parseFieldDescriptor (TX0 k).2.2.1 = some (tyX0 k) := by decide +kernel
abbrev cX0_init : ByteArray := prog_2_method_1_code
def yX0_init : MethodName := ⟨RX0, "<init>", "()V"⟩
abbrev cX0_clear : ByteArray := prog_2_method_2_code
def yX0_clear : MethodName := ⟨RX0, "clear", "()V"⟩
abbrev cX0_raise : ByteArray := prog_2_method_3_code
def yX0_raise : MethodName := ⟨RX0, "raise", "(II)V"⟩
abbrev cX0_carry : ByteArray := prog_2_method_4_code
def yX0_carry : MethodName := ⟨RX0, "carry", "()V"⟩
abbrev cX0_becomeNines : ByteArray := prog_2_method_5_code
def yX0_becomeNines : MethodName := ⟨RX0, "becomeNines", "(II)V"⟩
abbrev cX0_isLike : ByteArray := prog_2_method_6_code
def yX0_isLike : MethodName := ⟨RX0, "isLike", "(LNinewheel$LongNumber;)Z"⟩
abbrev cX0_written : ByteArray := prog_2_method_7_code
def yX0_written : MethodName := ⟨RX0, "written", "()Ljava/lang/String;"⟩
def RX1 : String := "Ninewheel"
def TX1 : u_T := fun k => match k with
  | 0 => ("Ninewheel", "counts", "[I", true)
  | 1 => ("Ninewheel", "points", "[I", true)
  | 2 => ("Ninewheel", "tops", "[I", true)
  | 3 => ("Ninewheel", "bottoms", "[I", true)
  | 4 => ("Ninewheel", "turned", "[I", true)
  | 5 => ("Ninewheel", "lengths", "[I", true)
  | 6 => ("Ninewheel", "tallies", "[I", true)
  | 7 => ("Ninewheel", "work", "LNinewheel$LongNumber;", true)
  | _ => ("Ninewheel", "measure", "LNinewheel$LongNumber;", true)
def tyX1 : Nat → FieldType := fun k => match k with
  | 0 => .array .int
  | 1 => .array .int
  | 2 => .array .int
  | 3 => .array .int
  | 4 => .array .int
  | 5 => .array .int
  | 6 => .array .int
  | 7 => .object "Ninewheel$LongNumber"
  | _ => .object "Ninewheel$LongNumber"
abbrev wsX10 : List Cond := u_ws RX1 TX1 9
theorem nmX1 : ∀ a, a < 9 → ∀ b, b < 9 → a ≠ b → (TX1 a).2.1 ≠ (TX1 b).2.1 := by decide +kernel
theorem tyX1_ok : ∀ k, k < 9 → parseFieldDescriptor (TX1 k).2.2.1 = some (tyX1 k) := by decide +kernel
abbrev cX1_init : ByteArray := prog_1_method_1_code
def yX1_init : MethodName := ⟨RX1, "<init>", "()V"⟩
abbrev cX1_put : ByteArray := prog_1_method_2_code
def yX1_put : MethodName := ⟨RX1, "put", "(III)I"⟩
abbrev cX1_write : ByteArray := prog_1_method_3_code
def yX1_write : MethodName := ⟨RX1, "write", "(IZIII)I"⟩
abbrev cX1_copy : ByteArray := prog_1_method_4_code
def yX1_copy : MethodName := ⟨RX1, "copy", "(II)I"⟩
abbrev cX1_negate : ByteArray := prog_1_method_5_code
def yX1_negate : MethodName := ⟨RX1, "negate", "(I)I"⟩
abbrev cX1_size : ByteArray := prog_1_method_6_code
def yX1_size : MethodName := ⟨RX1, "size", "(I)I"⟩
abbrev cX1_add : ByteArray := prog_1_method_7_code
def yX1_add : MethodName := ⟨RX1, "add", "(III)I"⟩
abbrev cX1_subtract : ByteArray := prog_1_method_8_code
def yX1_subtract : MethodName := ⟨RX1, "subtract", "(III)I"⟩
abbrev cX1_multiply : ByteArray := prog_1_method_9_code
def yX1_multiply : MethodName := ⟨RX1, "multiply", "(III)I"⟩
abbrev cX1_power : ByteArray := prog_1_method_10_code
def yX1_power : MethodName := ⟨RX1, "power", "(III)I"⟩
abbrev cX1_divide : ByteArray := prog_1_method_11_code
def yX1_divide : MethodName := ⟨RX1, "divide", "(IIIII)I"⟩
abbrev cX1_share : ByteArray := prog_1_method_12_code
def yX1_share : MethodName := ⟨RX1, "share", "(III)I"⟩
abbrev cX1_whole : ByteArray := prog_1_method_13_code
def yX1_whole : MethodName := ⟨RX1, "whole", "(III)I"⟩
abbrev cX1_rest : ByteArray := prog_1_method_14_code
def yX1_rest : MethodName := ⟨RX1, "rest", "(III)I"⟩
abbrev cX1_setPlaces : ByteArray := prog_1_method_15_code
def yX1_setPlaces : MethodName := ⟨RX1, "setPlaces", "(III)I"⟩
abbrev cX1_strip : ByteArray := prog_1_method_16_code
def yX1_strip : MethodName := ⟨RX1, "strip", "(I)I"⟩
abbrev cX1_move : ByteArray := prog_1_method_17_code
def yX1_move : MethodName := ⟨RX1, "move", "(II)I"⟩
abbrev cX1_round : ByteArray := prog_1_method_18_code
def yX1_round : MethodName := ⟨RX1, "round", "(III)I"⟩
abbrev cX1_greater : ByteArray := prog_1_method_19_code
def yX1_greater : MethodName := ⟨RX1, "greater", "(III)I"⟩
abbrev cX1_lesser : ByteArray := prog_1_method_20_code
def yX1_lesser : MethodName := ⟨RX1, "lesser", "(III)I"⟩
abbrev cX1_cut : ByteArray := prog_1_method_21_code
def yX1_cut : MethodName := ⟨RX1, "cut", "(IZIII)I"⟩
abbrev cX1_count : ByteArray := prog_1_method_22_code
def yX1_count : MethodName := ⟨RX1, "count", "(I)I"⟩
abbrev cX1_places : ByteArray := prog_1_method_23_code
def yX1_places : MethodName := ⟨RX1, "places", "(I)I"⟩
abbrev cX1_digits : ByteArray := prog_1_method_24_code
def yX1_digits : MethodName := ⟨RX1, "digits", "(I)I"⟩
abbrev cX1_sign : ByteArray := prog_1_method_25_code
def yX1_sign : MethodName := ⟨RX1, "sign", "(I)I"⟩
abbrev cX1_text : ByteArray := prog_1_method_26_code
def yX1_text : MethodName := ⟨RX1, "text", "(II)Ljava/lang/String;"⟩
abbrev cX1_order : ByteArray := prog_1_method_27_code
def yX1_order : MethodName := ⟨RX1, "order", "(II)I"⟩
abbrev cX1_same : ByteArray := prog_1_method_28_code
def yX1_same : MethodName := ⟨RX1, "same", "(II)Z"⟩
abbrev cX1_setWheel : ByteArray := prog_1_method_29_code
def yX1_setWheel : MethodName := ⟨RX1, "setWheel", "(III)I"⟩
abbrev cX1_step : ByteArray := prog_1_method_30_code
def yX1_step : MethodName := ⟨RX1, "step", "(I)I"⟩
abbrev cX1_turn : ByteArray := prog_1_method_31_code
def yX1_turn : MethodName := ⟨RX1, "turn", "(II)I"⟩
abbrev cX1_times : ByteArray := prog_1_method_32_code
def yX1_times : MethodName := ⟨RX1, "times", "(III)I"⟩
abbrev cX1_spoke : ByteArray := prog_1_method_33_code
def yX1_spoke : MethodName := ⟨RX1, "spoke", "(II)I"⟩
abbrev cX1_lowest : ByteArray := prog_1_method_34_code
def yX1_lowest : MethodName := ⟨RX1, "lowest", "(I)I"⟩
abbrev cX1_tens : ByteArray := prog_1_method_35_code
def yX1_tens : MethodName := ⟨RX1, "tens", "(I)I"⟩
abbrev cX1_restAt : ByteArray := prog_1_method_36_code
def yX1_restAt : MethodName := ⟨RX1, "restAt", "(II)I"⟩
abbrev cX1_digitsFrom : ByteArray := prog_1_method_37_code
def yX1_digitsFrom : MethodName := ⟨RX1, "digitsFrom", "(III)Ljava/lang/String;"⟩
abbrev cX1_cutText : ByteArray := prog_1_method_38_code
def yX1_cutText : MethodName := ⟨RX1, "cutText", "(IZII)Ljava/lang/String;"⟩
abbrev cX1_number : ByteArray := prog_1_method_39_code
def yX1_number : MethodName := ⟨RX1, "number", "(I)Ljava/lang/String;"⟩
abbrev cX1_product : ByteArray := prog_1_method_40_code
def yX1_product : MethodName := ⟨RX1, "product", "(I)Ljava/lang/String;"⟩
abbrev cX1_partSum : ByteArray := prog_1_method_41_code
def yX1_partSum : MethodName := ⟨RX1, "partSum", "(II)Ljava/lang/String;"⟩
abbrev cX1_nines : ByteArray := prog_1_method_42_code
def yX1_nines : MethodName := ⟨RX1, "nines", "(II)I"⟩
abbrev cX1_placeOf : ByteArray := prog_1_method_43_code
def yX1_placeOf : MethodName := ⟨RX1, "placeOf", "(II)I"⟩
abbrev cX1_wheelOrder : ByteArray := prog_1_method_44_code
def yX1_wheelOrder : MethodName := ⟨RX1, "wheelOrder", "(II)I"⟩
abbrev cX1_against : ByteArray := prog_1_method_45_code
def yX1_against : MethodName := ⟨RX1, "against", "(II)I"⟩
abbrev cX1_house : ByteArray := prog_1_method_46_code
def yX1_house : MethodName := ⟨RX1, "house", "(I)I"⟩
abbrev cX1_knock : ByteArray := prog_1_method_47_code
def yX1_knock : MethodName := ⟨RX1, "knock", "()I"⟩
abbrev cX1_isSound : ByteArray := prog_1_method_48_code
def yX1_isSound : MethodName := ⟨RX1, "isSound", "()Z"⟩
abbrev cX1_digest : ByteArray := prog_1_method_49_code
def yX1_digest : MethodName := ⟨RX1, "digest", "()J"⟩
abbrev cX1_requireCell : ByteArray := prog_1_method_50_code
def yX1_requireCell : MethodName := ⟨RX1, "requireCell", "(I)V"⟩
abbrev cX1_requireWheel : ByteArray := prog_1_method_51_code
def yX1_requireWheel : MethodName := ⟨RX1, "requireWheel", "(I)V"⟩
abbrev cX1_requireBetween : ByteArray := prog_1_method_52_code
def yX1_requireBetween : MethodName := ⟨RX1, "requireBetween", "(IJJ)V"⟩
abbrev cX1_requireWay : ByteArray := prog_1_method_53_code
def yX1_requireWay : MethodName := ⟨RX1, "requireWay", "(I)V"⟩
abbrev cX1_requireBottom : ByteArray := prog_1_method_54_code
def yX1_requireBottom : MethodName := ⟨RX1, "requireBottom", "(I)V"⟩
abbrev cX1_fits : ByteArray := prog_1_method_55_code
def yX1_fits : MethodName := ⟨RX1, "fits", "(JI)Z"⟩
abbrev cX1_bring : ByteArray := prog_1_method_56_code
def yX1_bring : MethodName := ⟨RX1, "bring", "(IJI)I"⟩
abbrev cX1_bringAt : ByteArray := prog_1_method_57_code
def yX1_bringAt : MethodName := ⟨RX1, "bringAt", "(IJI)I"⟩
abbrev cX1_decline : ByteArray := prog_1_method_58_code
def yX1_decline : MethodName := ⟨RX1, "decline", "()I"⟩
abbrev cX1_countAt : ByteArray := prog_1_method_59_code
def yX1_countAt : MethodName := ⟨RX1, "countAt", "(II)J"⟩
abbrev cX1_orderOfCells : ByteArray := prog_1_method_60_code
def yX1_orderOfCells : MethodName := ⟨RX1, "orderOfCells", "(II)I"⟩
abbrev cX1_areSame : ByteArray := prog_1_method_61_code
def yX1_areSame : MethodName := ⟨RX1, "areSame", "(II)Z"⟩
abbrev cX1_signOf : ByteArray := prog_1_method_62_code
def yX1_signOf : MethodName := ⟨RX1, "signOf", "(J)I"⟩
abbrev cX1_tenTo : ByteArray := prog_1_method_63_code
def yX1_tenTo : MethodName := ⟨RX1, "tenTo", "(I)J"⟩
abbrev cX1_digitsIn : ByteArray := prog_1_method_64_code
def yX1_digitsIn : MethodName := ⟨RX1, "digitsIn", "(J)I"⟩
abbrev cX1_decimalText : ByteArray := prog_1_method_65_code
def yX1_decimalText : MethodName := ⟨RX1, "decimalText", "(JI)Ljava/lang/String;"⟩
abbrev cX1_signOfDigit : ByteArray := prog_1_method_66_code
def yX1_signOfDigit : MethodName := ⟨RX1, "signOfDigit", "(I)C"⟩
abbrev cX1_rounded : ByteArray := prog_1_method_67_code
def yX1_rounded : MethodName := ⟨RX1, "rounded", "(JJI)J"⟩
abbrev cX1_isFartherTaken : ByteArray := prog_1_method_68_code
def yX1_isFartherTaken : MethodName := ⟨RX1, "isFartherTaken", "(JJII)Z"⟩
abbrev cX1_cutCount : ByteArray := prog_1_method_69_code
def yX1_cutCount : MethodName := ⟨RX1, "cutCount", "(IZII)J"⟩
abbrev cX1_leftover : ByteArray := prog_1_method_70_code
def yX1_leftover : MethodName := ⟨RX1, "leftover", "(II)I"⟩
abbrev cX1_restAfter : ByteArray := prog_1_method_71_code
def yX1_restAfter : MethodName := ⟨RX1, "restAfter", "(II)I"⟩
abbrev cX1_digitAfter : ByteArray := prog_1_method_72_code
def yX1_digitAfter : MethodName := ⟨RX1, "digitAfter", "(II)I"⟩
abbrev cX1_lengthOf : ByteArray := prog_1_method_73_code
def yX1_lengthOf : MethodName := ⟨RX1, "lengthOf", "(II)I"⟩
abbrev cX1_restOfPlace : ByteArray := prog_1_method_74_code
def yX1_restOfPlace : MethodName := ⟨RX1, "restOfPlace", "(II)I"⟩
abbrev cX1_bringWheel : ByteArray := prog_1_method_75_code
def yX1_bringWheel : MethodName := ⟨RX1, "bringWheel", "(III)V"⟩
abbrev cX1_turnBy : ByteArray := prog_1_method_76_code
def yX1_turnBy : MethodName := ⟨RX1, "turnBy", "(II)V"⟩
abbrev cX1_spokeOf : ByteArray := prog_1_method_77_code
def yX1_spokeOf : MethodName := ⟨RX1, "spokeOf", "(II)I"⟩
abbrev cX1_digitText : ByteArray := prog_1_method_78_code
def yX1_digitText : MethodName := ⟨RX1, "digitText", "(III)Ljava/lang/String;"⟩
abbrev cX1_orderOfWheels : ByteArray := prog_1_method_79_code
def yX1_orderOfWheels : MethodName := ⟨RX1, "orderOfWheels", "(II)I"⟩
abbrev cX1_orderAgainst : ByteArray := prog_1_method_80_code
def yX1_orderAgainst : MethodName := ⟨RX1, "orderAgainst", "(II)I"⟩
abbrev cX1_workOutProduct : ByteArray := prog_1_method_81_code
def yX1_workOutProduct : MethodName := ⟨RX1, "workOutProduct", "(I)V"⟩
abbrev cX1_hasParts : ByteArray := prog_1_method_82_code
def yX1_hasParts : MethodName := ⟨RX1, "hasParts", "(II)Z"⟩
abbrev cX1_partLength : ByteArray := prog_1_method_83_code
def yX1_partLength : MethodName := ⟨RX1, "partLength", "(II)I"⟩
abbrev cX1_workOutPartSum : ByteArray := prog_1_method_84_code
def yX1_workOutPartSum : MethodName := ⟨RX1, "workOutPartSum", "(II)V"⟩
abbrev cX1_ninesOf : ByteArray := prog_1_method_85_code
def yX1_ninesOf : MethodName := ⟨RX1, "ninesOf", "(II)I"⟩
abbrev cX1_isCellSoundWithAll : ByteArray := prog_1_method_86_code
def yX1_isCellSoundWithAll : MethodName := ⟨RX1, "isCellSoundWithAll", "(I)Z"⟩
abbrev cX1_isLengthSound : ByteArray := prog_1_method_87_code
def yX1_isLengthSound : MethodName := ⟨RX1, "isLengthSound", "(I)Z"⟩
abbrev cX1_isProductSound : ByteArray := prog_1_method_88_code
def yX1_isProductSound : MethodName := ⟨RX1, "isProductSound", "(I)Z"⟩
abbrev cX1_isCutSound : ByteArray := prog_1_method_89_code
def yX1_isCutSound : MethodName := ⟨RX1, "isCutSound", "(I)Z"⟩
abbrev cX1_joined : ByteArray := prog_1_method_90_code
def yX1_joined : MethodName := ⟨RX1, "joined", "(JJ)J"⟩
abbrev cX1_digestOfCells : ByteArray := prog_1_method_91_code
def yX1_digestOfCells : MethodName := ⟨RX1, "digestOfCells", "(J)J"⟩
abbrev cX1_digestOfWheels : ByteArray := prog_1_method_92_code
def yX1_digestOfWheels : MethodName := ⟨RX1, "digestOfWheels", "(J)J"⟩
abbrev cX1_digestOfWheel : ByteArray := prog_1_method_93_code
def yX1_digestOfWheel : MethodName := ⟨RX1, "digestOfWheel", "(IJ)J"⟩
def RX2 : String := "NinewheelLaw$Out"
def TX2 : u_T := fun k => match k with
  | 0 => ("NinewheelLaw$Out", "n", "J", false)
  | _ => ("NinewheelLaw$Out", "s", "Ljava/lang/String;", false)
def tyX2 : Nat → FieldType := fun k => match k with
  | 0 => .long
  | _ => .object "java/lang/String"
abbrev wsX20 : List Cond := u_ws RX2 TX2 2
theorem nmX2 : ∀ a, a < 2 → ∀ b, b < 2 → a ≠ b → (TX2 a).2.1 ≠ (TX2 b).2.1 := by decide +kernel
theorem tyX2_ok : ∀ k, k < 2 → parseFieldDescriptor (TX2 k).2.2.1 = some (tyX2 k) := by decide +kernel
abbrev cX2_init : ByteArray := prog_4_method_1_code
def yX2_init : MethodName := ⟨RX2, "<init>", "()V"⟩
def RX3 : String := "NinewheelModel"
def TX3 : u_T := fun k => match k with
  | 0 => ("NinewheelModel", "counts", "[I", true)
  | 1 => ("NinewheelModel", "points", "[I", true)
  | 2 => ("NinewheelModel", "tops", "[I", true)
  | 3 => ("NinewheelModel", "bottoms", "[I", true)
  | 4 => ("NinewheelModel", "stands", "[I", true)
  | 5 => ("NinewheelModel", "house", "[I", true)
  | _ => ("NinewheelModel", "thrown", "I", false)
def tyX3 : Nat → FieldType := fun k => match k with
  | 0 => .array .int
  | 1 => .array .int
  | 2 => .array .int
  | 3 => .array .int
  | 4 => .array .int
  | 5 => .array .int
  | _ => .int
abbrev wsX30 : List Cond := u_ws RX3 TX3 7
theorem nmX3 : ∀ a, a < 7 → ∀ b, b < 7 → a ≠ b → (TX3 a).2.1 ≠ (TX3 b).2.1 := by decide +kernel
theorem tyX3_ok : ∀ k, k < 7 → parseFieldDescriptor (TX3 k).2.2.1 = some (tyX3 k) := by decide +kernel
abbrev cX3_init : ByteArray := prog_5_method_1_code
def yX3_init : MethodName := ⟨RX3, "<init>", "()V"⟩
abbrev cX3_thrown : ByteArray := prog_5_method_2_code
def yX3_thrown : MethodName := ⟨RX3, "thrown", "()I"⟩
abbrev cX3_refuse : ByteArray := prog_5_method_3_code
def yX3_refuse : MethodName := ⟨RX3, "refuse", "(ZZ)Z"⟩
abbrev cX3_isOut : ByteArray := prog_5_method_4_code
def yX3_isOut : MethodName := ⟨RX3, "isOut", "(III)Z"⟩
abbrev cX3_isNoCell : ByteArray := prog_5_method_5_code
def yX3_isNoCell : MethodName := ⟨RX3, "isNoCell", "(I)Z"⟩
abbrev cX3_isNoWheel : ByteArray := prog_5_method_6_code
def yX3_isNoWheel : MethodName := ⟨RX3, "isNoWheel", "(I)Z"⟩
abbrev cX3_isNoCut : ByteArray := prog_5_method_7_code
def yX3_isNoCut : MethodName := ⟨RX3, "isNoCut", "(III)Z"⟩
abbrev cX3_isNoBottom : ByteArray := prog_5_method_8_code
def yX3_isNoBottom : MethodName := ⟨RX3, "isNoBottom", "(I)Z"⟩
abbrev cX3_ten : ByteArray := prog_5_method_9_code
def yX3_ten : MethodName := ⟨RX3, "ten", "(I)J"⟩
abbrev cX3_side : ByteArray := prog_5_method_10_code
def yX3_side : MethodName := ⟨RX3, "side", "(JJ)I"⟩
abbrev cX3_sizeOf : ByteArray := prog_5_method_11_code
def yX3_sizeOf : MethodName := ⟨RX3, "sizeOf", "(J)J"⟩
abbrev cX3_digitsOf : ByteArray := prog_5_method_12_code
def yX3_digitsOf : MethodName := ⟨RX3, "digitsOf", "(J)I"⟩
abbrev cX3_rounded : ByteArray := prog_5_method_13_code
def yX3_rounded : MethodName := ⟨RX3, "rounded", "(JJI)J"⟩
abbrev cX3_nay : ByteArray := prog_5_method_14_code
def yX3_nay : MethodName := ⟨RX3, "nay", "()I"⟩
abbrev cX3_come : ByteArray := prog_5_method_15_code
def yX3_come : MethodName := ⟨RX3, "come", "(IJI)I"⟩
abbrev cX3_units : ByteArray := prog_5_method_16_code
def yX3_units : MethodName := ⟨RX3, "units", "(II)J"⟩
abbrev cX3_most : ByteArray := prog_5_method_17_code
def yX3_most : MethodName := ⟨RX3, "most", "(II)I"⟩
abbrev cX3_ordered : ByteArray := prog_5_method_18_code
def yX3_ordered : MethodName := ⟨RX3, "ordered", "(II)I"⟩
abbrev cX3_put : ByteArray := prog_5_method_19_code
def yX3_put : MethodName := ⟨RX3, "put", "(III)I"⟩
abbrev cX3_write : ByteArray := prog_5_method_20_code
def yX3_write : MethodName := ⟨RX3, "write", "(IZIII)I"⟩
abbrev cX3_copy : ByteArray := prog_5_method_21_code
def yX3_copy : MethodName := ⟨RX3, "copy", "(II)I"⟩
abbrev cX3_negate : ByteArray := prog_5_method_22_code
def yX3_negate : MethodName := ⟨RX3, "negate", "(I)I"⟩
abbrev cX3_size : ByteArray := prog_5_method_23_code
def yX3_size : MethodName := ⟨RX3, "size", "(I)I"⟩
abbrev cX3_areNoCells : ByteArray := prog_5_method_24_code
def yX3_areNoCells : MethodName := ⟨RX3, "areNoCells", "(III)Z"⟩
abbrev cX3_add : ByteArray := prog_5_method_25_code
def yX3_add : MethodName := ⟨RX3, "add", "(III)I"⟩
abbrev cX3_subtract : ByteArray := prog_5_method_26_code
def yX3_subtract : MethodName := ⟨RX3, "subtract", "(III)I"⟩
abbrev cX3_multiply : ByteArray := prog_5_method_27_code
def yX3_multiply : MethodName := ⟨RX3, "multiply", "(III)I"⟩
abbrev cX3_power : ByteArray := prog_5_method_28_code
def yX3_power : MethodName := ⟨RX3, "power", "(III)I"⟩
abbrev cX3_divide : ByteArray := prog_5_method_29_code
def yX3_divide : MethodName := ⟨RX3, "divide", "(IIIII)I"⟩
abbrev cX3_share : ByteArray := prog_5_method_30_code
def yX3_share : MethodName := ⟨RX3, "share", "(III)I"⟩
abbrev cX3_wholeOf : ByteArray := prog_5_method_31_code
def yX3_wholeOf : MethodName := ⟨RX3, "wholeOf", "(II)J"⟩
abbrev cX3_whole : ByteArray := prog_5_method_32_code
def yX3_whole : MethodName := ⟨RX3, "whole", "(III)I"⟩
abbrev cX3_rest : ByteArray := prog_5_method_33_code
def yX3_rest : MethodName := ⟨RX3, "rest", "(III)I"⟩
abbrev cX3_setPlaces : ByteArray := prog_5_method_34_code
def yX3_setPlaces : MethodName := ⟨RX3, "setPlaces", "(III)I"⟩
abbrev cX3_strip : ByteArray := prog_5_method_35_code
def yX3_strip : MethodName := ⟨RX3, "strip", "(I)I"⟩
abbrev cX3_move : ByteArray := prog_5_method_36_code
def yX3_move : MethodName := ⟨RX3, "move", "(II)I"⟩
abbrev cX3_round : ByteArray := prog_5_method_37_code
def yX3_round : MethodName := ⟨RX3, "round", "(III)I"⟩
abbrev cX3_greater : ByteArray := prog_5_method_38_code
def yX3_greater : MethodName := ⟨RX3, "greater", "(III)I"⟩
abbrev cX3_lesser : ByteArray := prog_5_method_39_code
def yX3_lesser : MethodName := ⟨RX3, "lesser", "(III)I"⟩
abbrev cX3_cutOf : ByteArray := prog_5_method_40_code
def yX3_cutOf : MethodName := ⟨RX3, "cutOf", "(IZII)J"⟩
abbrev cX3_cut : ByteArray := prog_5_method_41_code
def yX3_cut : MethodName := ⟨RX3, "cut", "(IZIII)I"⟩
abbrev cX3_count : ByteArray := prog_5_method_42_code
def yX3_count : MethodName := ⟨RX3, "count", "(I)I"⟩
abbrev cX3_places : ByteArray := prog_5_method_43_code
def yX3_places : MethodName := ⟨RX3, "places", "(I)I"⟩
abbrev cX3_digits : ByteArray := prog_5_method_44_code
def yX3_digits : MethodName := ⟨RX3, "digits", "(I)I"⟩
abbrev cX3_sign : ByteArray := prog_5_method_45_code
def yX3_sign : MethodName := ⟨RX3, "sign", "(I)I"⟩
abbrev cX3_textOf : ByteArray := prog_5_method_46_code
def yX3_textOf : MethodName := ⟨RX3, "textOf", "(JI)Ljava/lang/String;"⟩
abbrev cX3_text : ByteArray := prog_5_method_47_code
def yX3_text : MethodName := ⟨RX3, "text", "(II)Ljava/lang/String;"⟩
abbrev cX3_order : ByteArray := prog_5_method_48_code
def yX3_order : MethodName := ⟨RX3, "order", "(II)I"⟩
abbrev cX3_areSame : ByteArray := prog_5_method_49_code
def yX3_areSame : MethodName := ⟨RX3, "areSame", "(II)Z"⟩
abbrev cX3_same : ByteArray := prog_5_method_50_code
def yX3_same : MethodName := ⟨RX3, "same", "(II)Z"⟩
abbrev cX3_restOf : ByteArray := prog_5_method_51_code
def yX3_restOf : MethodName := ⟨RX3, "restOf", "(III)I"⟩
abbrev cX3_lengthOf : ByteArray := prog_5_method_52_code
def yX3_lengthOf : MethodName := ⟨RX3, "lengthOf", "(II)I"⟩
abbrev cX3_lengthOf_ : ByteArray := prog_5_method_53_code
def yX3_lengthOf_ : MethodName := ⟨RX3, "lengthOf", "(I)I"⟩
abbrev cX3_set : ByteArray := prog_5_method_54_code
def yX3_set : MethodName := ⟨RX3, "set", "(III)V"⟩
abbrev cX3_setWheel : ByteArray := prog_5_method_55_code
def yX3_setWheel : MethodName := ⟨RX3, "setWheel", "(III)I"⟩
abbrev cX3_step : ByteArray := prog_5_method_56_code
def yX3_step : MethodName := ⟨RX3, "step", "(I)I"⟩
abbrev cX3_turn : ByteArray := prog_5_method_57_code
def yX3_turn : MethodName := ⟨RX3, "turn", "(II)I"⟩
abbrev cX3_times : ByteArray := prog_5_method_58_code
def yX3_times : MethodName := ⟨RX3, "times", "(III)I"⟩
abbrev cX3_spokeOf : ByteArray := prog_5_method_59_code
def yX3_spokeOf : MethodName := ⟨RX3, "spokeOf", "(II)I"⟩
abbrev cX3_spoke : ByteArray := prog_5_method_60_code
def yX3_spoke : MethodName := ⟨RX3, "spoke", "(II)I"⟩
abbrev cX3_lowest : ByteArray := prog_5_method_61_code
def yX3_lowest : MethodName := ⟨RX3, "lowest", "(I)I"⟩
abbrev cX3_tens : ByteArray := prog_5_method_62_code
def yX3_tens : MethodName := ⟨RX3, "tens", "(I)I"⟩
abbrev cX3_restAt : ByteArray := prog_5_method_63_code
def yX3_restAt : MethodName := ⟨RX3, "restAt", "(II)I"⟩
abbrev cX3_row : ByteArray := prog_5_method_64_code
def yX3_row : MethodName := ⟨RX3, "row", "(III)[I"⟩
abbrev cX3_written : ByteArray := prog_5_method_65_code
def yX3_written : MethodName := ⟨RX3, "written", "([II)Ljava/lang/String;"⟩
abbrev cX3_number : ByteArray := prog_5_method_66_code
def yX3_number : MethodName := ⟨RX3, "number", "([I)Ljava/lang/String;"⟩
abbrev cX3_digitsFrom : ByteArray := prog_5_method_67_code
def yX3_digitsFrom : MethodName := ⟨RX3, "digitsFrom", "(III)Ljava/lang/String;"⟩
abbrev cX3_cutText : ByteArray := prog_5_method_68_code
def yX3_cutText : MethodName := ⟨RX3, "cutText", "(IZII)Ljava/lang/String;"⟩
abbrev cX3_number_ : ByteArray := prog_5_method_69_code
def yX3_number_ : MethodName := ⟨RX3, "number", "(I)Ljava/lang/String;"⟩
abbrev cX3_timesBottom : ByteArray := prog_5_method_70_code
def yX3_timesBottom : MethodName := ⟨RX3, "timesBottom", "(I)[I"⟩
abbrev cX3_product : ByteArray := prog_5_method_71_code
def yX3_product : MethodName := ⟨RX3, "product", "(I)Ljava/lang/String;"⟩
abbrev cX3_sumOf : ByteArray := prog_5_method_72_code
def yX3_sumOf : MethodName := ⟨RX3, "sumOf", "(II)[I"⟩
abbrev cX3_partSum : ByteArray := prog_5_method_73_code
def yX3_partSum : MethodName := ⟨RX3, "partSum", "(II)Ljava/lang/String;"⟩
abbrev cX3_areLike : ByteArray := prog_5_method_74_code
def yX3_areLike : MethodName := ⟨RX3, "areLike", "([I[I)Z"⟩
abbrev cX3_ninesOf : ByteArray := prog_5_method_75_code
def yX3_ninesOf : MethodName := ⟨RX3, "ninesOf", "(II)I"⟩
abbrev cX3_nines : ByteArray := prog_5_method_76_code
def yX3_nines : MethodName := ⟨RX3, "nines", "(II)I"⟩
abbrev cX3_placeOf : ByteArray := prog_5_method_77_code
def yX3_placeOf : MethodName := ⟨RX3, "placeOf", "(II)I"⟩
abbrev cX3_wheelsOrdered : ByteArray := prog_5_method_78_code
def yX3_wheelsOrdered : MethodName := ⟨RX3, "wheelsOrdered", "(II)I"⟩
abbrev cX3_wheelOrder : ByteArray := prog_5_method_79_code
def yX3_wheelOrder : MethodName := ⟨RX3, "wheelOrder", "(II)I"⟩
abbrev cX3_heldAgainst : ByteArray := prog_5_method_80_code
def yX3_heldAgainst : MethodName := ⟨RX3, "heldAgainst", "(II)I"⟩
abbrev cX3_against : ByteArray := prog_5_method_81_code
def yX3_against : MethodName := ⟨RX3, "against", "(II)I"⟩
abbrev cX3_house : ByteArray := prog_5_method_82_code
def yX3_house : MethodName := ⟨RX3, "house", "(I)I"⟩
abbrev cX3_knock : ByteArray := prog_5_method_83_code
def yX3_knock : MethodName := ⟨RX3, "knock", "()I"⟩
abbrev cX3_isSoundPair : ByteArray := prog_5_method_84_code
def yX3_isSoundPair : MethodName := ⟨RX3, "isSoundPair", "(II)Z"⟩
abbrev cX3_allNines : ByteArray := prog_5_method_85_code
def yX3_allNines : MethodName := ⟨RX3, "allNines", "(I)[I"⟩
abbrev cX3_isSoundWheel : ByteArray := prog_5_method_86_code
def yX3_isSoundWheel : MethodName := ⟨RX3, "isSoundWheel", "(I)Z"⟩
abbrev cX3_isWhole : ByteArray := prog_5_method_87_code
def yX3_isWhole : MethodName := ⟨RX3, "isWhole", "()Z"⟩
abbrev cX3_isSound : ByteArray := prog_5_method_88_code
def yX3_isSound : MethodName := ⟨RX3, "isSound", "()Z"⟩
abbrev cX3_add_ : ByteArray := prog_5_method_89_code
def yX3_add_ : MethodName := ⟨RX3, "add", "(JJ)J"⟩
abbrev cX3_digest : ByteArray := prog_5_method_90_code
def yX3_digest : MethodName := ⟨RX3, "digest", "()J"⟩
def RJ5 : String := "java/lang/AbstractStringBuilder"
def TJ5 : u_T := fun k => match k with
  | _ => ("", "", "", false)
def tyJ5 : Nat → FieldType := fun k => match k with
  | _ => .int
abbrev wsJ50 : List Cond := u_ws RJ5 TJ5 0
theorem nmJ5 : ∀ a, a < 0 → ∀ b, b < 0 → a ≠ b → (TJ5 a).2.1 ≠ (TJ5 b).2.1 := by decide +kernel
theorem tyJ5_ok : ∀ k, k < 0 → parseFieldDescriptor (TJ5 k).2.2.1 = some (tyJ5 k) := by decide +kernel
abbrev cJ5_init_d00df : ByteArray := prog_6_method_2_code
def yJ5_init_d00df : MethodName := ⟨RJ5, "<init>", "(I)V"⟩
abbrev cJ5_length_8abf5 : ByteArray := prog_6_method_6_code
def yJ5_length_8abf5 : MethodName := ⟨RJ5, "length", "()I"⟩
abbrev cJ5_ensureCapacityInternal_d00df : ByteArray := prog_6_method_9_code
def yJ5_ensureCapacityInternal_d00df : MethodName := ⟨RJ5, "ensureCapacityInternal", "(I)V"⟩
abbrev cJ5_newCapacity_0f7a4 : ByteArray := prog_6_method_10_code
def yJ5_newCapacity_0f7a4 : MethodName := ⟨RJ5, "newCapacity", "(I)I"⟩
abbrev cJ5_inflate_da8c8 : ByteArray := prog_6_method_11_code
def yJ5_inflate_da8c8 : MethodName := ⟨RJ5, "inflate", "()V"⟩
abbrev cJ5_append_cf1ce : ByteArray := prog_6_method_22_code
def yJ5_append_cf1ce : MethodName := ⟨RJ5, "append", "(Ljava/lang/String;)Ljava/lang/AbstractStringBuilder;"⟩
abbrev cJ5_appendNull_278bc : ByteArray := prog_6_method_26_code
def yJ5_appendNull_278bc : MethodName := ⟨RJ5, "appendNull", "()Ljava/lang/AbstractStringBuilder;"⟩
abbrev cJ5_append_3fe6f : ByteArray := prog_6_method_31_code
def yJ5_append_3fe6f : MethodName := ⟨RJ5, "append", "(C)Ljava/lang/AbstractStringBuilder;"⟩
abbrev cJ5_append_c97b9 : ByteArray := prog_6_method_32_code
def yJ5_append_c97b9 : MethodName := ⟨RJ5, "append", "(I)Ljava/lang/AbstractStringBuilder;"⟩
abbrev cJ5_reverse_278bc : ByteArray := prog_6_method_60_code
def yJ5_reverse_278bc : MethodName := ⟨RJ5, "reverse", "()Ljava/lang/AbstractStringBuilder;"⟩
abbrev cJ5_getValue_6d5f1 : ByteArray := prog_6_method_64_code
def yJ5_getValue_6d5f1 : MethodName := ⟨RJ5, "getValue", "()[B"⟩
abbrev cJ5_isLatin1_aae02 : ByteArray := prog_6_method_68_code
def yJ5_isLatin1_aae02 : MethodName := ⟨RJ5, "isLatin1", "()Z"⟩
abbrev cJ5_inflateIfNeededFor_a7421 : ByteArray := prog_6_method_71_code
def yJ5_inflateIfNeededFor_a7421 : MethodName := ⟨RJ5, "inflateIfNeededFor", "(Ljava/lang/String;)V"⟩
abbrev cJ5_putStringAt_47b60 : ByteArray := prog_6_method_73_code
def yJ5_putStringAt_47b60 : MethodName := ⟨RJ5, "putStringAt", "(ILjava/lang/String;)V"⟩
def RJ11 : String := "java/lang/Character"
def TJ11 : u_T := fun k => match k with
  | _ => ("", "", "", false)
def tyJ11 : Nat → FieldType := fun k => match k with
  | _ => .int
abbrev wsJ110 : List Cond := u_ws RJ11 TJ11 0
theorem nmJ11 : ∀ a, a < 0 → ∀ b, b < 0 → a ≠ b → (TJ11 a).2.1 ≠ (TJ11 b).2.1 := by decide +kernel
theorem tyJ11_ok : ∀ k, k < 0 → parseFieldDescriptor (TJ11 k).2.2.1 = some (tyJ11 k) := by decide +kernel
abbrev cJ11_isHighSurrogate_fc78d : ByteArray := prog_7_method_14_code
def yJ11_isHighSurrogate_fc78d : MethodName := ⟨RJ11, "isHighSurrogate", "(C)Z"⟩
abbrev cJ11_isLowSurrogate_fc78d : ByteArray := prog_7_method_15_code
def yJ11_isLowSurrogate_fc78d : MethodName := ⟨RJ11, "isLowSurrogate", "(C)Z"⟩
abbrev cJ11_isSurrogate_fc78d : ByteArray := prog_7_method_16_code
def yJ11_isSurrogate_fc78d : MethodName := ⟨RJ11, "isSurrogate", "(C)Z"⟩
def RJx8e188 : String := "java/lang/Cloneable"
def TJx8e188 : u_T := fun k => match k with
  | _ => ("", "", "", false)
def tyJx8e188 : Nat → FieldType := fun k => match k with
  | _ => .int
abbrev wsJx8e1880 : List Cond := u_ws RJx8e188 TJx8e188 0
theorem nmJx8e188 : ∀ a, a < 0 → ∀ b, b < 0 → a ≠ b → (TJx8e188 a).2.1 ≠ (TJx8e188 b).2.1 := by decide +kernel
theorem tyJx8e188_ok : ∀ k, k < 0 → parseFieldDescriptor (TJx8e188 k).2.2.1 = some (tyJx8e188 k) := by decide +kernel
def RJ6 : String := "java/lang/Integer"
def TJ6 : u_T := fun k => match k with
  | _ => ("", "", "", false)
def tyJ6 : Nat → FieldType := fun k => match k with
  | _ => .int
abbrev wsJ60 : List Cond := u_ws RJ6 TJ6 0
theorem nmJ6 : ∀ a, a < 0 → ∀ b, b < 0 → a ≠ b → (TJ6 a).2.1 ≠ (TJ6 b).2.1 := by decide +kernel
theorem tyJ6_ok : ∀ k, k < 0 → parseFieldDescriptor (TJ6 k).2.2.1 = some (tyJ6 k) := by decide +kernel
abbrev cJ6_getChars_ba4f3 : ByteArray := prog_12_method_12_code
def yJ6_getChars_ba4f3 : MethodName := ⟨RJ6, "getChars", "(II[B)I"⟩
abbrev cJ6_stringSize_0f7a4 : ByteArray := prog_12_method_13_code
def yJ6_stringSize_0f7a4 : MethodName := ⟨RJ6, "stringSize", "(I)I"⟩
def RJ9 : String := "java/lang/Math"
def TJ9 : u_T := fun k => match k with
  | _ => ("", "", "", false)
def tyJ9 : Nat → FieldType := fun k => match k with
  | _ => .int
abbrev wsJ90 : List Cond := u_ws RJ9 TJ9 0
theorem nmJ9 : ∀ a, a < 0 → ∀ b, b < 0 → a ≠ b → (TJ9 a).2.1 ≠ (TJ9 b).2.1 := by decide +kernel
theorem tyJ9_ok : ∀ k, k < 0 → parseFieldDescriptor (TJ9 k).2.2.1 = some (tyJ9 k) := by decide +kernel
abbrev cJ9_abs_0f7a4 : ByteArray := prog_13_method_59_code
def yJ9_abs_0f7a4 : MethodName := ⟨RJ9, "abs", "(I)I"⟩
abbrev cJ9_abs_067f4 : ByteArray := prog_13_method_61_code
def yJ9_abs_067f4 : MethodName := ⟨RJ9, "abs", "(J)J"⟩
abbrev cJ9_max_7cf53 : ByteArray := prog_13_method_65_code
def yJ9_max_7cf53 : MethodName := ⟨RJ9, "max", "(II)I"⟩
abbrev cJ9_min_7cf53 : ByteArray := prog_13_method_69_code
def yJ9_min_7cf53 : MethodName := ⟨RJ9, "min", "(II)I"⟩
def RJ0 : String := "java/lang/String"
def TJ0 : u_T := fun k => match k with
  | 0 => ("java/lang/String", "value", "[B", true)
  | 1 => ("java/lang/String", "coder", "B", true)
  | 2 => ("java/lang/String", "hash", "I", false)
  | _ => ("java/lang/String", "hashIsZero", "Z", false)
def tyJ0 : Nat → FieldType := fun k => match k with
  | 0 => .array .byte
  | 1 => .byte
  | 2 => .int
  | _ => .boolean
abbrev wsJ00 : List Cond := u_ws RJ0 TJ0 4
theorem nmJ0 : ∀ a, a < 4 → ∀ b, b < 4 → a ≠ b → (TJ0 a).2.1 ≠ (TJ0 b).2.1 := by decide +kernel
theorem tyJ0_ok : ∀ k, k < 4 → parseFieldDescriptor (TJ0 k).2.2.1 = some (tyJ0 k) := by decide +kernel
abbrev cJ0_init_81219 : ByteArray := prog_15_method_53_code
def yJ0_init_81219 : MethodName := ⟨RJ0, "<init>", "(Ljava/lang/StringBuilder;)V"⟩
abbrev cJ0_length_8abf5 : ByteArray := prog_15_method_54_code
def yJ0_length_8abf5 : MethodName := ⟨RJ0, "length", "()I"⟩
abbrev cJ0_getBytes_840e7 : ByteArray := prog_15_method_147_code
def yJ0_getBytes_840e7 : MethodName := ⟨RJ0, "getBytes", "([BIB)V"⟩
abbrev cJ0_init_db425 : ByteArray := prog_15_method_150_code
def yJ0_init_db425 : MethodName := ⟨RJ0, "<init>", "(Ljava/lang/AbstractStringBuilder;Ljava/lang/Void;)V"⟩
abbrev cJ0_coder_7d493 : ByteArray := prog_15_method_152_code
def yJ0_coder_7d493 : MethodName := ⟨RJ0, "coder", "()B"⟩
abbrev cJ0_checkIndex_df160 : ByteArray := prog_15_method_155_code
def yJ0_checkIndex_df160 : MethodName := ⟨RJ0, "checkIndex", "(II)V"⟩
abbrev cJ0_checkOffset_df160 : ByteArray := prog_15_method_156_code
def yJ0_checkOffset_df160 : MethodName := ⟨RJ0, "checkOffset", "(II)V"⟩
abbrev cJ0_checkBoundsOffCount_cabcc : ByteArray := prog_15_method_157_code
def yJ0_checkBoundsOffCount_cabcc : MethodName := ⟨RJ0, "checkBoundsOffCount", "(III)I"⟩
abbrev cJ0_checkBoundsBeginEnd_23922 : ByteArray := prog_15_method_158_code
def yJ0_checkBoundsBeginEnd_23922 : MethodName := ⟨RJ0, "checkBoundsBeginEnd", "(III)V"⟩
def RJ4 : String := "java/lang/StringBuilder"
def TJ4 : u_T := fun k => match k with
  | 0 => ("java/lang/AbstractStringBuilder", "value", "[B", false)
  | 1 => ("java/lang/AbstractStringBuilder", "coder", "B", false)
  | 2 => ("java/lang/AbstractStringBuilder", "maybeLatin1", "Z", false)
  | _ => ("java/lang/AbstractStringBuilder", "count", "I", false)
def tyJ4 : Nat → FieldType := fun k => match k with
  | 0 => .array .byte
  | 1 => .byte
  | 2 => .boolean
  | _ => .int
abbrev wsJ40 : List Cond := u_ws RJ4 TJ4 4
theorem nmJ4 : ∀ a, a < 4 → ∀ b, b < 4 → a ≠ b → (TJ4 a).2.1 ≠ (TJ4 b).2.1 := by decide +kernel
theorem tyJ4_ok : ∀ k, k < 4 → parseFieldDescriptor (TJ4 k).2.2.1 = some (tyJ4 k) := by decide +kernel
abbrev cJ4_init_da8c8 : ByteArray := prog_16_method_1_code
def yJ4_init_da8c8 : MethodName := ⟨RJ4, "<init>", "()V"⟩
abbrev cJ4_init_d00df : ByteArray := prog_16_method_2_code
def yJ4_init_d00df : MethodName := ⟨RJ4, "<init>", "(I)V"⟩
abbrev cJ4_append_15ec4 : ByteArray := prog_16_method_7_code
def yJ4_append_15ec4 : MethodName := ⟨RJ4, "append", "(Ljava/lang/String;)Ljava/lang/StringBuilder;"⟩
abbrev cJ4_append_cf468 : ByteArray := prog_16_method_14_code
def yJ4_append_cf468 : MethodName := ⟨RJ4, "append", "(C)Ljava/lang/StringBuilder;"⟩
abbrev cJ4_append_bf812 : ByteArray := prog_16_method_15_code
def yJ4_append_bf812 : MethodName := ⟨RJ4, "append", "(I)Ljava/lang/StringBuilder;"⟩
abbrev cJ4_reverse_43fcb : ByteArray := prog_16_method_39_code
def yJ4_reverse_43fcb : MethodName := ⟨RJ4, "reverse", "()Ljava/lang/StringBuilder;"⟩
abbrev cJ4_toString_0e30d : ByteArray := prog_16_method_42_code
def yJ4_toString_0e30d : MethodName := ⟨RJ4, "toString", "()Ljava/lang/String;"⟩
abbrev cJ4_length_8abf5 : ByteArray := prog_16_method_93_code
def yJ4_length_8abf5 : MethodName := ⟨RJ4, "length", "()I"⟩
def RJ1 : String := "java/lang/StringLatin1"
def TJ1 : u_T := fun k => match k with
  | _ => ("", "", "", false)
def tyJ1 : Nat → FieldType := fun k => match k with
  | _ => .int
abbrev wsJ10 : List Cond := u_ws RJ1 TJ1 0
theorem nmJ1 : ∀ a, a < 0 → ∀ b, b < 0 → a ≠ b → (TJ1 a).2.1 ≠ (TJ1 b).2.1 := by decide +kernel
theorem tyJ1_ok : ∀ k, k < 0 → parseFieldDescriptor (TJ1 k).2.2.1 = some (tyJ1 k) := by decide +kernel
abbrev cJ1_canEncode_fc78d : ByteArray := prog_17_method_3_code
def yJ1_canEncode_fc78d : MethodName := ⟨RJ1, "canEncode", "(C)Z"⟩
abbrev cJ1_inflate_0e8fd : ByteArray := prog_17_method_50_code
def yJ1_inflate_0e8fd : MethodName := ⟨RJ1, "inflate", "([BI[BII)V"⟩
def RJ2 : String := "java/lang/StringUTF16"
def TJ2 : u_T := fun k => match k with
  | _ => ("", "", "", false)
def tyJ2 : Nat → FieldType := fun k => match k with
  | _ => .int
abbrev wsJ20 : List Cond := u_ws RJ2 TJ2 0
theorem nmJ2 : ∀ a, a < 0 → ∀ b, b < 0 → a ≠ b → (TJ2 a).2.1 ≠ (TJ2 b).2.1 := by decide +kernel
theorem tyJ2_ok : ∀ k, k < 0 → parseFieldDescriptor (TJ2 k).2.2.1 = some (tyJ2 k) := by decide +kernel
abbrev cJ2_newBytesFor_77867 : ByteArray := prog_18_method_2_code
def yJ2_newBytesFor_77867 : MethodName := ⟨RJ2, "newBytesFor", "(I)[B"⟩
abbrev cJ2_newBytesLength_0f7a4 : ByteArray := prog_18_method_3_code
def yJ2_newBytesLength_0f7a4 : MethodName := ⟨RJ2, "newBytesLength", "(I)I"⟩
abbrev cJ2_putChar_b72d1 : ByteArray := prog_18_method_4_code
def yJ2_putChar_b72d1 : MethodName := ⟨RJ2, "putChar", "([BII)V"⟩
abbrev cJ2_getChar_3b067 : ByteArray := prog_18_method_5_code
def yJ2_getChar_3b067 : MethodName := ⟨RJ2, "getChar", "([BI)C"⟩
abbrev cJ2_length_9d52b : ByteArray := prog_18_method_6_code
def yJ2_length_9d52b : MethodName := ⟨RJ2, "length", "([B)I"⟩
abbrev cJ2_coderFromArrayLen_85cad : ByteArray := prog_18_method_15_code
def yJ2_coderFromArrayLen_85cad : MethodName := ⟨RJ2, "coderFromArrayLen", "([BI)B"⟩
abbrev cJ2_compress_39247 : ByteArray := prog_18_method_17_code
def yJ2_compress_39247 : MethodName := ⟨RJ2, "compress", "([BII)[B"⟩
abbrev cJ2_compress_5af95 : ByteArray := prog_18_method_22_code
def yJ2_compress_5af95 : MethodName := ⟨RJ2, "compress", "([BI[BII)I"⟩
abbrev cJ2_putCharSB_b72d1 : ByteArray := prog_18_method_71_code
def yJ2_putCharSB_b72d1 : MethodName := ⟨RJ2, "putCharSB", "([BII)V"⟩
abbrev cJ2_getChars_46870 : ByteArray := prog_18_method_77_code
def yJ2_getChars_46870 : MethodName := ⟨RJ2, "getChars", "(III[B)I"⟩
abbrev cJ2_putCharsAt_cd4e5 : ByteArray := prog_18_method_81_code
def yJ2_putCharsAt_cd4e5 : MethodName := ⟨RJ2, "putCharsAt", "([BICCCC)I"⟩
abbrev cJ2_reverse_db04f : ByteArray := prog_18_method_84_code
def yJ2_reverse_db04f : MethodName := ⟨RJ2, "reverse", "([BI)V"⟩
abbrev cJ2_reverseAllValidSurrogatePairs_db04f : ByteArray := prog_18_method_85_code
def yJ2_reverseAllValidSurrogatePairs_db04f : MethodName := ⟨RJ2, "reverseAllValidSurrogatePairs", "([BI)V"⟩
abbrev cJ2_inflate_0e8fd : ByteArray := prog_18_method_86_code
def yJ2_inflate_0e8fd : MethodName := ⟨RJ2, "inflate", "([BI[BII)V"⟩
abbrev cJ2_getChars_ba4f3 : ByteArray := prog_18_method_89_code
def yJ2_getChars_ba4f3 : MethodName := ⟨RJ2, "getChars", "(II[B)I"⟩
abbrev cJ2_checkIndex_2214a : ByteArray := prog_18_method_91_code
def yJ2_checkIndex_2214a : MethodName := ⟨RJ2, "checkIndex", "(I[B)V"⟩
abbrev cJ2_checkOffset_2214a : ByteArray := prog_18_method_92_code
def yJ2_checkOffset_2214a : MethodName := ⟨RJ2, "checkOffset", "(I[B)V"⟩
abbrev cJ2_checkBoundsBeginEnd_d044e : ByteArray := prog_18_method_93_code
def yJ2_checkBoundsBeginEnd_d044e : MethodName := ⟨RJ2, "checkBoundsBeginEnd", "(II[B)V"⟩
abbrev cJ2_checkBoundsOffCount_d044e : ByteArray := prog_18_method_94_code
def yJ2_checkBoundsOffCount_d044e : MethodName := ⟨RJ2, "checkBoundsOffCount", "(II[B)V"⟩
def RJ10 : String := "java/lang/System"
def TJ10 : u_T := fun k => match k with
  | _ => ("", "", "", false)
def tyJ10 : Nat → FieldType := fun k => match k with
  | _ => .int
abbrev wsJ100 : List Cond := u_ws RJ10 TJ10 0
theorem nmJ10 : ∀ a, a < 0 → ∀ b, b < 0 → a ≠ b → (TJ10 a).2.1 ≠ (TJ10 b).2.1 := by decide +kernel
theorem tyJ10_ok : ∀ k, k < 0 → parseFieldDescriptor (TJ10 k).2.2.1 = some (tyJ10 k) := by decide +kernel
def RJ7 : String := "java/util/Arrays"
def TJ7 : u_T := fun k => match k with
  | _ => ("", "", "", false)
def tyJ7 : Nat → FieldType := fun k => match k with
  | _ => .int
abbrev wsJ70 : List Cond := u_ws RJ7 TJ7 0
theorem nmJ7 : ∀ a, a < 0 → ∀ b, b < 0 → a ≠ b → (TJ7 a).2.1 ≠ (TJ7 b).2.1 := by decide +kernel
theorem tyJ7_ok : ∀ k, k < 0 → parseFieldDescriptor (TJ7 k).2.2.1 = some (tyJ7 k) := by decide +kernel
abbrev cJ7_copyOf_9075b : ByteArray := prog_21_method_121_code
def yJ7_copyOf_9075b : MethodName := ⟨RJ7, "copyOf", "([BI)[B"⟩
abbrev cJ7_checkLength_df160 : ByteArray := prog_21_method_131_code
def yJ7_checkLength_df160 : MethodName := ⟨RJ7, "checkLength", "(II)V"⟩
abbrev cJ7_copyOfRange_39247 : ByteArray := prog_21_method_132_code
def yJ7_copyOfRange_39247 : MethodName := ⟨RJ7, "copyOfRange", "([BII)[B"⟩
abbrev cJ7_copyOfRangeByte_39247 : ByteArray := prog_21_method_133_code
def yJ7_copyOfRangeByte_39247 : MethodName := ⟨RJ7, "copyOfRangeByte", "([BII)[B"⟩
def RJ8 : String := "jdk/internal/util/ArraysSupport"
def TJ8 : u_T := fun k => match k with
  | _ => ("", "", "", false)
def tyJ8 : Nat → FieldType := fun k => match k with
  | _ => .int
abbrev wsJ80 : List Cond := u_ws RJ8 TJ8 0
theorem nmJ8 : ∀ a, a < 0 → ∀ b, b < 0 → a ≠ b → (TJ8 a).2.1 ≠ (TJ8 b).2.1 := by decide +kernel
theorem tyJ8_ok : ∀ k, k < 0 → parseFieldDescriptor (TJ8 k).2.2.1 = some (tyJ8 k) := by decide +kernel
abbrev cJ8_newLength_cabcc : ByteArray := prog_22_method_27_code
def yJ8_newLength_cabcc : MethodName := ⟨RJ8, "newLength", "(III)I"⟩
abbrev cJ8_hugeLength_7cf53 : ByteArray := prog_22_method_28_code
def yJ8_hugeLength_7cf53 : MethodName := ⟨RJ8, "hugeLength", "(II)I"⟩
def RJ3 : String := "jdk/internal/util/Preconditions"
def TJ3 : u_T := fun k => match k with
  | _ => ("", "", "", false)
def tyJ3 : Nat → FieldType := fun k => match k with
  | _ => .int
abbrev wsJ30 : List Cond := u_ws RJ3 TJ3 0
theorem nmJ3 : ∀ a, a < 0 → ∀ b, b < 0 → a ≠ b → (TJ3 a).2.1 ≠ (TJ3 b).2.1 := by decide +kernel
theorem tyJ3_ok : ∀ k, k < 0 → parseFieldDescriptor (TJ3 k).2.2.1 = some (tyJ3 k) := by decide +kernel
abbrev cJ3_checkIndex_8e157 : ByteArray := prog_23_method_11_code
def yJ3_checkIndex_8e157 : MethodName := ⟨RJ3, "checkIndex", "(IILjava/util/function/BiFunction;)I"⟩
abbrev cJ3_checkFromToIndex_8c36e : ByteArray := prog_23_method_12_code
def yJ3_checkFromToIndex_8c36e : MethodName := ⟨RJ3, "checkFromToIndex", "(IIILjava/util/function/BiFunction;)I"⟩
abbrev cJ3_checkFromIndexSize_8c36e : ByteArray := prog_23_method_13_code
def yJ3_checkFromIndexSize_8c36e : MethodName := ⟨RJ3, "checkFromIndexSize", "(IIILjava/util/function/BiFunction;)I"⟩
def RL : String := "NinewheelLaw"
abbrev cL_put : ByteArray := method_2_code
def yL_put : MethodName := ⟨RL, "put", "(LNinewheel;IIILNinewheelLaw$Out;)I"⟩
abbrev cL_write : ByteArray := method_3_code
def yL_write : MethodName := ⟨RL, "write", "(LNinewheel;IZIIILNinewheelLaw$Out;)I"⟩
abbrev cL_copy : ByteArray := method_4_code
def yL_copy : MethodName := ⟨RL, "copy", "(LNinewheel;IILNinewheelLaw$Out;)I"⟩
abbrev cL_negate : ByteArray := method_5_code
def yL_negate : MethodName := ⟨RL, "negate", "(LNinewheel;ILNinewheelLaw$Out;)I"⟩
abbrev cL_size : ByteArray := method_6_code
def yL_size : MethodName := ⟨RL, "size", "(LNinewheel;ILNinewheelLaw$Out;)I"⟩
abbrev cL_add : ByteArray := method_7_code
def yL_add : MethodName := ⟨RL, "add", "(LNinewheel;IIILNinewheelLaw$Out;)I"⟩
abbrev cL_subtract : ByteArray := method_8_code
def yL_subtract : MethodName := ⟨RL, "subtract", "(LNinewheel;IIILNinewheelLaw$Out;)I"⟩
abbrev cL_multiply : ByteArray := method_9_code
def yL_multiply : MethodName := ⟨RL, "multiply", "(LNinewheel;IIILNinewheelLaw$Out;)I"⟩
abbrev cL_power : ByteArray := method_10_code
def yL_power : MethodName := ⟨RL, "power", "(LNinewheel;IIILNinewheelLaw$Out;)I"⟩
abbrev cL_divide : ByteArray := method_11_code
def yL_divide : MethodName := ⟨RL, "divide", "(LNinewheel;IIIIILNinewheelLaw$Out;)I"⟩
abbrev cL_share : ByteArray := method_12_code
def yL_share : MethodName := ⟨RL, "share", "(LNinewheel;IIILNinewheelLaw$Out;)I"⟩
abbrev cL_whole : ByteArray := method_13_code
def yL_whole : MethodName := ⟨RL, "whole", "(LNinewheel;IIILNinewheelLaw$Out;)I"⟩
abbrev cL_rest : ByteArray := method_14_code
def yL_rest : MethodName := ⟨RL, "rest", "(LNinewheel;IIILNinewheelLaw$Out;)I"⟩
abbrev cL_setPlaces : ByteArray := method_15_code
def yL_setPlaces : MethodName := ⟨RL, "setPlaces", "(LNinewheel;IIILNinewheelLaw$Out;)I"⟩
abbrev cL_strip : ByteArray := method_16_code
def yL_strip : MethodName := ⟨RL, "strip", "(LNinewheel;ILNinewheelLaw$Out;)I"⟩
abbrev cL_move : ByteArray := method_17_code
def yL_move : MethodName := ⟨RL, "move", "(LNinewheel;IILNinewheelLaw$Out;)I"⟩
abbrev cL_round : ByteArray := method_18_code
def yL_round : MethodName := ⟨RL, "round", "(LNinewheel;IIILNinewheelLaw$Out;)I"⟩
abbrev cL_greater : ByteArray := method_19_code
def yL_greater : MethodName := ⟨RL, "greater", "(LNinewheel;IIILNinewheelLaw$Out;)I"⟩
abbrev cL_lesser : ByteArray := method_20_code
def yL_lesser : MethodName := ⟨RL, "lesser", "(LNinewheel;IIILNinewheelLaw$Out;)I"⟩
abbrev cL_cut : ByteArray := method_21_code
def yL_cut : MethodName := ⟨RL, "cut", "(LNinewheel;IZIIILNinewheelLaw$Out;)I"⟩
abbrev cL_count : ByteArray := method_22_code
def yL_count : MethodName := ⟨RL, "count", "(LNinewheel;ILNinewheelLaw$Out;)I"⟩
abbrev cL_places : ByteArray := method_23_code
def yL_places : MethodName := ⟨RL, "places", "(LNinewheel;ILNinewheelLaw$Out;)I"⟩
abbrev cL_digits : ByteArray := method_24_code
def yL_digits : MethodName := ⟨RL, "digits", "(LNinewheel;ILNinewheelLaw$Out;)I"⟩
abbrev cL_sign : ByteArray := method_25_code
def yL_sign : MethodName := ⟨RL, "sign", "(LNinewheel;ILNinewheelLaw$Out;)I"⟩
abbrev cL_text : ByteArray := method_26_code
def yL_text : MethodName := ⟨RL, "text", "(LNinewheel;IILNinewheelLaw$Out;)I"⟩
abbrev cL_order : ByteArray := method_27_code
def yL_order : MethodName := ⟨RL, "order", "(LNinewheel;IILNinewheelLaw$Out;)I"⟩
abbrev cL_same : ByteArray := method_28_code
def yL_same : MethodName := ⟨RL, "same", "(LNinewheel;IILNinewheelLaw$Out;)I"⟩
abbrev cL_setWheel : ByteArray := method_29_code
def yL_setWheel : MethodName := ⟨RL, "setWheel", "(LNinewheel;IIILNinewheelLaw$Out;)I"⟩
abbrev cL_step : ByteArray := method_30_code
def yL_step : MethodName := ⟨RL, "step", "(LNinewheel;ILNinewheelLaw$Out;)I"⟩
abbrev cL_turn : ByteArray := method_31_code
def yL_turn : MethodName := ⟨RL, "turn", "(LNinewheel;IILNinewheelLaw$Out;)I"⟩
abbrev cL_times : ByteArray := method_32_code
def yL_times : MethodName := ⟨RL, "times", "(LNinewheel;IIILNinewheelLaw$Out;)I"⟩
abbrev cL_spoke : ByteArray := method_33_code
def yL_spoke : MethodName := ⟨RL, "spoke", "(LNinewheel;IILNinewheelLaw$Out;)I"⟩
abbrev cL_lowest : ByteArray := method_34_code
def yL_lowest : MethodName := ⟨RL, "lowest", "(LNinewheel;ILNinewheelLaw$Out;)I"⟩
abbrev cL_tens : ByteArray := method_35_code
def yL_tens : MethodName := ⟨RL, "tens", "(LNinewheel;ILNinewheelLaw$Out;)I"⟩
abbrev cL_restAt : ByteArray := method_36_code
def yL_restAt : MethodName := ⟨RL, "restAt", "(LNinewheel;IILNinewheelLaw$Out;)I"⟩
abbrev cL_digitsFrom : ByteArray := method_37_code
def yL_digitsFrom : MethodName := ⟨RL, "digitsFrom", "(LNinewheel;IIILNinewheelLaw$Out;)I"⟩
abbrev cL_cutText : ByteArray := method_38_code
def yL_cutText : MethodName := ⟨RL, "cutText", "(LNinewheel;IZIILNinewheelLaw$Out;)I"⟩
abbrev cL_number : ByteArray := method_39_code
def yL_number : MethodName := ⟨RL, "number", "(LNinewheel;ILNinewheelLaw$Out;)I"⟩
abbrev cL_product : ByteArray := method_40_code
def yL_product : MethodName := ⟨RL, "product", "(LNinewheel;ILNinewheelLaw$Out;)I"⟩
abbrev cL_partSum : ByteArray := method_41_code
def yL_partSum : MethodName := ⟨RL, "partSum", "(LNinewheel;IILNinewheelLaw$Out;)I"⟩
abbrev cL_nines : ByteArray := method_42_code
def yL_nines : MethodName := ⟨RL, "nines", "(LNinewheel;IILNinewheelLaw$Out;)I"⟩
abbrev cL_placeOf : ByteArray := method_43_code
def yL_placeOf : MethodName := ⟨RL, "placeOf", "(LNinewheel;IILNinewheelLaw$Out;)I"⟩
abbrev cL_wheelOrder : ByteArray := method_44_code
def yL_wheelOrder : MethodName := ⟨RL, "wheelOrder", "(LNinewheel;IILNinewheelLaw$Out;)I"⟩
abbrev cL_against : ByteArray := method_45_code
def yL_against : MethodName := ⟨RL, "against", "(LNinewheel;IILNinewheelLaw$Out;)I"⟩
abbrev cL_house : ByteArray := method_46_code
def yL_house : MethodName := ⟨RL, "house", "(LNinewheel;ILNinewheelLaw$Out;)I"⟩
abbrev cL_law : ByteArray := code
def yL_law : MethodName := ⟨RL, "law", "([I)Z"⟩
def gl_cX0_init_03_0 : List (Nat × Instr × Nat) := [(0, .aload_n 0, 1), (1, .invokespecial 1, 3), (4, .aload_n 0, 1), (5, .bipush 98, 2), (7, .newarray .int, 2), (9, .putfield 9, 3), (12, .return_, 1)]
theorem gd_cX0_init_03_0 : ∀ q ∈ gl_cX0_init_03_0, decode cX0_init q.1 = .ok q.2 := fdk_of 0 (by decide +kernel)
theorem dX0_init_0 : decode cX0_init 0 = .ok (.aload_n 0, 1) := gd_cX0_init_03_0 (0, .aload_n 0, 1) (List.mem_of_getElem? (i := 0) rfl)
theorem dX0_init_1 : decode cX0_init 1 = .ok (.invokespecial 1, 3) := gd_cX0_init_03_0 (1, .invokespecial 1, 3) (List.mem_of_getElem? (i := 1) rfl)
theorem dX0_init_4 : decode cX0_init 4 = .ok (.aload_n 0, 1) := gd_cX0_init_03_0 (4, .aload_n 0, 1) (List.mem_of_getElem? (i := 2) rfl)
theorem dX0_init_5 : decode cX0_init 5 = .ok (.bipush 98, 2) := gd_cX0_init_03_0 (5, .bipush 98, 2) (List.mem_of_getElem? (i := 3) rfl)
theorem dX0_init_7 : decode cX0_init 7 = .ok (.newarray .int, 2) := gd_cX0_init_03_0 (7, .newarray .int, 2) (List.mem_of_getElem? (i := 4) rfl)
theorem dX0_init_9 : decode cX0_init 9 = .ok (.putfield 9, 3) := gd_cX0_init_03_0 (9, .putfield 9, 3) (List.mem_of_getElem? (i := 5) rfl)
theorem dX0_init_12 : decode cX0_init 12 = .ok (.return_, 1) := gd_cX0_init_03_0 (12, .return_, 1) (List.mem_of_getElem? (i := 6) rfl)
def gl_cX0_clear_03_1 : List (Nat × Instr × Nat) := [(0, .iconst 0, 1), (1, .istore_n 1, 1), (2, .iload_n 1, 1), (3, .bipush 98, 2), (5, .if_icmp .ge 16, 3), (8, .aload_n 0, 1), (9, .getfield 9, 3), (12, .iload_n 1, 1), (13, .iconst 0, 1), (14, .iastore, 1), (15, .iinc 1 1, 3), (18, .goto (-16), 3), (21, .return_, 1)]
theorem gd_cX0_clear_03_1 : ∀ q ∈ gl_cX0_clear_03_1, decode cX0_clear q.1 = .ok q.2 := fdk_of 0 (by decide +kernel)
theorem dX0_clear_0 : decode cX0_clear 0 = .ok (.iconst 0, 1) := gd_cX0_clear_03_1 (0, .iconst 0, 1) (List.mem_of_getElem? (i := 0) rfl)
theorem dX0_clear_1 : decode cX0_clear 1 = .ok (.istore_n 1, 1) := gd_cX0_clear_03_1 (1, .istore_n 1, 1) (List.mem_of_getElem? (i := 1) rfl)
theorem dX0_clear_2 : decode cX0_clear 2 = .ok (.iload_n 1, 1) := gd_cX0_clear_03_1 (2, .iload_n 1, 1) (List.mem_of_getElem? (i := 2) rfl)
theorem dX0_clear_3 : decode cX0_clear 3 = .ok (.bipush 98, 2) := gd_cX0_clear_03_1 (3, .bipush 98, 2) (List.mem_of_getElem? (i := 3) rfl)
theorem dX0_clear_5 : decode cX0_clear 5 = .ok (.if_icmp .ge 16, 3) := gd_cX0_clear_03_1 (5, .if_icmp .ge 16, 3) (List.mem_of_getElem? (i := 4) rfl)
theorem dX0_clear_8 : decode cX0_clear 8 = .ok (.aload_n 0, 1) := gd_cX0_clear_03_1 (8, .aload_n 0, 1) (List.mem_of_getElem? (i := 5) rfl)
theorem dX0_clear_9 : decode cX0_clear 9 = .ok (.getfield 9, 3) := gd_cX0_clear_03_1 (9, .getfield 9, 3) (List.mem_of_getElem? (i := 6) rfl)
theorem dX0_clear_12 : decode cX0_clear 12 = .ok (.iload_n 1, 1) := gd_cX0_clear_03_1 (12, .iload_n 1, 1) (List.mem_of_getElem? (i := 7) rfl)
theorem dX0_clear_13 : decode cX0_clear 13 = .ok (.iconst 0, 1) := gd_cX0_clear_03_1 (13, .iconst 0, 1) (List.mem_of_getElem? (i := 8) rfl)
theorem dX0_clear_14 : decode cX0_clear 14 = .ok (.iastore, 1) := gd_cX0_clear_03_1 (14, .iastore, 1) (List.mem_of_getElem? (i := 9) rfl)
theorem dX0_clear_15 : decode cX0_clear 15 = .ok (.iinc 1 1, 3) := gd_cX0_clear_03_1 (15, .iinc 1 1, 3) (List.mem_of_getElem? (i := 10) rfl)
theorem dX0_clear_18 : decode cX0_clear 18 = .ok (.goto (-16), 3) := gd_cX0_clear_03_1 (18, .goto (-16), 3) (List.mem_of_getElem? (i := 11) rfl)
theorem dX0_clear_21 : decode cX0_clear 21 = .ok (.return_, 1) := gd_cX0_clear_03_1 (21, .return_, 1) (List.mem_of_getElem? (i := 12) rfl)
def gl_cX0_raise_03_2 : List (Nat × Instr × Nat) := [(0, .iload_n 1, 1), (1, .ifCond .lt 19, 3), (4, .iload_n 1, 1), (5, .bipush 98, 2), (7, .if_icmp .ge 13, 3), (10, .aload_n 0, 1), (11, .getfield 9, 3), (14, .iload_n 1, 1), (15, .dup2, 1), (16, .iaload, 1), (17, .iload_n 2, 1), (18, .iadd, 1), (19, .iastore, 1), (20, .return_, 1)]
theorem gd_cX0_raise_03_2 : ∀ q ∈ gl_cX0_raise_03_2, decode cX0_raise q.1 = .ok q.2 := fdk_of 0 (by decide +kernel)
theorem dX0_raise_0 : decode cX0_raise 0 = .ok (.iload_n 1, 1) := gd_cX0_raise_03_2 (0, .iload_n 1, 1) (List.mem_of_getElem? (i := 0) rfl)
theorem dX0_raise_1 : decode cX0_raise 1 = .ok (.ifCond .lt 19, 3) := gd_cX0_raise_03_2 (1, .ifCond .lt 19, 3) (List.mem_of_getElem? (i := 1) rfl)
theorem dX0_raise_4 : decode cX0_raise 4 = .ok (.iload_n 1, 1) := gd_cX0_raise_03_2 (4, .iload_n 1, 1) (List.mem_of_getElem? (i := 2) rfl)
theorem dX0_raise_5 : decode cX0_raise 5 = .ok (.bipush 98, 2) := gd_cX0_raise_03_2 (5, .bipush 98, 2) (List.mem_of_getElem? (i := 3) rfl)
theorem dX0_raise_7 : decode cX0_raise 7 = .ok (.if_icmp .ge 13, 3) := gd_cX0_raise_03_2 (7, .if_icmp .ge 13, 3) (List.mem_of_getElem? (i := 4) rfl)
theorem dX0_raise_10 : decode cX0_raise 10 = .ok (.aload_n 0, 1) := gd_cX0_raise_03_2 (10, .aload_n 0, 1) (List.mem_of_getElem? (i := 5) rfl)
theorem dX0_raise_11 : decode cX0_raise 11 = .ok (.getfield 9, 3) := gd_cX0_raise_03_2 (11, .getfield 9, 3) (List.mem_of_getElem? (i := 6) rfl)
theorem dX0_raise_14 : decode cX0_raise 14 = .ok (.iload_n 1, 1) := gd_cX0_raise_03_2 (14, .iload_n 1, 1) (List.mem_of_getElem? (i := 7) rfl)
theorem dX0_raise_15 : decode cX0_raise 15 = .ok (.dup2, 1) := gd_cX0_raise_03_2 (15, .dup2, 1) (List.mem_of_getElem? (i := 8) rfl)
theorem dX0_raise_16 : decode cX0_raise 16 = .ok (.iaload, 1) := gd_cX0_raise_03_2 (16, .iaload, 1) (List.mem_of_getElem? (i := 9) rfl)
theorem dX0_raise_17 : decode cX0_raise 17 = .ok (.iload_n 2, 1) := gd_cX0_raise_03_2 (17, .iload_n 2, 1) (List.mem_of_getElem? (i := 10) rfl)
theorem dX0_raise_18 : decode cX0_raise 18 = .ok (.iadd, 1) := gd_cX0_raise_03_2 (18, .iadd, 1) (List.mem_of_getElem? (i := 11) rfl)
theorem dX0_raise_19 : decode cX0_raise 19 = .ok (.iastore, 1) := gd_cX0_raise_03_2 (19, .iastore, 1) (List.mem_of_getElem? (i := 12) rfl)
theorem dX0_raise_20 : decode cX0_raise 20 = .ok (.return_, 1) := gd_cX0_raise_03_2 (20, .return_, 1) (List.mem_of_getElem? (i := 13) rfl)
def gl_cX0_carry_03_3 : List (Nat × Instr × Nat) := [(0, .iconst 0, 1), (1, .istore_n 1, 1), (2, .iconst 0, 1), (3, .istore_n 2, 1), (4, .iload_n 2, 1), (5, .bipush 98, 2), (7, .if_icmp .ge 33, 3), (10, .aload_n 0, 1), (11, .getfield 9, 3), (14, .iload_n 2, 1), (15, .iaload, 1), (16, .iload_n 1, 1), (17, .iadd, 1), (18, .istore_n 3, 1), (19, .aload_n 0, 1), (20, .getfield 9, 3), (23, .iload_n 2, 1), (24, .iload_n 3, 1), (25, .bipush 10, 2), (27, .irem, 1), (28, .iastore, 1), (29, .iload_n 3, 1), (30, .bipush 10, 2), (32, .idiv, 1), (33, .istore_n 1, 1), (34, .iinc 2 1, 3), (37, .goto (-33), 3), (40, .return_, 1)]
theorem gd_cX0_carry_03_3 : ∀ q ∈ gl_cX0_carry_03_3, decode cX0_carry q.1 = .ok q.2 := fdk_of 0 (by decide +kernel)
theorem dX0_carry_0 : decode cX0_carry 0 = .ok (.iconst 0, 1) := gd_cX0_carry_03_3 (0, .iconst 0, 1) (List.mem_of_getElem? (i := 0) rfl)
theorem dX0_carry_1 : decode cX0_carry 1 = .ok (.istore_n 1, 1) := gd_cX0_carry_03_3 (1, .istore_n 1, 1) (List.mem_of_getElem? (i := 1) rfl)
theorem dX0_carry_2 : decode cX0_carry 2 = .ok (.iconst 0, 1) := gd_cX0_carry_03_3 (2, .iconst 0, 1) (List.mem_of_getElem? (i := 2) rfl)
theorem dX0_carry_3 : decode cX0_carry 3 = .ok (.istore_n 2, 1) := gd_cX0_carry_03_3 (3, .istore_n 2, 1) (List.mem_of_getElem? (i := 3) rfl)
theorem dX0_carry_4 : decode cX0_carry 4 = .ok (.iload_n 2, 1) := gd_cX0_carry_03_3 (4, .iload_n 2, 1) (List.mem_of_getElem? (i := 4) rfl)
theorem dX0_carry_5 : decode cX0_carry 5 = .ok (.bipush 98, 2) := gd_cX0_carry_03_3 (5, .bipush 98, 2) (List.mem_of_getElem? (i := 5) rfl)
theorem dX0_carry_7 : decode cX0_carry 7 = .ok (.if_icmp .ge 33, 3) := gd_cX0_carry_03_3 (7, .if_icmp .ge 33, 3) (List.mem_of_getElem? (i := 6) rfl)
theorem dX0_carry_10 : decode cX0_carry 10 = .ok (.aload_n 0, 1) := gd_cX0_carry_03_3 (10, .aload_n 0, 1) (List.mem_of_getElem? (i := 7) rfl)
theorem dX0_carry_11 : decode cX0_carry 11 = .ok (.getfield 9, 3) := gd_cX0_carry_03_3 (11, .getfield 9, 3) (List.mem_of_getElem? (i := 8) rfl)
theorem dX0_carry_14 : decode cX0_carry 14 = .ok (.iload_n 2, 1) := gd_cX0_carry_03_3 (14, .iload_n 2, 1) (List.mem_of_getElem? (i := 9) rfl)
theorem dX0_carry_15 : decode cX0_carry 15 = .ok (.iaload, 1) := gd_cX0_carry_03_3 (15, .iaload, 1) (List.mem_of_getElem? (i := 10) rfl)
theorem dX0_carry_16 : decode cX0_carry 16 = .ok (.iload_n 1, 1) := gd_cX0_carry_03_3 (16, .iload_n 1, 1) (List.mem_of_getElem? (i := 11) rfl)
theorem dX0_carry_17 : decode cX0_carry 17 = .ok (.iadd, 1) := gd_cX0_carry_03_3 (17, .iadd, 1) (List.mem_of_getElem? (i := 12) rfl)
theorem dX0_carry_18 : decode cX0_carry 18 = .ok (.istore_n 3, 1) := gd_cX0_carry_03_3 (18, .istore_n 3, 1) (List.mem_of_getElem? (i := 13) rfl)
theorem dX0_carry_19 : decode cX0_carry 19 = .ok (.aload_n 0, 1) := gd_cX0_carry_03_3 (19, .aload_n 0, 1) (List.mem_of_getElem? (i := 14) rfl)
theorem dX0_carry_20 : decode cX0_carry 20 = .ok (.getfield 9, 3) := gd_cX0_carry_03_3 (20, .getfield 9, 3) (List.mem_of_getElem? (i := 15) rfl)
theorem dX0_carry_23 : decode cX0_carry 23 = .ok (.iload_n 2, 1) := gd_cX0_carry_03_3 (23, .iload_n 2, 1) (List.mem_of_getElem? (i := 16) rfl)
theorem dX0_carry_24 : decode cX0_carry 24 = .ok (.iload_n 3, 1) := gd_cX0_carry_03_3 (24, .iload_n 3, 1) (List.mem_of_getElem? (i := 17) rfl)
theorem dX0_carry_25 : decode cX0_carry 25 = .ok (.bipush 10, 2) := gd_cX0_carry_03_3 (25, .bipush 10, 2) (List.mem_of_getElem? (i := 18) rfl)
theorem dX0_carry_27 : decode cX0_carry 27 = .ok (.irem, 1) := gd_cX0_carry_03_3 (27, .irem, 1) (List.mem_of_getElem? (i := 19) rfl)
theorem dX0_carry_28 : decode cX0_carry 28 = .ok (.iastore, 1) := gd_cX0_carry_03_3 (28, .iastore, 1) (List.mem_of_getElem? (i := 20) rfl)
theorem dX0_carry_29 : decode cX0_carry 29 = .ok (.iload_n 3, 1) := gd_cX0_carry_03_3 (29, .iload_n 3, 1) (List.mem_of_getElem? (i := 21) rfl)
theorem dX0_carry_30 : decode cX0_carry 30 = .ok (.bipush 10, 2) := gd_cX0_carry_03_3 (30, .bipush 10, 2) (List.mem_of_getElem? (i := 22) rfl)
theorem dX0_carry_32 : decode cX0_carry 32 = .ok (.idiv, 1) := gd_cX0_carry_03_3 (32, .idiv, 1) (List.mem_of_getElem? (i := 23) rfl)
theorem dX0_carry_33 : decode cX0_carry 33 = .ok (.istore_n 1, 1) := gd_cX0_carry_03_3 (33, .istore_n 1, 1) (List.mem_of_getElem? (i := 24) rfl)
theorem dX0_carry_34 : decode cX0_carry 34 = .ok (.iinc 2 1, 3) := gd_cX0_carry_03_3 (34, .iinc 2 1, 3) (List.mem_of_getElem? (i := 25) rfl)
theorem dX0_carry_37 : decode cX0_carry 37 = .ok (.goto (-33), 3) := gd_cX0_carry_03_3 (37, .goto (-33), 3) (List.mem_of_getElem? (i := 26) rfl)
theorem dX0_carry_40 : decode cX0_carry 40 = .ok (.return_, 1) := gd_cX0_carry_03_3 (40, .return_, 1) (List.mem_of_getElem? (i := 27) rfl)
def gl_cX0_becomeNines_03_4 : List (Nat × Instr × Nat) := [(0, .aload_n 0, 1), (1, .invokevirtual 13, 3), (4, .iconst 0, 1), (5, .istore_n 3, 1), (6, .iload_n 3, 1), (7, .iload_n 1, 1), (8, .if_icmp .ge 18, 3), (11, .aload_n 0, 1), (12, .iload_n 3, 1), (13, .bipush 9, 2), (15, .iload_n 2, 1), (16, .imul, 1), (17, .invokevirtual 16, 3), (20, .iinc 3 1, 3), (23, .goto (-17), 3), (26, .aload_n 0, 1), (27, .invokevirtual 20, 3), (30, .return_, 1)]
theorem gd_cX0_becomeNines_03_4 : ∀ q ∈ gl_cX0_becomeNines_03_4, decode cX0_becomeNines q.1 = .ok q.2 := fdk_of 0 (by decide +kernel)
theorem dX0_becomeNines_0 : decode cX0_becomeNines 0 = .ok (.aload_n 0, 1) := gd_cX0_becomeNines_03_4 (0, .aload_n 0, 1) (List.mem_of_getElem? (i := 0) rfl)
theorem dX0_becomeNines_1 : decode cX0_becomeNines 1 = .ok (.invokevirtual 13, 3) := gd_cX0_becomeNines_03_4 (1, .invokevirtual 13, 3) (List.mem_of_getElem? (i := 1) rfl)
theorem dX0_becomeNines_4 : decode cX0_becomeNines 4 = .ok (.iconst 0, 1) := gd_cX0_becomeNines_03_4 (4, .iconst 0, 1) (List.mem_of_getElem? (i := 2) rfl)
theorem dX0_becomeNines_5 : decode cX0_becomeNines 5 = .ok (.istore_n 3, 1) := gd_cX0_becomeNines_03_4 (5, .istore_n 3, 1) (List.mem_of_getElem? (i := 3) rfl)
theorem dX0_becomeNines_6 : decode cX0_becomeNines 6 = .ok (.iload_n 3, 1) := gd_cX0_becomeNines_03_4 (6, .iload_n 3, 1) (List.mem_of_getElem? (i := 4) rfl)
theorem dX0_becomeNines_7 : decode cX0_becomeNines 7 = .ok (.iload_n 1, 1) := gd_cX0_becomeNines_03_4 (7, .iload_n 1, 1) (List.mem_of_getElem? (i := 5) rfl)
theorem dX0_becomeNines_8 : decode cX0_becomeNines 8 = .ok (.if_icmp .ge 18, 3) := gd_cX0_becomeNines_03_4 (8, .if_icmp .ge 18, 3) (List.mem_of_getElem? (i := 6) rfl)
theorem dX0_becomeNines_11 : decode cX0_becomeNines 11 = .ok (.aload_n 0, 1) := gd_cX0_becomeNines_03_4 (11, .aload_n 0, 1) (List.mem_of_getElem? (i := 7) rfl)
theorem dX0_becomeNines_12 : decode cX0_becomeNines 12 = .ok (.iload_n 3, 1) := gd_cX0_becomeNines_03_4 (12, .iload_n 3, 1) (List.mem_of_getElem? (i := 8) rfl)
theorem dX0_becomeNines_13 : decode cX0_becomeNines 13 = .ok (.bipush 9, 2) := gd_cX0_becomeNines_03_4 (13, .bipush 9, 2) (List.mem_of_getElem? (i := 9) rfl)
theorem dX0_becomeNines_15 : decode cX0_becomeNines 15 = .ok (.iload_n 2, 1) := gd_cX0_becomeNines_03_4 (15, .iload_n 2, 1) (List.mem_of_getElem? (i := 10) rfl)
theorem dX0_becomeNines_16 : decode cX0_becomeNines 16 = .ok (.imul, 1) := gd_cX0_becomeNines_03_4 (16, .imul, 1) (List.mem_of_getElem? (i := 11) rfl)
theorem dX0_becomeNines_17 : decode cX0_becomeNines 17 = .ok (.invokevirtual 16, 3) := gd_cX0_becomeNines_03_4 (17, .invokevirtual 16, 3) (List.mem_of_getElem? (i := 12) rfl)
theorem dX0_becomeNines_20 : decode cX0_becomeNines 20 = .ok (.iinc 3 1, 3) := gd_cX0_becomeNines_03_4 (20, .iinc 3 1, 3) (List.mem_of_getElem? (i := 13) rfl)
theorem dX0_becomeNines_23 : decode cX0_becomeNines 23 = .ok (.goto (-17), 3) := gd_cX0_becomeNines_03_4 (23, .goto (-17), 3) (List.mem_of_getElem? (i := 14) rfl)
theorem dX0_becomeNines_26 : decode cX0_becomeNines 26 = .ok (.aload_n 0, 1) := gd_cX0_becomeNines_03_4 (26, .aload_n 0, 1) (List.mem_of_getElem? (i := 15) rfl)
theorem dX0_becomeNines_27 : decode cX0_becomeNines 27 = .ok (.invokevirtual 20, 3) := gd_cX0_becomeNines_03_4 (27, .invokevirtual 20, 3) (List.mem_of_getElem? (i := 16) rfl)
theorem dX0_becomeNines_30 : decode cX0_becomeNines 30 = .ok (.return_, 1) := gd_cX0_becomeNines_03_4 (30, .return_, 1) (List.mem_of_getElem? (i := 17) rfl)
def gl_cX0_isLike_03_5 : List (Nat × Instr × Nat) := [(0, .iconst 0, 1), (1, .istore_n 2, 1), (2, .iload_n 2, 1), (3, .bipush 98, 2), (5, .if_icmp .ge 26, 3), (8, .aload_n 0, 1), (9, .getfield 9, 3), (12, .iload_n 2, 1), (13, .iaload, 1), (14, .aload_n 1, 1), (15, .getfield 9, 3), (18, .iload_n 2, 1), (19, .iaload, 1), (20, .if_icmp .eq 5, 3), (23, .iconst 0, 1), (24, .ireturn, 1), (25, .iinc 2 1, 3), (28, .goto (-26), 3), (31, .iconst 1, 1), (32, .ireturn, 1)]
theorem gd_cX0_isLike_03_5 : ∀ q ∈ gl_cX0_isLike_03_5, decode cX0_isLike q.1 = .ok q.2 := fdk_of 0 (by decide +kernel)
theorem dX0_isLike_0 : decode cX0_isLike 0 = .ok (.iconst 0, 1) := gd_cX0_isLike_03_5 (0, .iconst 0, 1) (List.mem_of_getElem? (i := 0) rfl)
theorem dX0_isLike_1 : decode cX0_isLike 1 = .ok (.istore_n 2, 1) := gd_cX0_isLike_03_5 (1, .istore_n 2, 1) (List.mem_of_getElem? (i := 1) rfl)
theorem dX0_isLike_2 : decode cX0_isLike 2 = .ok (.iload_n 2, 1) := gd_cX0_isLike_03_5 (2, .iload_n 2, 1) (List.mem_of_getElem? (i := 2) rfl)
theorem dX0_isLike_3 : decode cX0_isLike 3 = .ok (.bipush 98, 2) := gd_cX0_isLike_03_5 (3, .bipush 98, 2) (List.mem_of_getElem? (i := 3) rfl)
theorem dX0_isLike_5 : decode cX0_isLike 5 = .ok (.if_icmp .ge 26, 3) := gd_cX0_isLike_03_5 (5, .if_icmp .ge 26, 3) (List.mem_of_getElem? (i := 4) rfl)
theorem dX0_isLike_8 : decode cX0_isLike 8 = .ok (.aload_n 0, 1) := gd_cX0_isLike_03_5 (8, .aload_n 0, 1) (List.mem_of_getElem? (i := 5) rfl)
theorem dX0_isLike_9 : decode cX0_isLike 9 = .ok (.getfield 9, 3) := gd_cX0_isLike_03_5 (9, .getfield 9, 3) (List.mem_of_getElem? (i := 6) rfl)
theorem dX0_isLike_12 : decode cX0_isLike 12 = .ok (.iload_n 2, 1) := gd_cX0_isLike_03_5 (12, .iload_n 2, 1) (List.mem_of_getElem? (i := 7) rfl)
theorem dX0_isLike_13 : decode cX0_isLike 13 = .ok (.iaload, 1) := gd_cX0_isLike_03_5 (13, .iaload, 1) (List.mem_of_getElem? (i := 8) rfl)
theorem dX0_isLike_14 : decode cX0_isLike 14 = .ok (.aload_n 1, 1) := gd_cX0_isLike_03_5 (14, .aload_n 1, 1) (List.mem_of_getElem? (i := 9) rfl)
theorem dX0_isLike_15 : decode cX0_isLike 15 = .ok (.getfield 9, 3) := gd_cX0_isLike_03_5 (15, .getfield 9, 3) (List.mem_of_getElem? (i := 10) rfl)
theorem dX0_isLike_18 : decode cX0_isLike 18 = .ok (.iload_n 2, 1) := gd_cX0_isLike_03_5 (18, .iload_n 2, 1) (List.mem_of_getElem? (i := 11) rfl)
theorem dX0_isLike_19 : decode cX0_isLike 19 = .ok (.iaload, 1) := gd_cX0_isLike_03_5 (19, .iaload, 1) (List.mem_of_getElem? (i := 12) rfl)
theorem dX0_isLike_20 : decode cX0_isLike 20 = .ok (.if_icmp .eq 5, 3) := gd_cX0_isLike_03_5 (20, .if_icmp .eq 5, 3) (List.mem_of_getElem? (i := 13) rfl)
theorem dX0_isLike_23 : decode cX0_isLike 23 = .ok (.iconst 0, 1) := gd_cX0_isLike_03_5 (23, .iconst 0, 1) (List.mem_of_getElem? (i := 14) rfl)
theorem dX0_isLike_24 : decode cX0_isLike 24 = .ok (.ireturn, 1) := gd_cX0_isLike_03_5 (24, .ireturn, 1) (List.mem_of_getElem? (i := 15) rfl)
theorem dX0_isLike_25 : decode cX0_isLike 25 = .ok (.iinc 2 1, 3) := gd_cX0_isLike_03_5 (25, .iinc 2 1, 3) (List.mem_of_getElem? (i := 16) rfl)
theorem dX0_isLike_28 : decode cX0_isLike 28 = .ok (.goto (-26), 3) := gd_cX0_isLike_03_5 (28, .goto (-26), 3) (List.mem_of_getElem? (i := 17) rfl)
theorem dX0_isLike_31 : decode cX0_isLike 31 = .ok (.iconst 1, 1) := gd_cX0_isLike_03_5 (31, .iconst 1, 1) (List.mem_of_getElem? (i := 18) rfl)
theorem dX0_isLike_32 : decode cX0_isLike 32 = .ok (.ireturn, 1) := gd_cX0_isLike_03_5 (32, .ireturn, 1) (List.mem_of_getElem? (i := 19) rfl)
def gl_cX0_written_03_6 : List (Nat × Instr × Nat) := [(0, .bipush 97, 2), (2, .istore_n 1, 1), (3, .iload_n 1, 1), (4, .ifCond .le 18, 3), (7, .aload_n 0, 1), (8, .getfield 9, 3), (11, .iload_n 1, 1), (12, .iaload, 1), (13, .ifCond .ne 9, 3), (16, .iinc 1 (-1), 3), (19, .goto (-16), 3), (22, .new 23, 3), (25, .dup, 1), (26, .invokespecial 25, 3), (29, .astore_n 2, 1), (30, .iload_n 1, 1), (31, .istore_n 3, 1), (32, .iload_n 3, 1), (33, .ifCond .lt 23, 3), (36, .aload_n 2, 1), (37, .aload_n 0, 1), (38, .getfield 9, 3), (41, .iload_n 3, 1), (42, .iaload, 1), (43, .invokestatic 26, 3), (46, .invokevirtual 32, 3), (49, .pop, 1), (50, .iinc 3 (-1), 3), (53, .goto (-21), 3), (56, .aload_n 2, 1), (57, .invokevirtual 36, 3), (60, .areturn, 1)]
theorem gd_cX0_written_03_6 : ∀ q ∈ gl_cX0_written_03_6, decode cX0_written q.1 = .ok q.2 := fdk_of 0 (by decide +kernel)
theorem dX0_written_0 : decode cX0_written 0 = .ok (.bipush 97, 2) := gd_cX0_written_03_6 (0, .bipush 97, 2) (List.mem_of_getElem? (i := 0) rfl)
theorem dX0_written_2 : decode cX0_written 2 = .ok (.istore_n 1, 1) := gd_cX0_written_03_6 (2, .istore_n 1, 1) (List.mem_of_getElem? (i := 1) rfl)
theorem dX0_written_3 : decode cX0_written 3 = .ok (.iload_n 1, 1) := gd_cX0_written_03_6 (3, .iload_n 1, 1) (List.mem_of_getElem? (i := 2) rfl)
theorem dX0_written_4 : decode cX0_written 4 = .ok (.ifCond .le 18, 3) := gd_cX0_written_03_6 (4, .ifCond .le 18, 3) (List.mem_of_getElem? (i := 3) rfl)
theorem dX0_written_7 : decode cX0_written 7 = .ok (.aload_n 0, 1) := gd_cX0_written_03_6 (7, .aload_n 0, 1) (List.mem_of_getElem? (i := 4) rfl)
theorem dX0_written_8 : decode cX0_written 8 = .ok (.getfield 9, 3) := gd_cX0_written_03_6 (8, .getfield 9, 3) (List.mem_of_getElem? (i := 5) rfl)
theorem dX0_written_11 : decode cX0_written 11 = .ok (.iload_n 1, 1) := gd_cX0_written_03_6 (11, .iload_n 1, 1) (List.mem_of_getElem? (i := 6) rfl)
theorem dX0_written_12 : decode cX0_written 12 = .ok (.iaload, 1) := gd_cX0_written_03_6 (12, .iaload, 1) (List.mem_of_getElem? (i := 7) rfl)
theorem dX0_written_13 : decode cX0_written 13 = .ok (.ifCond .ne 9, 3) := gd_cX0_written_03_6 (13, .ifCond .ne 9, 3) (List.mem_of_getElem? (i := 8) rfl)
theorem dX0_written_16 : decode cX0_written 16 = .ok (.iinc 1 (-1), 3) := gd_cX0_written_03_6 (16, .iinc 1 (-1), 3) (List.mem_of_getElem? (i := 9) rfl)
theorem dX0_written_19 : decode cX0_written 19 = .ok (.goto (-16), 3) := gd_cX0_written_03_6 (19, .goto (-16), 3) (List.mem_of_getElem? (i := 10) rfl)
theorem dX0_written_22 : decode cX0_written 22 = .ok (.new 23, 3) := gd_cX0_written_03_6 (22, .new 23, 3) (List.mem_of_getElem? (i := 11) rfl)
theorem dX0_written_25 : decode cX0_written 25 = .ok (.dup, 1) := gd_cX0_written_03_6 (25, .dup, 1) (List.mem_of_getElem? (i := 12) rfl)
theorem dX0_written_26 : decode cX0_written 26 = .ok (.invokespecial 25, 3) := gd_cX0_written_03_6 (26, .invokespecial 25, 3) (List.mem_of_getElem? (i := 13) rfl)
theorem dX0_written_29 : decode cX0_written 29 = .ok (.astore_n 2, 1) := gd_cX0_written_03_6 (29, .astore_n 2, 1) (List.mem_of_getElem? (i := 14) rfl)
theorem dX0_written_30 : decode cX0_written 30 = .ok (.iload_n 1, 1) := gd_cX0_written_03_6 (30, .iload_n 1, 1) (List.mem_of_getElem? (i := 15) rfl)
theorem dX0_written_31 : decode cX0_written 31 = .ok (.istore_n 3, 1) := gd_cX0_written_03_6 (31, .istore_n 3, 1) (List.mem_of_getElem? (i := 16) rfl)
theorem dX0_written_32 : decode cX0_written 32 = .ok (.iload_n 3, 1) := gd_cX0_written_03_6 (32, .iload_n 3, 1) (List.mem_of_getElem? (i := 17) rfl)
theorem dX0_written_33 : decode cX0_written 33 = .ok (.ifCond .lt 23, 3) := gd_cX0_written_03_6 (33, .ifCond .lt 23, 3) (List.mem_of_getElem? (i := 18) rfl)
theorem dX0_written_36 : decode cX0_written 36 = .ok (.aload_n 2, 1) := gd_cX0_written_03_6 (36, .aload_n 2, 1) (List.mem_of_getElem? (i := 19) rfl)
theorem dX0_written_37 : decode cX0_written 37 = .ok (.aload_n 0, 1) := gd_cX0_written_03_6 (37, .aload_n 0, 1) (List.mem_of_getElem? (i := 20) rfl)
theorem dX0_written_38 : decode cX0_written 38 = .ok (.getfield 9, 3) := gd_cX0_written_03_6 (38, .getfield 9, 3) (List.mem_of_getElem? (i := 21) rfl)
theorem dX0_written_41 : decode cX0_written 41 = .ok (.iload_n 3, 1) := gd_cX0_written_03_6 (41, .iload_n 3, 1) (List.mem_of_getElem? (i := 22) rfl)
theorem dX0_written_42 : decode cX0_written 42 = .ok (.iaload, 1) := gd_cX0_written_03_6 (42, .iaload, 1) (List.mem_of_getElem? (i := 23) rfl)
theorem dX0_written_43 : decode cX0_written 43 = .ok (.invokestatic 26, 3) := gd_cX0_written_03_6 (43, .invokestatic 26, 3) (List.mem_of_getElem? (i := 24) rfl)
theorem dX0_written_46 : decode cX0_written 46 = .ok (.invokevirtual 32, 3) := gd_cX0_written_03_6 (46, .invokevirtual 32, 3) (List.mem_of_getElem? (i := 25) rfl)
theorem dX0_written_49 : decode cX0_written 49 = .ok (.pop, 1) := gd_cX0_written_03_6 (49, .pop, 1) (List.mem_of_getElem? (i := 26) rfl)
theorem dX0_written_50 : decode cX0_written 50 = .ok (.iinc 3 (-1), 3) := gd_cX0_written_03_6 (50, .iinc 3 (-1), 3) (List.mem_of_getElem? (i := 27) rfl)
theorem dX0_written_53 : decode cX0_written 53 = .ok (.goto (-21), 3) := gd_cX0_written_03_6 (53, .goto (-21), 3) (List.mem_of_getElem? (i := 28) rfl)
theorem dX0_written_56 : decode cX0_written 56 = .ok (.aload_n 2, 1) := gd_cX0_written_03_6 (56, .aload_n 2, 1) (List.mem_of_getElem? (i := 29) rfl)
theorem dX0_written_57 : decode cX0_written 57 = .ok (.invokevirtual 36, 3) := gd_cX0_written_03_6 (57, .invokevirtual 36, 3) (List.mem_of_getElem? (i := 30) rfl)
theorem dX0_written_60 : decode cX0_written 60 = .ok (.areturn, 1) := gd_cX0_written_03_6 (60, .areturn, 1) (List.mem_of_getElem? (i := 31) rfl)
def gl_cX1_init_03_7 : List (Nat × Instr × Nat) := [(0, .aload_n 0, 1), (1, .invokespecial 1, 3), (4, .aload_n 0, 1), (5, .iconst 4, 1), (6, .newarray .int, 2), (8, .putfield 9, 3), (11, .aload_n 0, 1), (12, .iconst 4, 1), (13, .newarray .int, 2), (15, .putfield 13, 3), (18, .aload_n 0, 1), (19, .iconst 3, 1), (20, .newarray .int, 2), (22, .putfield 16, 3), (25, .aload_n 0, 1), (26, .iconst 3, 1), (27, .newarray .int, 2), (29, .putfield 19, 3), (32, .aload_n 0, 1), (33, .iconst 3, 1), (34, .newarray .int, 2), (36, .putfield 22, 3), (39, .aload_n 0, 1), (40, .iconst 3, 1), (41, .newarray .int, 2), (43, .putfield 25, 3), (46, .aload_n 0, 1), (47, .iconst 4, 1), (48, .newarray .int, 2), (50, .putfield 28, 3), (53, .aload_n 0, 1), (54, .new 31, 3), (57, .dup, 1), (58, .invokespecial 33, 3), (61, .putfield 34, 3), (64, .aload_n 0, 1), (65, .new 31, 3), (68, .dup, 1), (69, .invokespecial 33, 3), (72, .putfield 38, 3), (75, .iconst 0, 1), (76, .istore_n 1, 1), (77, .iload_n 1, 1), (78, .iconst 3, 1), (79, .if_icmp .ge 23, 3), (82, .aload_n 0, 1), (83, .getfield 19, 3), (86, .iload_n 1, 1), (87, .iconst 1, 1), (88, .iastore, 1), (89, .aload_n 0, 1), (90, .getfield 25, 3), (93, .iload_n 1, 1), (94, .iconst 1, 1), (95, .iastore, 1), (96, .iinc 1 1, 3), (99, .goto (-22), 3), (102, .return_, 1)]
theorem gd_cX1_init_03_7 : ∀ q ∈ gl_cX1_init_03_7, decode cX1_init q.1 = .ok q.2 := fdk_of 0 (by decide +kernel)
theorem dX1_init_0 : decode cX1_init 0 = .ok (.aload_n 0, 1) := gd_cX1_init_03_7 (0, .aload_n 0, 1) (List.mem_of_getElem? (i := 0) rfl)
theorem dX1_init_1 : decode cX1_init 1 = .ok (.invokespecial 1, 3) := gd_cX1_init_03_7 (1, .invokespecial 1, 3) (List.mem_of_getElem? (i := 1) rfl)
theorem dX1_init_4 : decode cX1_init 4 = .ok (.aload_n 0, 1) := gd_cX1_init_03_7 (4, .aload_n 0, 1) (List.mem_of_getElem? (i := 2) rfl)
theorem dX1_init_5 : decode cX1_init 5 = .ok (.iconst 4, 1) := gd_cX1_init_03_7 (5, .iconst 4, 1) (List.mem_of_getElem? (i := 3) rfl)
theorem dX1_init_6 : decode cX1_init 6 = .ok (.newarray .int, 2) := gd_cX1_init_03_7 (6, .newarray .int, 2) (List.mem_of_getElem? (i := 4) rfl)
theorem dX1_init_8 : decode cX1_init 8 = .ok (.putfield 9, 3) := gd_cX1_init_03_7 (8, .putfield 9, 3) (List.mem_of_getElem? (i := 5) rfl)
theorem dX1_init_11 : decode cX1_init 11 = .ok (.aload_n 0, 1) := gd_cX1_init_03_7 (11, .aload_n 0, 1) (List.mem_of_getElem? (i := 6) rfl)
theorem dX1_init_12 : decode cX1_init 12 = .ok (.iconst 4, 1) := gd_cX1_init_03_7 (12, .iconst 4, 1) (List.mem_of_getElem? (i := 7) rfl)
theorem dX1_init_13 : decode cX1_init 13 = .ok (.newarray .int, 2) := gd_cX1_init_03_7 (13, .newarray .int, 2) (List.mem_of_getElem? (i := 8) rfl)
theorem dX1_init_15 : decode cX1_init 15 = .ok (.putfield 13, 3) := gd_cX1_init_03_7 (15, .putfield 13, 3) (List.mem_of_getElem? (i := 9) rfl)
theorem dX1_init_18 : decode cX1_init 18 = .ok (.aload_n 0, 1) := gd_cX1_init_03_7 (18, .aload_n 0, 1) (List.mem_of_getElem? (i := 10) rfl)
theorem dX1_init_19 : decode cX1_init 19 = .ok (.iconst 3, 1) := gd_cX1_init_03_7 (19, .iconst 3, 1) (List.mem_of_getElem? (i := 11) rfl)
theorem dX1_init_20 : decode cX1_init 20 = .ok (.newarray .int, 2) := gd_cX1_init_03_7 (20, .newarray .int, 2) (List.mem_of_getElem? (i := 12) rfl)
theorem dX1_init_22 : decode cX1_init 22 = .ok (.putfield 16, 3) := gd_cX1_init_03_7 (22, .putfield 16, 3) (List.mem_of_getElem? (i := 13) rfl)
theorem dX1_init_25 : decode cX1_init 25 = .ok (.aload_n 0, 1) := gd_cX1_init_03_7 (25, .aload_n 0, 1) (List.mem_of_getElem? (i := 14) rfl)
theorem dX1_init_26 : decode cX1_init 26 = .ok (.iconst 3, 1) := gd_cX1_init_03_7 (26, .iconst 3, 1) (List.mem_of_getElem? (i := 15) rfl)
theorem dX1_init_27 : decode cX1_init 27 = .ok (.newarray .int, 2) := gd_cX1_init_03_7 (27, .newarray .int, 2) (List.mem_of_getElem? (i := 16) rfl)
theorem dX1_init_29 : decode cX1_init 29 = .ok (.putfield 19, 3) := gd_cX1_init_03_7 (29, .putfield 19, 3) (List.mem_of_getElem? (i := 17) rfl)
theorem dX1_init_32 : decode cX1_init 32 = .ok (.aload_n 0, 1) := gd_cX1_init_03_7 (32, .aload_n 0, 1) (List.mem_of_getElem? (i := 18) rfl)
theorem dX1_init_33 : decode cX1_init 33 = .ok (.iconst 3, 1) := gd_cX1_init_03_7 (33, .iconst 3, 1) (List.mem_of_getElem? (i := 19) rfl)
theorem dX1_init_34 : decode cX1_init 34 = .ok (.newarray .int, 2) := gd_cX1_init_03_7 (34, .newarray .int, 2) (List.mem_of_getElem? (i := 20) rfl)
theorem dX1_init_36 : decode cX1_init 36 = .ok (.putfield 22, 3) := gd_cX1_init_03_7 (36, .putfield 22, 3) (List.mem_of_getElem? (i := 21) rfl)
theorem dX1_init_39 : decode cX1_init 39 = .ok (.aload_n 0, 1) := gd_cX1_init_03_7 (39, .aload_n 0, 1) (List.mem_of_getElem? (i := 22) rfl)
theorem dX1_init_40 : decode cX1_init 40 = .ok (.iconst 3, 1) := gd_cX1_init_03_7 (40, .iconst 3, 1) (List.mem_of_getElem? (i := 23) rfl)
theorem dX1_init_41 : decode cX1_init 41 = .ok (.newarray .int, 2) := gd_cX1_init_03_7 (41, .newarray .int, 2) (List.mem_of_getElem? (i := 24) rfl)
theorem dX1_init_43 : decode cX1_init 43 = .ok (.putfield 25, 3) := gd_cX1_init_03_7 (43, .putfield 25, 3) (List.mem_of_getElem? (i := 25) rfl)
theorem dX1_init_46 : decode cX1_init 46 = .ok (.aload_n 0, 1) := gd_cX1_init_03_7 (46, .aload_n 0, 1) (List.mem_of_getElem? (i := 26) rfl)
theorem dX1_init_47 : decode cX1_init 47 = .ok (.iconst 4, 1) := gd_cX1_init_03_7 (47, .iconst 4, 1) (List.mem_of_getElem? (i := 27) rfl)
theorem dX1_init_48 : decode cX1_init 48 = .ok (.newarray .int, 2) := gd_cX1_init_03_7 (48, .newarray .int, 2) (List.mem_of_getElem? (i := 28) rfl)
theorem dX1_init_50 : decode cX1_init 50 = .ok (.putfield 28, 3) := gd_cX1_init_03_7 (50, .putfield 28, 3) (List.mem_of_getElem? (i := 29) rfl)
theorem dX1_init_53 : decode cX1_init 53 = .ok (.aload_n 0, 1) := gd_cX1_init_03_7 (53, .aload_n 0, 1) (List.mem_of_getElem? (i := 30) rfl)
theorem dX1_init_54 : decode cX1_init 54 = .ok (.new 31, 3) := gd_cX1_init_03_7 (54, .new 31, 3) (List.mem_of_getElem? (i := 31) rfl)
theorem dX1_init_57 : decode cX1_init 57 = .ok (.dup, 1) := gd_cX1_init_03_7 (57, .dup, 1) (List.mem_of_getElem? (i := 32) rfl)
theorem dX1_init_58 : decode cX1_init 58 = .ok (.invokespecial 33, 3) := gd_cX1_init_03_7 (58, .invokespecial 33, 3) (List.mem_of_getElem? (i := 33) rfl)
theorem dX1_init_61 : decode cX1_init 61 = .ok (.putfield 34, 3) := gd_cX1_init_03_7 (61, .putfield 34, 3) (List.mem_of_getElem? (i := 34) rfl)
theorem dX1_init_64 : decode cX1_init 64 = .ok (.aload_n 0, 1) := gd_cX1_init_03_7 (64, .aload_n 0, 1) (List.mem_of_getElem? (i := 35) rfl)
theorem dX1_init_65 : decode cX1_init 65 = .ok (.new 31, 3) := gd_cX1_init_03_7 (65, .new 31, 3) (List.mem_of_getElem? (i := 36) rfl)
theorem dX1_init_68 : decode cX1_init 68 = .ok (.dup, 1) := gd_cX1_init_03_7 (68, .dup, 1) (List.mem_of_getElem? (i := 37) rfl)
theorem dX1_init_69 : decode cX1_init 69 = .ok (.invokespecial 33, 3) := gd_cX1_init_03_7 (69, .invokespecial 33, 3) (List.mem_of_getElem? (i := 38) rfl)
theorem dX1_init_72 : decode cX1_init 72 = .ok (.putfield 38, 3) := gd_cX1_init_03_7 (72, .putfield 38, 3) (List.mem_of_getElem? (i := 39) rfl)
theorem dX1_init_75 : decode cX1_init 75 = .ok (.iconst 0, 1) := gd_cX1_init_03_7 (75, .iconst 0, 1) (List.mem_of_getElem? (i := 40) rfl)
theorem dX1_init_76 : decode cX1_init 76 = .ok (.istore_n 1, 1) := gd_cX1_init_03_7 (76, .istore_n 1, 1) (List.mem_of_getElem? (i := 41) rfl)
theorem dX1_init_77 : decode cX1_init 77 = .ok (.iload_n 1, 1) := gd_cX1_init_03_7 (77, .iload_n 1, 1) (List.mem_of_getElem? (i := 42) rfl)
theorem dX1_init_78 : decode cX1_init 78 = .ok (.iconst 3, 1) := gd_cX1_init_03_7 (78, .iconst 3, 1) (List.mem_of_getElem? (i := 43) rfl)
theorem dX1_init_79 : decode cX1_init 79 = .ok (.if_icmp .ge 23, 3) := gd_cX1_init_03_7 (79, .if_icmp .ge 23, 3) (List.mem_of_getElem? (i := 44) rfl)
theorem dX1_init_82 : decode cX1_init 82 = .ok (.aload_n 0, 1) := gd_cX1_init_03_7 (82, .aload_n 0, 1) (List.mem_of_getElem? (i := 45) rfl)
theorem dX1_init_83 : decode cX1_init 83 = .ok (.getfield 19, 3) := gd_cX1_init_03_7 (83, .getfield 19, 3) (List.mem_of_getElem? (i := 46) rfl)
theorem dX1_init_86 : decode cX1_init 86 = .ok (.iload_n 1, 1) := gd_cX1_init_03_7 (86, .iload_n 1, 1) (List.mem_of_getElem? (i := 47) rfl)
theorem dX1_init_87 : decode cX1_init 87 = .ok (.iconst 1, 1) := gd_cX1_init_03_7 (87, .iconst 1, 1) (List.mem_of_getElem? (i := 48) rfl)
theorem dX1_init_88 : decode cX1_init 88 = .ok (.iastore, 1) := gd_cX1_init_03_7 (88, .iastore, 1) (List.mem_of_getElem? (i := 49) rfl)
theorem dX1_init_89 : decode cX1_init 89 = .ok (.aload_n 0, 1) := gd_cX1_init_03_7 (89, .aload_n 0, 1) (List.mem_of_getElem? (i := 50) rfl)
theorem dX1_init_90 : decode cX1_init 90 = .ok (.getfield 25, 3) := gd_cX1_init_03_7 (90, .getfield 25, 3) (List.mem_of_getElem? (i := 51) rfl)
theorem dX1_init_93 : decode cX1_init 93 = .ok (.iload_n 1, 1) := gd_cX1_init_03_7 (93, .iload_n 1, 1) (List.mem_of_getElem? (i := 52) rfl)
theorem dX1_init_94 : decode cX1_init 94 = .ok (.iconst 1, 1) := gd_cX1_init_03_7 (94, .iconst 1, 1) (List.mem_of_getElem? (i := 53) rfl)
theorem dX1_init_95 : decode cX1_init 95 = .ok (.iastore, 1) := gd_cX1_init_03_7 (95, .iastore, 1) (List.mem_of_getElem? (i := 54) rfl)
theorem dX1_init_96 : decode cX1_init 96 = .ok (.iinc 1 1, 3) := gd_cX1_init_03_7 (96, .iinc 1 1, 3) (List.mem_of_getElem? (i := 55) rfl)
theorem dX1_init_99 : decode cX1_init 99 = .ok (.goto (-22), 3) := gd_cX1_init_03_7 (99, .goto (-22), 3) (List.mem_of_getElem? (i := 56) rfl)
theorem dX1_init_102 : decode cX1_init 102 = .ok (.return_, 1) := gd_cX1_init_03_7 (102, .return_, 1) (List.mem_of_getElem? (i := 57) rfl)
def gl_cX1_put_03_8 : List (Nat × Instr × Nat) := [(0, .iload_n 1, 1), (1, .invokestatic 41, 3), (4, .iload_n 2, 1), (5, .ldc2_w 45, 3), (8, .ldc2_w 47, 3), (11, .invokestatic 49, 3), (14, .iload_n 3, 1), (15, .lconst 0, 1), (16, .ldc2_w 53, 3), (19, .invokestatic 49, 3), (22, .aload_n 0, 1), (23, .iload_n 1, 1), (24, .iload_n 2, 1), (25, .i2l, 1), (26, .iload_n 3, 1), (27, .invokevirtual 55, 3), (30, .ireturn, 1)]
theorem gd_cX1_put_03_8 : ∀ q ∈ gl_cX1_put_03_8, decode cX1_put q.1 = .ok q.2 := fdk_of 0 (by decide +kernel)
theorem dX1_put_0 : decode cX1_put 0 = .ok (.iload_n 1, 1) := gd_cX1_put_03_8 (0, .iload_n 1, 1) (List.mem_of_getElem? (i := 0) rfl)
theorem dX1_put_1 : decode cX1_put 1 = .ok (.invokestatic 41, 3) := gd_cX1_put_03_8 (1, .invokestatic 41, 3) (List.mem_of_getElem? (i := 1) rfl)
theorem dX1_put_4 : decode cX1_put 4 = .ok (.iload_n 2, 1) := gd_cX1_put_03_8 (4, .iload_n 2, 1) (List.mem_of_getElem? (i := 2) rfl)
theorem dX1_put_5 : decode cX1_put 5 = .ok (.ldc2_w 45, 3) := gd_cX1_put_03_8 (5, .ldc2_w 45, 3) (List.mem_of_getElem? (i := 3) rfl)
theorem dX1_put_8 : decode cX1_put 8 = .ok (.ldc2_w 47, 3) := gd_cX1_put_03_8 (8, .ldc2_w 47, 3) (List.mem_of_getElem? (i := 4) rfl)
theorem dX1_put_11 : decode cX1_put 11 = .ok (.invokestatic 49, 3) := gd_cX1_put_03_8 (11, .invokestatic 49, 3) (List.mem_of_getElem? (i := 5) rfl)
theorem dX1_put_14 : decode cX1_put 14 = .ok (.iload_n 3, 1) := gd_cX1_put_03_8 (14, .iload_n 3, 1) (List.mem_of_getElem? (i := 6) rfl)
theorem dX1_put_15 : decode cX1_put 15 = .ok (.lconst 0, 1) := gd_cX1_put_03_8 (15, .lconst 0, 1) (List.mem_of_getElem? (i := 7) rfl)
theorem dX1_put_16 : decode cX1_put 16 = .ok (.ldc2_w 53, 3) := gd_cX1_put_03_8 (16, .ldc2_w 53, 3) (List.mem_of_getElem? (i := 8) rfl)
theorem dX1_put_19 : decode cX1_put 19 = .ok (.invokestatic 49, 3) := gd_cX1_put_03_8 (19, .invokestatic 49, 3) (List.mem_of_getElem? (i := 9) rfl)
theorem dX1_put_22 : decode cX1_put 22 = .ok (.aload_n 0, 1) := gd_cX1_put_03_8 (22, .aload_n 0, 1) (List.mem_of_getElem? (i := 10) rfl)
theorem dX1_put_23 : decode cX1_put 23 = .ok (.iload_n 1, 1) := gd_cX1_put_03_8 (23, .iload_n 1, 1) (List.mem_of_getElem? (i := 11) rfl)
theorem dX1_put_24 : decode cX1_put 24 = .ok (.iload_n 2, 1) := gd_cX1_put_03_8 (24, .iload_n 2, 1) (List.mem_of_getElem? (i := 12) rfl)
theorem dX1_put_25 : decode cX1_put 25 = .ok (.i2l, 1) := gd_cX1_put_03_8 (25, .i2l, 1) (List.mem_of_getElem? (i := 13) rfl)
theorem dX1_put_26 : decode cX1_put 26 = .ok (.iload_n 3, 1) := gd_cX1_put_03_8 (26, .iload_n 3, 1) (List.mem_of_getElem? (i := 14) rfl)
theorem dX1_put_27 : decode cX1_put 27 = .ok (.invokevirtual 55, 3) := gd_cX1_put_03_8 (27, .invokevirtual 55, 3) (List.mem_of_getElem? (i := 15) rfl)
theorem dX1_put_30 : decode cX1_put 30 = .ok (.ireturn, 1) := gd_cX1_put_03_8 (30, .ireturn, 1) (List.mem_of_getElem? (i := 16) rfl)
def gl_cX1_write_03_9 : List (Nat × Instr × Nat) := [(0, .iload_n 1, 1), (1, .invokestatic 41, 3), (4, .iload_n 3, 1), (5, .lconst 0, 1), (6, .ldc2_w 47, 3), (9, .invokestatic 49, 3), (12, .iload 4, 2), (14, .lconst 0, 1), (15, .ldc2_w 53, 3), (18, .invokestatic 49, 3), (21, .iload 5, 2), (23, .lconst 0, 1), (24, .iload 4, 2), (26, .invokestatic 59, 3), (29, .lconst 1, 1), (30, .lsub, 1), (31, .invokestatic 49, 3), (34, .iload_n 3, 1), (35, .i2l, 1), (36, .iload 4, 2), (38, .invokestatic 59, 3), (41, .lmul, 1), (42, .iload 5, 2), (44, .i2l, 1), (45, .ladd, 1), (46, .lstore 6, 2), (48, .aload_n 0, 1), (49, .iload_n 1, 1), (50, .iload_n 2, 1), (51, .ifCond .eq 9, 3), (54, .lload 6, 2), (56, .lneg, 1), (57, .goto 5, 3), (60, .lload 6, 2), (62, .iload 4, 2), (64, .invokevirtual 55, 3), (67, .ireturn, 1)]
theorem gd_cX1_write_03_9 : ∀ q ∈ gl_cX1_write_03_9, decode cX1_write q.1 = .ok q.2 := fdk_of 0 (by decide +kernel)
theorem dX1_write_0 : decode cX1_write 0 = .ok (.iload_n 1, 1) := gd_cX1_write_03_9 (0, .iload_n 1, 1) (List.mem_of_getElem? (i := 0) rfl)
theorem dX1_write_1 : decode cX1_write 1 = .ok (.invokestatic 41, 3) := gd_cX1_write_03_9 (1, .invokestatic 41, 3) (List.mem_of_getElem? (i := 1) rfl)
theorem dX1_write_4 : decode cX1_write 4 = .ok (.iload_n 3, 1) := gd_cX1_write_03_9 (4, .iload_n 3, 1) (List.mem_of_getElem? (i := 2) rfl)
theorem dX1_write_5 : decode cX1_write 5 = .ok (.lconst 0, 1) := gd_cX1_write_03_9 (5, .lconst 0, 1) (List.mem_of_getElem? (i := 3) rfl)
theorem dX1_write_6 : decode cX1_write 6 = .ok (.ldc2_w 47, 3) := gd_cX1_write_03_9 (6, .ldc2_w 47, 3) (List.mem_of_getElem? (i := 4) rfl)
theorem dX1_write_9 : decode cX1_write 9 = .ok (.invokestatic 49, 3) := gd_cX1_write_03_9 (9, .invokestatic 49, 3) (List.mem_of_getElem? (i := 5) rfl)
theorem dX1_write_12 : decode cX1_write 12 = .ok (.iload 4, 2) := gd_cX1_write_03_9 (12, .iload 4, 2) (List.mem_of_getElem? (i := 6) rfl)
theorem dX1_write_14 : decode cX1_write 14 = .ok (.lconst 0, 1) := gd_cX1_write_03_9 (14, .lconst 0, 1) (List.mem_of_getElem? (i := 7) rfl)
theorem dX1_write_15 : decode cX1_write 15 = .ok (.ldc2_w 53, 3) := gd_cX1_write_03_9 (15, .ldc2_w 53, 3) (List.mem_of_getElem? (i := 8) rfl)
theorem dX1_write_18 : decode cX1_write 18 = .ok (.invokestatic 49, 3) := gd_cX1_write_03_9 (18, .invokestatic 49, 3) (List.mem_of_getElem? (i := 9) rfl)
theorem dX1_write_21 : decode cX1_write 21 = .ok (.iload 5, 2) := gd_cX1_write_03_9 (21, .iload 5, 2) (List.mem_of_getElem? (i := 10) rfl)
theorem dX1_write_23 : decode cX1_write 23 = .ok (.lconst 0, 1) := gd_cX1_write_03_9 (23, .lconst 0, 1) (List.mem_of_getElem? (i := 11) rfl)
theorem dX1_write_24 : decode cX1_write 24 = .ok (.iload 4, 2) := gd_cX1_write_03_9 (24, .iload 4, 2) (List.mem_of_getElem? (i := 12) rfl)
theorem dX1_write_26 : decode cX1_write 26 = .ok (.invokestatic 59, 3) := gd_cX1_write_03_9 (26, .invokestatic 59, 3) (List.mem_of_getElem? (i := 13) rfl)
theorem dX1_write_29 : decode cX1_write 29 = .ok (.lconst 1, 1) := gd_cX1_write_03_9 (29, .lconst 1, 1) (List.mem_of_getElem? (i := 14) rfl)
theorem dX1_write_30 : decode cX1_write 30 = .ok (.lsub, 1) := gd_cX1_write_03_9 (30, .lsub, 1) (List.mem_of_getElem? (i := 15) rfl)
theorem dX1_write_31 : decode cX1_write 31 = .ok (.invokestatic 49, 3) := gd_cX1_write_03_9 (31, .invokestatic 49, 3) (List.mem_of_getElem? (i := 16) rfl)
theorem dX1_write_34 : decode cX1_write 34 = .ok (.iload_n 3, 1) := gd_cX1_write_03_9 (34, .iload_n 3, 1) (List.mem_of_getElem? (i := 17) rfl)
theorem dX1_write_35 : decode cX1_write 35 = .ok (.i2l, 1) := gd_cX1_write_03_9 (35, .i2l, 1) (List.mem_of_getElem? (i := 18) rfl)
theorem dX1_write_36 : decode cX1_write 36 = .ok (.iload 4, 2) := gd_cX1_write_03_9 (36, .iload 4, 2) (List.mem_of_getElem? (i := 19) rfl)
theorem dX1_write_38 : decode cX1_write 38 = .ok (.invokestatic 59, 3) := gd_cX1_write_03_9 (38, .invokestatic 59, 3) (List.mem_of_getElem? (i := 20) rfl)
theorem dX1_write_41 : decode cX1_write 41 = .ok (.lmul, 1) := gd_cX1_write_03_9 (41, .lmul, 1) (List.mem_of_getElem? (i := 21) rfl)
theorem dX1_write_42 : decode cX1_write 42 = .ok (.iload 5, 2) := gd_cX1_write_03_9 (42, .iload 5, 2) (List.mem_of_getElem? (i := 22) rfl)
theorem dX1_write_44 : decode cX1_write 44 = .ok (.i2l, 1) := gd_cX1_write_03_9 (44, .i2l, 1) (List.mem_of_getElem? (i := 23) rfl)
theorem dX1_write_45 : decode cX1_write 45 = .ok (.ladd, 1) := gd_cX1_write_03_9 (45, .ladd, 1) (List.mem_of_getElem? (i := 24) rfl)
theorem dX1_write_46 : decode cX1_write 46 = .ok (.lstore 6, 2) := gd_cX1_write_03_9 (46, .lstore 6, 2) (List.mem_of_getElem? (i := 25) rfl)
theorem dX1_write_48 : decode cX1_write 48 = .ok (.aload_n 0, 1) := gd_cX1_write_03_9 (48, .aload_n 0, 1) (List.mem_of_getElem? (i := 26) rfl)
theorem dX1_write_49 : decode cX1_write 49 = .ok (.iload_n 1, 1) := gd_cX1_write_03_9 (49, .iload_n 1, 1) (List.mem_of_getElem? (i := 27) rfl)
theorem dX1_write_50 : decode cX1_write 50 = .ok (.iload_n 2, 1) := gd_cX1_write_03_9 (50, .iload_n 2, 1) (List.mem_of_getElem? (i := 28) rfl)
theorem dX1_write_51 : decode cX1_write 51 = .ok (.ifCond .eq 9, 3) := gd_cX1_write_03_9 (51, .ifCond .eq 9, 3) (List.mem_of_getElem? (i := 29) rfl)
theorem dX1_write_54 : decode cX1_write 54 = .ok (.lload 6, 2) := gd_cX1_write_03_9 (54, .lload 6, 2) (List.mem_of_getElem? (i := 30) rfl)
theorem dX1_write_56 : decode cX1_write 56 = .ok (.lneg, 1) := gd_cX1_write_03_9 (56, .lneg, 1) (List.mem_of_getElem? (i := 31) rfl)
theorem dX1_write_57 : decode cX1_write 57 = .ok (.goto 5, 3) := gd_cX1_write_03_9 (57, .goto 5, 3) (List.mem_of_getElem? (i := 32) rfl)
theorem dX1_write_60 : decode cX1_write 60 = .ok (.lload 6, 2) := gd_cX1_write_03_9 (60, .lload 6, 2) (List.mem_of_getElem? (i := 33) rfl)
theorem dX1_write_62 : decode cX1_write 62 = .ok (.iload 4, 2) := gd_cX1_write_03_9 (62, .iload 4, 2) (List.mem_of_getElem? (i := 34) rfl)
theorem dX1_write_64 : decode cX1_write 64 = .ok (.invokevirtual 55, 3) := gd_cX1_write_03_9 (64, .invokevirtual 55, 3) (List.mem_of_getElem? (i := 35) rfl)
theorem dX1_write_67 : decode cX1_write 67 = .ok (.ireturn, 1) := gd_cX1_write_03_9 (67, .ireturn, 1) (List.mem_of_getElem? (i := 36) rfl)
def gl_cX1_copy_03_10 : List (Nat × Instr × Nat) := [(0, .iload_n 1, 1), (1, .invokestatic 41, 3), (4, .iload_n 2, 1), (5, .invokestatic 41, 3), (8, .aload_n 0, 1), (9, .iload_n 2, 1), (10, .aload_n 0, 1), (11, .getfield 9, 3), (14, .iload_n 1, 1), (15, .iaload, 1), (16, .i2l, 1), (17, .aload_n 0, 1), (18, .getfield 13, 3), (21, .iload_n 1, 1), (22, .iaload, 1), (23, .invokevirtual 55, 3), (26, .ireturn, 1)]
theorem gd_cX1_copy_03_10 : ∀ q ∈ gl_cX1_copy_03_10, decode cX1_copy q.1 = .ok q.2 := fdk_of 0 (by decide +kernel)
theorem dX1_copy_0 : decode cX1_copy 0 = .ok (.iload_n 1, 1) := gd_cX1_copy_03_10 (0, .iload_n 1, 1) (List.mem_of_getElem? (i := 0) rfl)
theorem dX1_copy_1 : decode cX1_copy 1 = .ok (.invokestatic 41, 3) := gd_cX1_copy_03_10 (1, .invokestatic 41, 3) (List.mem_of_getElem? (i := 1) rfl)
theorem dX1_copy_4 : decode cX1_copy 4 = .ok (.iload_n 2, 1) := gd_cX1_copy_03_10 (4, .iload_n 2, 1) (List.mem_of_getElem? (i := 2) rfl)
theorem dX1_copy_5 : decode cX1_copy 5 = .ok (.invokestatic 41, 3) := gd_cX1_copy_03_10 (5, .invokestatic 41, 3) (List.mem_of_getElem? (i := 3) rfl)
theorem dX1_copy_8 : decode cX1_copy 8 = .ok (.aload_n 0, 1) := gd_cX1_copy_03_10 (8, .aload_n 0, 1) (List.mem_of_getElem? (i := 4) rfl)
theorem dX1_copy_9 : decode cX1_copy 9 = .ok (.iload_n 2, 1) := gd_cX1_copy_03_10 (9, .iload_n 2, 1) (List.mem_of_getElem? (i := 5) rfl)
theorem dX1_copy_10 : decode cX1_copy 10 = .ok (.aload_n 0, 1) := gd_cX1_copy_03_10 (10, .aload_n 0, 1) (List.mem_of_getElem? (i := 6) rfl)
theorem dX1_copy_11 : decode cX1_copy 11 = .ok (.getfield 9, 3) := gd_cX1_copy_03_10 (11, .getfield 9, 3) (List.mem_of_getElem? (i := 7) rfl)
theorem dX1_copy_14 : decode cX1_copy 14 = .ok (.iload_n 1, 1) := gd_cX1_copy_03_10 (14, .iload_n 1, 1) (List.mem_of_getElem? (i := 8) rfl)
theorem dX1_copy_15 : decode cX1_copy 15 = .ok (.iaload, 1) := gd_cX1_copy_03_10 (15, .iaload, 1) (List.mem_of_getElem? (i := 9) rfl)
theorem dX1_copy_16 : decode cX1_copy 16 = .ok (.i2l, 1) := gd_cX1_copy_03_10 (16, .i2l, 1) (List.mem_of_getElem? (i := 10) rfl)
theorem dX1_copy_17 : decode cX1_copy 17 = .ok (.aload_n 0, 1) := gd_cX1_copy_03_10 (17, .aload_n 0, 1) (List.mem_of_getElem? (i := 11) rfl)
theorem dX1_copy_18 : decode cX1_copy 18 = .ok (.getfield 13, 3) := gd_cX1_copy_03_10 (18, .getfield 13, 3) (List.mem_of_getElem? (i := 12) rfl)
theorem dX1_copy_21 : decode cX1_copy 21 = .ok (.iload_n 1, 1) := gd_cX1_copy_03_10 (21, .iload_n 1, 1) (List.mem_of_getElem? (i := 13) rfl)
theorem dX1_copy_22 : decode cX1_copy 22 = .ok (.iaload, 1) := gd_cX1_copy_03_10 (22, .iaload, 1) (List.mem_of_getElem? (i := 14) rfl)
theorem dX1_copy_23 : decode cX1_copy 23 = .ok (.invokevirtual 55, 3) := gd_cX1_copy_03_10 (23, .invokevirtual 55, 3) (List.mem_of_getElem? (i := 15) rfl)
theorem dX1_copy_26 : decode cX1_copy 26 = .ok (.ireturn, 1) := gd_cX1_copy_03_10 (26, .ireturn, 1) (List.mem_of_getElem? (i := 16) rfl)
def gl_cX1_negate_03_11 : List (Nat × Instr × Nat) := [(0, .iload_n 1, 1), (1, .invokestatic 41, 3), (4, .aload_n 0, 1), (5, .iload_n 1, 1), (6, .aload_n 0, 1), (7, .getfield 9, 3), (10, .iload_n 1, 1), (11, .iaload, 1), (12, .ineg, 1), (13, .i2l, 1), (14, .aload_n 0, 1), (15, .getfield 13, 3), (18, .iload_n 1, 1), (19, .iaload, 1), (20, .invokevirtual 55, 3), (23, .ireturn, 1)]
theorem gd_cX1_negate_03_11 : ∀ q ∈ gl_cX1_negate_03_11, decode cX1_negate q.1 = .ok q.2 := fdk_of 0 (by decide +kernel)
theorem dX1_negate_0 : decode cX1_negate 0 = .ok (.iload_n 1, 1) := gd_cX1_negate_03_11 (0, .iload_n 1, 1) (List.mem_of_getElem? (i := 0) rfl)
theorem dX1_negate_1 : decode cX1_negate 1 = .ok (.invokestatic 41, 3) := gd_cX1_negate_03_11 (1, .invokestatic 41, 3) (List.mem_of_getElem? (i := 1) rfl)
theorem dX1_negate_4 : decode cX1_negate 4 = .ok (.aload_n 0, 1) := gd_cX1_negate_03_11 (4, .aload_n 0, 1) (List.mem_of_getElem? (i := 2) rfl)
theorem dX1_negate_5 : decode cX1_negate 5 = .ok (.iload_n 1, 1) := gd_cX1_negate_03_11 (5, .iload_n 1, 1) (List.mem_of_getElem? (i := 3) rfl)
theorem dX1_negate_6 : decode cX1_negate 6 = .ok (.aload_n 0, 1) := gd_cX1_negate_03_11 (6, .aload_n 0, 1) (List.mem_of_getElem? (i := 4) rfl)
theorem dX1_negate_7 : decode cX1_negate 7 = .ok (.getfield 9, 3) := gd_cX1_negate_03_11 (7, .getfield 9, 3) (List.mem_of_getElem? (i := 5) rfl)
theorem dX1_negate_10 : decode cX1_negate 10 = .ok (.iload_n 1, 1) := gd_cX1_negate_03_11 (10, .iload_n 1, 1) (List.mem_of_getElem? (i := 6) rfl)
theorem dX1_negate_11 : decode cX1_negate 11 = .ok (.iaload, 1) := gd_cX1_negate_03_11 (11, .iaload, 1) (List.mem_of_getElem? (i := 7) rfl)
theorem dX1_negate_12 : decode cX1_negate 12 = .ok (.ineg, 1) := gd_cX1_negate_03_11 (12, .ineg, 1) (List.mem_of_getElem? (i := 8) rfl)
theorem dX1_negate_13 : decode cX1_negate 13 = .ok (.i2l, 1) := gd_cX1_negate_03_11 (13, .i2l, 1) (List.mem_of_getElem? (i := 9) rfl)
theorem dX1_negate_14 : decode cX1_negate 14 = .ok (.aload_n 0, 1) := gd_cX1_negate_03_11 (14, .aload_n 0, 1) (List.mem_of_getElem? (i := 10) rfl)
theorem dX1_negate_15 : decode cX1_negate 15 = .ok (.getfield 13, 3) := gd_cX1_negate_03_11 (15, .getfield 13, 3) (List.mem_of_getElem? (i := 11) rfl)
theorem dX1_negate_18 : decode cX1_negate 18 = .ok (.iload_n 1, 1) := gd_cX1_negate_03_11 (18, .iload_n 1, 1) (List.mem_of_getElem? (i := 12) rfl)
theorem dX1_negate_19 : decode cX1_negate 19 = .ok (.iaload, 1) := gd_cX1_negate_03_11 (19, .iaload, 1) (List.mem_of_getElem? (i := 13) rfl)
theorem dX1_negate_20 : decode cX1_negate 20 = .ok (.invokevirtual 55, 3) := gd_cX1_negate_03_11 (20, .invokevirtual 55, 3) (List.mem_of_getElem? (i := 14) rfl)
theorem dX1_negate_23 : decode cX1_negate 23 = .ok (.ireturn, 1) := gd_cX1_negate_03_11 (23, .ireturn, 1) (List.mem_of_getElem? (i := 15) rfl)
def gl_cX1_size_03_12 : List (Nat × Instr × Nat) := [(0, .iload_n 1, 1), (1, .invokestatic 41, 3), (4, .aload_n 0, 1), (5, .iload_n 1, 1), (6, .aload_n 0, 1), (7, .getfield 9, 3), (10, .iload_n 1, 1), (11, .iaload, 1), (12, .invokestatic 63, 3), (15, .i2l, 1), (16, .aload_n 0, 1), (17, .getfield 13, 3), (20, .iload_n 1, 1), (21, .iaload, 1), (22, .invokevirtual 55, 3), (25, .ireturn, 1)]
theorem gd_cX1_size_03_12 : ∀ q ∈ gl_cX1_size_03_12, decode cX1_size q.1 = .ok q.2 := fdk_of 0 (by decide +kernel)
theorem dX1_size_0 : decode cX1_size 0 = .ok (.iload_n 1, 1) := gd_cX1_size_03_12 (0, .iload_n 1, 1) (List.mem_of_getElem? (i := 0) rfl)
theorem dX1_size_1 : decode cX1_size 1 = .ok (.invokestatic 41, 3) := gd_cX1_size_03_12 (1, .invokestatic 41, 3) (List.mem_of_getElem? (i := 1) rfl)
theorem dX1_size_4 : decode cX1_size 4 = .ok (.aload_n 0, 1) := gd_cX1_size_03_12 (4, .aload_n 0, 1) (List.mem_of_getElem? (i := 2) rfl)
theorem dX1_size_5 : decode cX1_size 5 = .ok (.iload_n 1, 1) := gd_cX1_size_03_12 (5, .iload_n 1, 1) (List.mem_of_getElem? (i := 3) rfl)
theorem dX1_size_6 : decode cX1_size 6 = .ok (.aload_n 0, 1) := gd_cX1_size_03_12 (6, .aload_n 0, 1) (List.mem_of_getElem? (i := 4) rfl)
theorem dX1_size_7 : decode cX1_size 7 = .ok (.getfield 9, 3) := gd_cX1_size_03_12 (7, .getfield 9, 3) (List.mem_of_getElem? (i := 5) rfl)
theorem dX1_size_10 : decode cX1_size 10 = .ok (.iload_n 1, 1) := gd_cX1_size_03_12 (10, .iload_n 1, 1) (List.mem_of_getElem? (i := 6) rfl)
theorem dX1_size_11 : decode cX1_size 11 = .ok (.iaload, 1) := gd_cX1_size_03_12 (11, .iaload, 1) (List.mem_of_getElem? (i := 7) rfl)
theorem dX1_size_12 : decode cX1_size 12 = .ok (.invokestatic 63, 3) := gd_cX1_size_03_12 (12, .invokestatic 63, 3) (List.mem_of_getElem? (i := 8) rfl)
theorem dX1_size_15 : decode cX1_size 15 = .ok (.i2l, 1) := gd_cX1_size_03_12 (15, .i2l, 1) (List.mem_of_getElem? (i := 9) rfl)
theorem dX1_size_16 : decode cX1_size 16 = .ok (.aload_n 0, 1) := gd_cX1_size_03_12 (16, .aload_n 0, 1) (List.mem_of_getElem? (i := 10) rfl)
theorem dX1_size_17 : decode cX1_size 17 = .ok (.getfield 13, 3) := gd_cX1_size_03_12 (17, .getfield 13, 3) (List.mem_of_getElem? (i := 11) rfl)
theorem dX1_size_20 : decode cX1_size 20 = .ok (.iload_n 1, 1) := gd_cX1_size_03_12 (20, .iload_n 1, 1) (List.mem_of_getElem? (i := 12) rfl)
theorem dX1_size_21 : decode cX1_size 21 = .ok (.iaload, 1) := gd_cX1_size_03_12 (21, .iaload, 1) (List.mem_of_getElem? (i := 13) rfl)
theorem dX1_size_22 : decode cX1_size 22 = .ok (.invokevirtual 55, 3) := gd_cX1_size_03_12 (22, .invokevirtual 55, 3) (List.mem_of_getElem? (i := 14) rfl)
theorem dX1_size_25 : decode cX1_size 25 = .ok (.ireturn, 1) := gd_cX1_size_03_12 (25, .ireturn, 1) (List.mem_of_getElem? (i := 15) rfl)
def gl_cX1_add_03_13 : List (Nat × Instr × Nat) := [(0, .iload_n 1, 1), (1, .invokestatic 41, 3), (4, .iload_n 2, 1), (5, .invokestatic 41, 3), (8, .iload_n 3, 1), (9, .invokestatic 41, 3), (12, .aload_n 0, 1), (13, .getfield 13, 3), (16, .iload_n 1, 1), (17, .iaload, 1), (18, .aload_n 0, 1), (19, .getfield 13, 3), (22, .iload_n 2, 1), (23, .iaload, 1), (24, .invokestatic 69, 3), (27, .istore 4, 2), (29, .aload_n 0, 1), (30, .iload_n 3, 1), (31, .aload_n 0, 1), (32, .iload_n 1, 1), (33, .iload 4, 2), (35, .invokevirtual 73, 3), (38, .aload_n 0, 1), (39, .iload_n 2, 1), (40, .iload 4, 2), (42, .invokevirtual 73, 3), (45, .ladd, 1), (46, .iload 4, 2), (48, .invokevirtual 55, 3), (51, .ireturn, 1)]
theorem gd_cX1_add_03_13 : ∀ q ∈ gl_cX1_add_03_13, decode cX1_add q.1 = .ok q.2 := fdk_of 0 (by decide +kernel)
theorem dX1_add_0 : decode cX1_add 0 = .ok (.iload_n 1, 1) := gd_cX1_add_03_13 (0, .iload_n 1, 1) (List.mem_of_getElem? (i := 0) rfl)
theorem dX1_add_1 : decode cX1_add 1 = .ok (.invokestatic 41, 3) := gd_cX1_add_03_13 (1, .invokestatic 41, 3) (List.mem_of_getElem? (i := 1) rfl)
theorem dX1_add_4 : decode cX1_add 4 = .ok (.iload_n 2, 1) := gd_cX1_add_03_13 (4, .iload_n 2, 1) (List.mem_of_getElem? (i := 2) rfl)
theorem dX1_add_5 : decode cX1_add 5 = .ok (.invokestatic 41, 3) := gd_cX1_add_03_13 (5, .invokestatic 41, 3) (List.mem_of_getElem? (i := 3) rfl)
theorem dX1_add_8 : decode cX1_add 8 = .ok (.iload_n 3, 1) := gd_cX1_add_03_13 (8, .iload_n 3, 1) (List.mem_of_getElem? (i := 4) rfl)
theorem dX1_add_9 : decode cX1_add 9 = .ok (.invokestatic 41, 3) := gd_cX1_add_03_13 (9, .invokestatic 41, 3) (List.mem_of_getElem? (i := 5) rfl)
theorem dX1_add_12 : decode cX1_add 12 = .ok (.aload_n 0, 1) := gd_cX1_add_03_13 (12, .aload_n 0, 1) (List.mem_of_getElem? (i := 6) rfl)
theorem dX1_add_13 : decode cX1_add 13 = .ok (.getfield 13, 3) := gd_cX1_add_03_13 (13, .getfield 13, 3) (List.mem_of_getElem? (i := 7) rfl)
theorem dX1_add_16 : decode cX1_add 16 = .ok (.iload_n 1, 1) := gd_cX1_add_03_13 (16, .iload_n 1, 1) (List.mem_of_getElem? (i := 8) rfl)
theorem dX1_add_17 : decode cX1_add 17 = .ok (.iaload, 1) := gd_cX1_add_03_13 (17, .iaload, 1) (List.mem_of_getElem? (i := 9) rfl)
theorem dX1_add_18 : decode cX1_add 18 = .ok (.aload_n 0, 1) := gd_cX1_add_03_13 (18, .aload_n 0, 1) (List.mem_of_getElem? (i := 10) rfl)
theorem dX1_add_19 : decode cX1_add 19 = .ok (.getfield 13, 3) := gd_cX1_add_03_13 (19, .getfield 13, 3) (List.mem_of_getElem? (i := 11) rfl)
theorem dX1_add_22 : decode cX1_add 22 = .ok (.iload_n 2, 1) := gd_cX1_add_03_13 (22, .iload_n 2, 1) (List.mem_of_getElem? (i := 12) rfl)
theorem dX1_add_23 : decode cX1_add 23 = .ok (.iaload, 1) := gd_cX1_add_03_13 (23, .iaload, 1) (List.mem_of_getElem? (i := 13) rfl)
theorem dX1_add_24 : decode cX1_add 24 = .ok (.invokestatic 69, 3) := gd_cX1_add_03_13 (24, .invokestatic 69, 3) (List.mem_of_getElem? (i := 14) rfl)
theorem dX1_add_27 : decode cX1_add 27 = .ok (.istore 4, 2) := gd_cX1_add_03_13 (27, .istore 4, 2) (List.mem_of_getElem? (i := 15) rfl)
theorem dX1_add_29 : decode cX1_add 29 = .ok (.aload_n 0, 1) := gd_cX1_add_03_13 (29, .aload_n 0, 1) (List.mem_of_getElem? (i := 16) rfl)
theorem dX1_add_30 : decode cX1_add 30 = .ok (.iload_n 3, 1) := gd_cX1_add_03_13 (30, .iload_n 3, 1) (List.mem_of_getElem? (i := 17) rfl)
theorem dX1_add_31 : decode cX1_add 31 = .ok (.aload_n 0, 1) := gd_cX1_add_03_13 (31, .aload_n 0, 1) (List.mem_of_getElem? (i := 18) rfl)
theorem dX1_add_32 : decode cX1_add 32 = .ok (.iload_n 1, 1) := gd_cX1_add_03_13 (32, .iload_n 1, 1) (List.mem_of_getElem? (i := 19) rfl)
theorem dX1_add_33 : decode cX1_add 33 = .ok (.iload 4, 2) := gd_cX1_add_03_13 (33, .iload 4, 2) (List.mem_of_getElem? (i := 20) rfl)
theorem dX1_add_35 : decode cX1_add 35 = .ok (.invokevirtual 73, 3) := gd_cX1_add_03_13 (35, .invokevirtual 73, 3) (List.mem_of_getElem? (i := 21) rfl)
theorem dX1_add_38 : decode cX1_add 38 = .ok (.aload_n 0, 1) := gd_cX1_add_03_13 (38, .aload_n 0, 1) (List.mem_of_getElem? (i := 22) rfl)
theorem dX1_add_39 : decode cX1_add 39 = .ok (.iload_n 2, 1) := gd_cX1_add_03_13 (39, .iload_n 2, 1) (List.mem_of_getElem? (i := 23) rfl)
theorem dX1_add_40 : decode cX1_add 40 = .ok (.iload 4, 2) := gd_cX1_add_03_13 (40, .iload 4, 2) (List.mem_of_getElem? (i := 24) rfl)
theorem dX1_add_42 : decode cX1_add 42 = .ok (.invokevirtual 73, 3) := gd_cX1_add_03_13 (42, .invokevirtual 73, 3) (List.mem_of_getElem? (i := 25) rfl)
theorem dX1_add_45 : decode cX1_add 45 = .ok (.ladd, 1) := gd_cX1_add_03_13 (45, .ladd, 1) (List.mem_of_getElem? (i := 26) rfl)
theorem dX1_add_46 : decode cX1_add 46 = .ok (.iload 4, 2) := gd_cX1_add_03_13 (46, .iload 4, 2) (List.mem_of_getElem? (i := 27) rfl)
theorem dX1_add_48 : decode cX1_add 48 = .ok (.invokevirtual 55, 3) := gd_cX1_add_03_13 (48, .invokevirtual 55, 3) (List.mem_of_getElem? (i := 28) rfl)
theorem dX1_add_51 : decode cX1_add 51 = .ok (.ireturn, 1) := gd_cX1_add_03_13 (51, .ireturn, 1) (List.mem_of_getElem? (i := 29) rfl)
def gl_cX1_subtract_03_14 : List (Nat × Instr × Nat) := [(0, .iload_n 1, 1), (1, .invokestatic 41, 3), (4, .iload_n 2, 1), (5, .invokestatic 41, 3), (8, .iload_n 3, 1), (9, .invokestatic 41, 3), (12, .aload_n 0, 1), (13, .getfield 13, 3), (16, .iload_n 1, 1), (17, .iaload, 1), (18, .aload_n 0, 1), (19, .getfield 13, 3), (22, .iload_n 2, 1), (23, .iaload, 1), (24, .invokestatic 69, 3), (27, .istore 4, 2), (29, .aload_n 0, 1), (30, .iload_n 3, 1), (31, .aload_n 0, 1), (32, .iload_n 1, 1), (33, .iload 4, 2), (35, .invokevirtual 73, 3), (38, .aload_n 0, 1), (39, .iload_n 2, 1), (40, .iload 4, 2), (42, .invokevirtual 73, 3), (45, .lsub, 1), (46, .iload 4, 2), (48, .invokevirtual 55, 3), (51, .ireturn, 1)]
theorem gd_cX1_subtract_03_14 : ∀ q ∈ gl_cX1_subtract_03_14, decode cX1_subtract q.1 = .ok q.2 := fdk_of 0 (by decide +kernel)
theorem dX1_subtract_0 : decode cX1_subtract 0 = .ok (.iload_n 1, 1) := gd_cX1_subtract_03_14 (0, .iload_n 1, 1) (List.mem_of_getElem? (i := 0) rfl)
theorem dX1_subtract_1 : decode cX1_subtract 1 = .ok (.invokestatic 41, 3) := gd_cX1_subtract_03_14 (1, .invokestatic 41, 3) (List.mem_of_getElem? (i := 1) rfl)
theorem dX1_subtract_4 : decode cX1_subtract 4 = .ok (.iload_n 2, 1) := gd_cX1_subtract_03_14 (4, .iload_n 2, 1) (List.mem_of_getElem? (i := 2) rfl)
theorem dX1_subtract_5 : decode cX1_subtract 5 = .ok (.invokestatic 41, 3) := gd_cX1_subtract_03_14 (5, .invokestatic 41, 3) (List.mem_of_getElem? (i := 3) rfl)
theorem dX1_subtract_8 : decode cX1_subtract 8 = .ok (.iload_n 3, 1) := gd_cX1_subtract_03_14 (8, .iload_n 3, 1) (List.mem_of_getElem? (i := 4) rfl)
theorem dX1_subtract_9 : decode cX1_subtract 9 = .ok (.invokestatic 41, 3) := gd_cX1_subtract_03_14 (9, .invokestatic 41, 3) (List.mem_of_getElem? (i := 5) rfl)
theorem dX1_subtract_12 : decode cX1_subtract 12 = .ok (.aload_n 0, 1) := gd_cX1_subtract_03_14 (12, .aload_n 0, 1) (List.mem_of_getElem? (i := 6) rfl)
theorem dX1_subtract_13 : decode cX1_subtract 13 = .ok (.getfield 13, 3) := gd_cX1_subtract_03_14 (13, .getfield 13, 3) (List.mem_of_getElem? (i := 7) rfl)
theorem dX1_subtract_16 : decode cX1_subtract 16 = .ok (.iload_n 1, 1) := gd_cX1_subtract_03_14 (16, .iload_n 1, 1) (List.mem_of_getElem? (i := 8) rfl)
theorem dX1_subtract_17 : decode cX1_subtract 17 = .ok (.iaload, 1) := gd_cX1_subtract_03_14 (17, .iaload, 1) (List.mem_of_getElem? (i := 9) rfl)
theorem dX1_subtract_18 : decode cX1_subtract 18 = .ok (.aload_n 0, 1) := gd_cX1_subtract_03_14 (18, .aload_n 0, 1) (List.mem_of_getElem? (i := 10) rfl)
theorem dX1_subtract_19 : decode cX1_subtract 19 = .ok (.getfield 13, 3) := gd_cX1_subtract_03_14 (19, .getfield 13, 3) (List.mem_of_getElem? (i := 11) rfl)
theorem dX1_subtract_22 : decode cX1_subtract 22 = .ok (.iload_n 2, 1) := gd_cX1_subtract_03_14 (22, .iload_n 2, 1) (List.mem_of_getElem? (i := 12) rfl)
theorem dX1_subtract_23 : decode cX1_subtract 23 = .ok (.iaload, 1) := gd_cX1_subtract_03_14 (23, .iaload, 1) (List.mem_of_getElem? (i := 13) rfl)
theorem dX1_subtract_24 : decode cX1_subtract 24 = .ok (.invokestatic 69, 3) := gd_cX1_subtract_03_14 (24, .invokestatic 69, 3) (List.mem_of_getElem? (i := 14) rfl)
theorem dX1_subtract_27 : decode cX1_subtract 27 = .ok (.istore 4, 2) := gd_cX1_subtract_03_14 (27, .istore 4, 2) (List.mem_of_getElem? (i := 15) rfl)
theorem dX1_subtract_29 : decode cX1_subtract 29 = .ok (.aload_n 0, 1) := gd_cX1_subtract_03_14 (29, .aload_n 0, 1) (List.mem_of_getElem? (i := 16) rfl)
theorem dX1_subtract_30 : decode cX1_subtract 30 = .ok (.iload_n 3, 1) := gd_cX1_subtract_03_14 (30, .iload_n 3, 1) (List.mem_of_getElem? (i := 17) rfl)
theorem dX1_subtract_31 : decode cX1_subtract 31 = .ok (.aload_n 0, 1) := gd_cX1_subtract_03_14 (31, .aload_n 0, 1) (List.mem_of_getElem? (i := 18) rfl)
theorem dX1_subtract_32 : decode cX1_subtract 32 = .ok (.iload_n 1, 1) := gd_cX1_subtract_03_14 (32, .iload_n 1, 1) (List.mem_of_getElem? (i := 19) rfl)
theorem dX1_subtract_33 : decode cX1_subtract 33 = .ok (.iload 4, 2) := gd_cX1_subtract_03_14 (33, .iload 4, 2) (List.mem_of_getElem? (i := 20) rfl)
theorem dX1_subtract_35 : decode cX1_subtract 35 = .ok (.invokevirtual 73, 3) := gd_cX1_subtract_03_14 (35, .invokevirtual 73, 3) (List.mem_of_getElem? (i := 21) rfl)
theorem dX1_subtract_38 : decode cX1_subtract 38 = .ok (.aload_n 0, 1) := gd_cX1_subtract_03_14 (38, .aload_n 0, 1) (List.mem_of_getElem? (i := 22) rfl)
theorem dX1_subtract_39 : decode cX1_subtract 39 = .ok (.iload_n 2, 1) := gd_cX1_subtract_03_14 (39, .iload_n 2, 1) (List.mem_of_getElem? (i := 23) rfl)
theorem dX1_subtract_40 : decode cX1_subtract 40 = .ok (.iload 4, 2) := gd_cX1_subtract_03_14 (40, .iload 4, 2) (List.mem_of_getElem? (i := 24) rfl)
theorem dX1_subtract_42 : decode cX1_subtract 42 = .ok (.invokevirtual 73, 3) := gd_cX1_subtract_03_14 (42, .invokevirtual 73, 3) (List.mem_of_getElem? (i := 25) rfl)
theorem dX1_subtract_45 : decode cX1_subtract 45 = .ok (.lsub, 1) := gd_cX1_subtract_03_14 (45, .lsub, 1) (List.mem_of_getElem? (i := 26) rfl)
theorem dX1_subtract_46 : decode cX1_subtract 46 = .ok (.iload 4, 2) := gd_cX1_subtract_03_14 (46, .iload 4, 2) (List.mem_of_getElem? (i := 27) rfl)
theorem dX1_subtract_48 : decode cX1_subtract 48 = .ok (.invokevirtual 55, 3) := gd_cX1_subtract_03_14 (48, .invokevirtual 55, 3) (List.mem_of_getElem? (i := 28) rfl)
theorem dX1_subtract_51 : decode cX1_subtract 51 = .ok (.ireturn, 1) := gd_cX1_subtract_03_14 (51, .ireturn, 1) (List.mem_of_getElem? (i := 29) rfl)
def gl_cX1_multiply_03_15 : List (Nat × Instr × Nat) := [(0, .iload_n 1, 1), (1, .invokestatic 41, 3), (4, .iload_n 2, 1), (5, .invokestatic 41, 3), (8, .iload_n 3, 1), (9, .invokestatic 41, 3), (12, .aload_n 0, 1), (13, .iload_n 3, 1), (14, .aload_n 0, 1), (15, .getfield 9, 3), (18, .iload_n 1, 1), (19, .iaload, 1), (20, .i2l, 1), (21, .aload_n 0, 1), (22, .getfield 9, 3), (25, .iload_n 2, 1), (26, .iaload, 1), (27, .i2l, 1), (28, .lmul, 1), (29, .aload_n 0, 1), (30, .getfield 13, 3), (33, .iload_n 1, 1), (34, .iaload, 1), (35, .aload_n 0, 1), (36, .getfield 13, 3), (39, .iload_n 2, 1), (40, .iaload, 1), (41, .iadd, 1), (42, .invokevirtual 55, 3), (45, .ireturn, 1)]
theorem gd_cX1_multiply_03_15 : ∀ q ∈ gl_cX1_multiply_03_15, decode cX1_multiply q.1 = .ok q.2 := fdk_of 0 (by decide +kernel)
theorem dX1_multiply_0 : decode cX1_multiply 0 = .ok (.iload_n 1, 1) := gd_cX1_multiply_03_15 (0, .iload_n 1, 1) (List.mem_of_getElem? (i := 0) rfl)
theorem dX1_multiply_1 : decode cX1_multiply 1 = .ok (.invokestatic 41, 3) := gd_cX1_multiply_03_15 (1, .invokestatic 41, 3) (List.mem_of_getElem? (i := 1) rfl)
theorem dX1_multiply_4 : decode cX1_multiply 4 = .ok (.iload_n 2, 1) := gd_cX1_multiply_03_15 (4, .iload_n 2, 1) (List.mem_of_getElem? (i := 2) rfl)
theorem dX1_multiply_5 : decode cX1_multiply 5 = .ok (.invokestatic 41, 3) := gd_cX1_multiply_03_15 (5, .invokestatic 41, 3) (List.mem_of_getElem? (i := 3) rfl)
theorem dX1_multiply_8 : decode cX1_multiply 8 = .ok (.iload_n 3, 1) := gd_cX1_multiply_03_15 (8, .iload_n 3, 1) (List.mem_of_getElem? (i := 4) rfl)
theorem dX1_multiply_9 : decode cX1_multiply 9 = .ok (.invokestatic 41, 3) := gd_cX1_multiply_03_15 (9, .invokestatic 41, 3) (List.mem_of_getElem? (i := 5) rfl)
theorem dX1_multiply_12 : decode cX1_multiply 12 = .ok (.aload_n 0, 1) := gd_cX1_multiply_03_15 (12, .aload_n 0, 1) (List.mem_of_getElem? (i := 6) rfl)
theorem dX1_multiply_13 : decode cX1_multiply 13 = .ok (.iload_n 3, 1) := gd_cX1_multiply_03_15 (13, .iload_n 3, 1) (List.mem_of_getElem? (i := 7) rfl)
theorem dX1_multiply_14 : decode cX1_multiply 14 = .ok (.aload_n 0, 1) := gd_cX1_multiply_03_15 (14, .aload_n 0, 1) (List.mem_of_getElem? (i := 8) rfl)
theorem dX1_multiply_15 : decode cX1_multiply 15 = .ok (.getfield 9, 3) := gd_cX1_multiply_03_15 (15, .getfield 9, 3) (List.mem_of_getElem? (i := 9) rfl)
theorem dX1_multiply_18 : decode cX1_multiply 18 = .ok (.iload_n 1, 1) := gd_cX1_multiply_03_15 (18, .iload_n 1, 1) (List.mem_of_getElem? (i := 10) rfl)
theorem dX1_multiply_19 : decode cX1_multiply 19 = .ok (.iaload, 1) := gd_cX1_multiply_03_15 (19, .iaload, 1) (List.mem_of_getElem? (i := 11) rfl)
theorem dX1_multiply_20 : decode cX1_multiply 20 = .ok (.i2l, 1) := gd_cX1_multiply_03_15 (20, .i2l, 1) (List.mem_of_getElem? (i := 12) rfl)
theorem dX1_multiply_21 : decode cX1_multiply 21 = .ok (.aload_n 0, 1) := gd_cX1_multiply_03_15 (21, .aload_n 0, 1) (List.mem_of_getElem? (i := 13) rfl)
theorem dX1_multiply_22 : decode cX1_multiply 22 = .ok (.getfield 9, 3) := gd_cX1_multiply_03_15 (22, .getfield 9, 3) (List.mem_of_getElem? (i := 14) rfl)
theorem dX1_multiply_25 : decode cX1_multiply 25 = .ok (.iload_n 2, 1) := gd_cX1_multiply_03_15 (25, .iload_n 2, 1) (List.mem_of_getElem? (i := 15) rfl)
theorem dX1_multiply_26 : decode cX1_multiply 26 = .ok (.iaload, 1) := gd_cX1_multiply_03_15 (26, .iaload, 1) (List.mem_of_getElem? (i := 16) rfl)
theorem dX1_multiply_27 : decode cX1_multiply 27 = .ok (.i2l, 1) := gd_cX1_multiply_03_15 (27, .i2l, 1) (List.mem_of_getElem? (i := 17) rfl)
theorem dX1_multiply_28 : decode cX1_multiply 28 = .ok (.lmul, 1) := gd_cX1_multiply_03_15 (28, .lmul, 1) (List.mem_of_getElem? (i := 18) rfl)
theorem dX1_multiply_29 : decode cX1_multiply 29 = .ok (.aload_n 0, 1) := gd_cX1_multiply_03_15 (29, .aload_n 0, 1) (List.mem_of_getElem? (i := 19) rfl)
theorem dX1_multiply_30 : decode cX1_multiply 30 = .ok (.getfield 13, 3) := gd_cX1_multiply_03_15 (30, .getfield 13, 3) (List.mem_of_getElem? (i := 20) rfl)
theorem dX1_multiply_33 : decode cX1_multiply 33 = .ok (.iload_n 1, 1) := gd_cX1_multiply_03_15 (33, .iload_n 1, 1) (List.mem_of_getElem? (i := 21) rfl)
theorem dX1_multiply_34 : decode cX1_multiply 34 = .ok (.iaload, 1) := gd_cX1_multiply_03_15 (34, .iaload, 1) (List.mem_of_getElem? (i := 22) rfl)
theorem dX1_multiply_35 : decode cX1_multiply 35 = .ok (.aload_n 0, 1) := gd_cX1_multiply_03_15 (35, .aload_n 0, 1) (List.mem_of_getElem? (i := 23) rfl)
theorem dX1_multiply_36 : decode cX1_multiply 36 = .ok (.getfield 13, 3) := gd_cX1_multiply_03_15 (36, .getfield 13, 3) (List.mem_of_getElem? (i := 24) rfl)
theorem dX1_multiply_39 : decode cX1_multiply 39 = .ok (.iload_n 2, 1) := gd_cX1_multiply_03_15 (39, .iload_n 2, 1) (List.mem_of_getElem? (i := 25) rfl)
theorem dX1_multiply_40 : decode cX1_multiply 40 = .ok (.iaload, 1) := gd_cX1_multiply_03_15 (40, .iaload, 1) (List.mem_of_getElem? (i := 26) rfl)
theorem dX1_multiply_41 : decode cX1_multiply 41 = .ok (.iadd, 1) := gd_cX1_multiply_03_15 (41, .iadd, 1) (List.mem_of_getElem? (i := 27) rfl)
theorem dX1_multiply_42 : decode cX1_multiply 42 = .ok (.invokevirtual 55, 3) := gd_cX1_multiply_03_15 (42, .invokevirtual 55, 3) (List.mem_of_getElem? (i := 28) rfl)
theorem dX1_multiply_45 : decode cX1_multiply 45 = .ok (.ireturn, 1) := gd_cX1_multiply_03_15 (45, .ireturn, 1) (List.mem_of_getElem? (i := 29) rfl)
def gl_cX1_power_03_16 : List (Nat × Instr × Nat) := [(0, .iload_n 1, 1), (1, .invokestatic 41, 3), (4, .iload_n 3, 1), (5, .invokestatic 41, 3), (8, .iload_n 2, 1), (9, .lconst 0, 1), (10, .ldc2_w 53, 3), (13, .invokestatic 49, 3), (16, .lconst 1, 1), (17, .lstore 4, 2), (19, .iconst 0, 1), (20, .istore 6, 2), (22, .iload 6, 2), (24, .iload_n 2, 1), (25, .if_icmp .ge 21, 3), (28, .lload 4, 2), (30, .aload_n 0, 1), (31, .getfield 9, 3), (34, .iload_n 1, 1), (35, .iaload, 1), (36, .i2l, 1), (37, .lmul, 1), (38, .lstore 4, 2), (40, .iinc 6 1, 3), (43, .goto (-21), 3), (46, .aload_n 0, 1), (47, .iload_n 3, 1), (48, .lload 4, 2), (50, .iload_n 2, 1), (51, .aload_n 0, 1), (52, .getfield 13, 3), (55, .iload_n 1, 1), (56, .iaload, 1), (57, .imul, 1), (58, .invokevirtual 55, 3), (61, .ireturn, 1)]
theorem gd_cX1_power_03_16 : ∀ q ∈ gl_cX1_power_03_16, decode cX1_power q.1 = .ok q.2 := fdk_of 0 (by decide +kernel)
theorem dX1_power_0 : decode cX1_power 0 = .ok (.iload_n 1, 1) := gd_cX1_power_03_16 (0, .iload_n 1, 1) (List.mem_of_getElem? (i := 0) rfl)
theorem dX1_power_1 : decode cX1_power 1 = .ok (.invokestatic 41, 3) := gd_cX1_power_03_16 (1, .invokestatic 41, 3) (List.mem_of_getElem? (i := 1) rfl)
theorem dX1_power_4 : decode cX1_power 4 = .ok (.iload_n 3, 1) := gd_cX1_power_03_16 (4, .iload_n 3, 1) (List.mem_of_getElem? (i := 2) rfl)
theorem dX1_power_5 : decode cX1_power 5 = .ok (.invokestatic 41, 3) := gd_cX1_power_03_16 (5, .invokestatic 41, 3) (List.mem_of_getElem? (i := 3) rfl)
theorem dX1_power_8 : decode cX1_power 8 = .ok (.iload_n 2, 1) := gd_cX1_power_03_16 (8, .iload_n 2, 1) (List.mem_of_getElem? (i := 4) rfl)
theorem dX1_power_9 : decode cX1_power 9 = .ok (.lconst 0, 1) := gd_cX1_power_03_16 (9, .lconst 0, 1) (List.mem_of_getElem? (i := 5) rfl)
theorem dX1_power_10 : decode cX1_power 10 = .ok (.ldc2_w 53, 3) := gd_cX1_power_03_16 (10, .ldc2_w 53, 3) (List.mem_of_getElem? (i := 6) rfl)
theorem dX1_power_13 : decode cX1_power 13 = .ok (.invokestatic 49, 3) := gd_cX1_power_03_16 (13, .invokestatic 49, 3) (List.mem_of_getElem? (i := 7) rfl)
theorem dX1_power_16 : decode cX1_power 16 = .ok (.lconst 1, 1) := gd_cX1_power_03_16 (16, .lconst 1, 1) (List.mem_of_getElem? (i := 8) rfl)
theorem dX1_power_17 : decode cX1_power 17 = .ok (.lstore 4, 2) := gd_cX1_power_03_16 (17, .lstore 4, 2) (List.mem_of_getElem? (i := 9) rfl)
theorem dX1_power_19 : decode cX1_power 19 = .ok (.iconst 0, 1) := gd_cX1_power_03_16 (19, .iconst 0, 1) (List.mem_of_getElem? (i := 10) rfl)
theorem dX1_power_20 : decode cX1_power 20 = .ok (.istore 6, 2) := gd_cX1_power_03_16 (20, .istore 6, 2) (List.mem_of_getElem? (i := 11) rfl)
theorem dX1_power_22 : decode cX1_power 22 = .ok (.iload 6, 2) := gd_cX1_power_03_16 (22, .iload 6, 2) (List.mem_of_getElem? (i := 12) rfl)
theorem dX1_power_24 : decode cX1_power 24 = .ok (.iload_n 2, 1) := gd_cX1_power_03_16 (24, .iload_n 2, 1) (List.mem_of_getElem? (i := 13) rfl)
theorem dX1_power_25 : decode cX1_power 25 = .ok (.if_icmp .ge 21, 3) := gd_cX1_power_03_16 (25, .if_icmp .ge 21, 3) (List.mem_of_getElem? (i := 14) rfl)
theorem dX1_power_28 : decode cX1_power 28 = .ok (.lload 4, 2) := gd_cX1_power_03_16 (28, .lload 4, 2) (List.mem_of_getElem? (i := 15) rfl)
theorem dX1_power_30 : decode cX1_power 30 = .ok (.aload_n 0, 1) := gd_cX1_power_03_16 (30, .aload_n 0, 1) (List.mem_of_getElem? (i := 16) rfl)
theorem dX1_power_31 : decode cX1_power 31 = .ok (.getfield 9, 3) := gd_cX1_power_03_16 (31, .getfield 9, 3) (List.mem_of_getElem? (i := 17) rfl)
theorem dX1_power_34 : decode cX1_power 34 = .ok (.iload_n 1, 1) := gd_cX1_power_03_16 (34, .iload_n 1, 1) (List.mem_of_getElem? (i := 18) rfl)
theorem dX1_power_35 : decode cX1_power 35 = .ok (.iaload, 1) := gd_cX1_power_03_16 (35, .iaload, 1) (List.mem_of_getElem? (i := 19) rfl)
theorem dX1_power_36 : decode cX1_power 36 = .ok (.i2l, 1) := gd_cX1_power_03_16 (36, .i2l, 1) (List.mem_of_getElem? (i := 20) rfl)
theorem dX1_power_37 : decode cX1_power 37 = .ok (.lmul, 1) := gd_cX1_power_03_16 (37, .lmul, 1) (List.mem_of_getElem? (i := 21) rfl)
theorem dX1_power_38 : decode cX1_power 38 = .ok (.lstore 4, 2) := gd_cX1_power_03_16 (38, .lstore 4, 2) (List.mem_of_getElem? (i := 22) rfl)
theorem dX1_power_40 : decode cX1_power 40 = .ok (.iinc 6 1, 3) := gd_cX1_power_03_16 (40, .iinc 6 1, 3) (List.mem_of_getElem? (i := 23) rfl)
theorem dX1_power_43 : decode cX1_power 43 = .ok (.goto (-21), 3) := gd_cX1_power_03_16 (43, .goto (-21), 3) (List.mem_of_getElem? (i := 24) rfl)
theorem dX1_power_46 : decode cX1_power 46 = .ok (.aload_n 0, 1) := gd_cX1_power_03_16 (46, .aload_n 0, 1) (List.mem_of_getElem? (i := 25) rfl)
theorem dX1_power_47 : decode cX1_power 47 = .ok (.iload_n 3, 1) := gd_cX1_power_03_16 (47, .iload_n 3, 1) (List.mem_of_getElem? (i := 26) rfl)
theorem dX1_power_48 : decode cX1_power 48 = .ok (.lload 4, 2) := gd_cX1_power_03_16 (48, .lload 4, 2) (List.mem_of_getElem? (i := 27) rfl)
theorem dX1_power_50 : decode cX1_power 50 = .ok (.iload_n 2, 1) := gd_cX1_power_03_16 (50, .iload_n 2, 1) (List.mem_of_getElem? (i := 28) rfl)
theorem dX1_power_51 : decode cX1_power 51 = .ok (.aload_n 0, 1) := gd_cX1_power_03_16 (51, .aload_n 0, 1) (List.mem_of_getElem? (i := 29) rfl)
theorem dX1_power_52 : decode cX1_power 52 = .ok (.getfield 13, 3) := gd_cX1_power_03_16 (52, .getfield 13, 3) (List.mem_of_getElem? (i := 30) rfl)
theorem dX1_power_55 : decode cX1_power 55 = .ok (.iload_n 1, 1) := gd_cX1_power_03_16 (55, .iload_n 1, 1) (List.mem_of_getElem? (i := 31) rfl)
theorem dX1_power_56 : decode cX1_power 56 = .ok (.iaload, 1) := gd_cX1_power_03_16 (56, .iaload, 1) (List.mem_of_getElem? (i := 32) rfl)
theorem dX1_power_57 : decode cX1_power 57 = .ok (.imul, 1) := gd_cX1_power_03_16 (57, .imul, 1) (List.mem_of_getElem? (i := 33) rfl)
theorem dX1_power_58 : decode cX1_power 58 = .ok (.invokevirtual 55, 3) := gd_cX1_power_03_16 (58, .invokevirtual 55, 3) (List.mem_of_getElem? (i := 34) rfl)
theorem dX1_power_61 : decode cX1_power 61 = .ok (.ireturn, 1) := gd_cX1_power_03_16 (61, .ireturn, 1) (List.mem_of_getElem? (i := 35) rfl)
def gl_cX1_divide_03_17 : List (Nat × Instr × Nat) := [(0, .iload_n 1, 1), (1, .invokestatic 41, 3), (4, .iload_n 2, 1), (5, .invokestatic 41, 3), (8, .iload 5, 2), (10, .invokestatic 41, 3), (13, .iload_n 3, 1), (14, .lconst 0, 1), (15, .ldc2_w 53, 3), (18, .invokestatic 49, 3), (21, .iload 4, 2), (23, .invokestatic 77, 3), (26, .aload_n 0, 1), (27, .getfield 9, 3), (30, .iload_n 1, 1), (31, .iaload, 1), (32, .i2l, 1), (33, .aload_n 0, 1), (34, .getfield 13, 3), (37, .iload_n 2, 1), (38, .iaload, 1), (39, .invokestatic 59, 3), (42, .lmul, 1), (43, .iload_n 3, 1), (44, .invokestatic 59, 3), (47, .lmul, 1), (48, .lstore 6, 2), (50, .aload_n 0, 1), (51, .getfield 9, 3), (54, .iload_n 2, 1), (55, .iaload, 1), (56, .i2l, 1), (57, .aload_n 0, 1), (58, .getfield 13, 3), (61, .iload_n 1, 1), (62, .iaload, 1), (63, .invokestatic 59, 3), (66, .lmul, 1), (67, .lstore 8, 2), (69, .lload 8, 2), (71, .lconst 0, 1), (72, .lcmp, 1), (73, .ifCond .ne 8, 3), (76, .aload_n 0, 1), (77, .invokevirtual 80, 3), (80, .ireturn, 1), (81, .aload_n 0, 1), (82, .iload 5, 2), (84, .lload 8, 2), (86, .lconst 0, 1), (87, .lcmp, 1), (88, .ifCond .ge 17, 3), (91, .lload 6, 2), (93, .lneg, 1), (94, .lload 8, 2), (96, .lneg, 1), (97, .iload 4, 2), (99, .invokestatic 84, 3), (102, .goto 12, 3), (105, .lload 6, 2)]
theorem gd_cX1_divide_03_17 : ∀ q ∈ gl_cX1_divide_03_17, decode cX1_divide q.1 = .ok q.2 := fdk_of 0 (by decide +kernel)
theorem dX1_divide_0 : decode cX1_divide 0 = .ok (.iload_n 1, 1) := gd_cX1_divide_03_17 (0, .iload_n 1, 1) (List.mem_of_getElem? (i := 0) rfl)
theorem dX1_divide_1 : decode cX1_divide 1 = .ok (.invokestatic 41, 3) := gd_cX1_divide_03_17 (1, .invokestatic 41, 3) (List.mem_of_getElem? (i := 1) rfl)
theorem dX1_divide_4 : decode cX1_divide 4 = .ok (.iload_n 2, 1) := gd_cX1_divide_03_17 (4, .iload_n 2, 1) (List.mem_of_getElem? (i := 2) rfl)
theorem dX1_divide_5 : decode cX1_divide 5 = .ok (.invokestatic 41, 3) := gd_cX1_divide_03_17 (5, .invokestatic 41, 3) (List.mem_of_getElem? (i := 3) rfl)
theorem dX1_divide_8 : decode cX1_divide 8 = .ok (.iload 5, 2) := gd_cX1_divide_03_17 (8, .iload 5, 2) (List.mem_of_getElem? (i := 4) rfl)
theorem dX1_divide_10 : decode cX1_divide 10 = .ok (.invokestatic 41, 3) := gd_cX1_divide_03_17 (10, .invokestatic 41, 3) (List.mem_of_getElem? (i := 5) rfl)
theorem dX1_divide_13 : decode cX1_divide 13 = .ok (.iload_n 3, 1) := gd_cX1_divide_03_17 (13, .iload_n 3, 1) (List.mem_of_getElem? (i := 6) rfl)
theorem dX1_divide_14 : decode cX1_divide 14 = .ok (.lconst 0, 1) := gd_cX1_divide_03_17 (14, .lconst 0, 1) (List.mem_of_getElem? (i := 7) rfl)
theorem dX1_divide_15 : decode cX1_divide 15 = .ok (.ldc2_w 53, 3) := gd_cX1_divide_03_17 (15, .ldc2_w 53, 3) (List.mem_of_getElem? (i := 8) rfl)
theorem dX1_divide_18 : decode cX1_divide 18 = .ok (.invokestatic 49, 3) := gd_cX1_divide_03_17 (18, .invokestatic 49, 3) (List.mem_of_getElem? (i := 9) rfl)
theorem dX1_divide_21 : decode cX1_divide 21 = .ok (.iload 4, 2) := gd_cX1_divide_03_17 (21, .iload 4, 2) (List.mem_of_getElem? (i := 10) rfl)
theorem dX1_divide_23 : decode cX1_divide 23 = .ok (.invokestatic 77, 3) := gd_cX1_divide_03_17 (23, .invokestatic 77, 3) (List.mem_of_getElem? (i := 11) rfl)
theorem dX1_divide_26 : decode cX1_divide 26 = .ok (.aload_n 0, 1) := gd_cX1_divide_03_17 (26, .aload_n 0, 1) (List.mem_of_getElem? (i := 12) rfl)
theorem dX1_divide_27 : decode cX1_divide 27 = .ok (.getfield 9, 3) := gd_cX1_divide_03_17 (27, .getfield 9, 3) (List.mem_of_getElem? (i := 13) rfl)
theorem dX1_divide_30 : decode cX1_divide 30 = .ok (.iload_n 1, 1) := gd_cX1_divide_03_17 (30, .iload_n 1, 1) (List.mem_of_getElem? (i := 14) rfl)
theorem dX1_divide_31 : decode cX1_divide 31 = .ok (.iaload, 1) := gd_cX1_divide_03_17 (31, .iaload, 1) (List.mem_of_getElem? (i := 15) rfl)
theorem dX1_divide_32 : decode cX1_divide 32 = .ok (.i2l, 1) := gd_cX1_divide_03_17 (32, .i2l, 1) (List.mem_of_getElem? (i := 16) rfl)
theorem dX1_divide_33 : decode cX1_divide 33 = .ok (.aload_n 0, 1) := gd_cX1_divide_03_17 (33, .aload_n 0, 1) (List.mem_of_getElem? (i := 17) rfl)
theorem dX1_divide_34 : decode cX1_divide 34 = .ok (.getfield 13, 3) := gd_cX1_divide_03_17 (34, .getfield 13, 3) (List.mem_of_getElem? (i := 18) rfl)
theorem dX1_divide_37 : decode cX1_divide 37 = .ok (.iload_n 2, 1) := gd_cX1_divide_03_17 (37, .iload_n 2, 1) (List.mem_of_getElem? (i := 19) rfl)
theorem dX1_divide_38 : decode cX1_divide 38 = .ok (.iaload, 1) := gd_cX1_divide_03_17 (38, .iaload, 1) (List.mem_of_getElem? (i := 20) rfl)
theorem dX1_divide_39 : decode cX1_divide 39 = .ok (.invokestatic 59, 3) := gd_cX1_divide_03_17 (39, .invokestatic 59, 3) (List.mem_of_getElem? (i := 21) rfl)
theorem dX1_divide_42 : decode cX1_divide 42 = .ok (.lmul, 1) := gd_cX1_divide_03_17 (42, .lmul, 1) (List.mem_of_getElem? (i := 22) rfl)
theorem dX1_divide_43 : decode cX1_divide 43 = .ok (.iload_n 3, 1) := gd_cX1_divide_03_17 (43, .iload_n 3, 1) (List.mem_of_getElem? (i := 23) rfl)
theorem dX1_divide_44 : decode cX1_divide 44 = .ok (.invokestatic 59, 3) := gd_cX1_divide_03_17 (44, .invokestatic 59, 3) (List.mem_of_getElem? (i := 24) rfl)
theorem dX1_divide_47 : decode cX1_divide 47 = .ok (.lmul, 1) := gd_cX1_divide_03_17 (47, .lmul, 1) (List.mem_of_getElem? (i := 25) rfl)
theorem dX1_divide_48 : decode cX1_divide 48 = .ok (.lstore 6, 2) := gd_cX1_divide_03_17 (48, .lstore 6, 2) (List.mem_of_getElem? (i := 26) rfl)
theorem dX1_divide_50 : decode cX1_divide 50 = .ok (.aload_n 0, 1) := gd_cX1_divide_03_17 (50, .aload_n 0, 1) (List.mem_of_getElem? (i := 27) rfl)
theorem dX1_divide_51 : decode cX1_divide 51 = .ok (.getfield 9, 3) := gd_cX1_divide_03_17 (51, .getfield 9, 3) (List.mem_of_getElem? (i := 28) rfl)
theorem dX1_divide_54 : decode cX1_divide 54 = .ok (.iload_n 2, 1) := gd_cX1_divide_03_17 (54, .iload_n 2, 1) (List.mem_of_getElem? (i := 29) rfl)
theorem dX1_divide_55 : decode cX1_divide 55 = .ok (.iaload, 1) := gd_cX1_divide_03_17 (55, .iaload, 1) (List.mem_of_getElem? (i := 30) rfl)
theorem dX1_divide_56 : decode cX1_divide 56 = .ok (.i2l, 1) := gd_cX1_divide_03_17 (56, .i2l, 1) (List.mem_of_getElem? (i := 31) rfl)
theorem dX1_divide_57 : decode cX1_divide 57 = .ok (.aload_n 0, 1) := gd_cX1_divide_03_17 (57, .aload_n 0, 1) (List.mem_of_getElem? (i := 32) rfl)
theorem dX1_divide_58 : decode cX1_divide 58 = .ok (.getfield 13, 3) := gd_cX1_divide_03_17 (58, .getfield 13, 3) (List.mem_of_getElem? (i := 33) rfl)
theorem dX1_divide_61 : decode cX1_divide 61 = .ok (.iload_n 1, 1) := gd_cX1_divide_03_17 (61, .iload_n 1, 1) (List.mem_of_getElem? (i := 34) rfl)
theorem dX1_divide_62 : decode cX1_divide 62 = .ok (.iaload, 1) := gd_cX1_divide_03_17 (62, .iaload, 1) (List.mem_of_getElem? (i := 35) rfl)
theorem dX1_divide_63 : decode cX1_divide 63 = .ok (.invokestatic 59, 3) := gd_cX1_divide_03_17 (63, .invokestatic 59, 3) (List.mem_of_getElem? (i := 36) rfl)
theorem dX1_divide_66 : decode cX1_divide 66 = .ok (.lmul, 1) := gd_cX1_divide_03_17 (66, .lmul, 1) (List.mem_of_getElem? (i := 37) rfl)
theorem dX1_divide_67 : decode cX1_divide 67 = .ok (.lstore 8, 2) := gd_cX1_divide_03_17 (67, .lstore 8, 2) (List.mem_of_getElem? (i := 38) rfl)
theorem dX1_divide_69 : decode cX1_divide 69 = .ok (.lload 8, 2) := gd_cX1_divide_03_17 (69, .lload 8, 2) (List.mem_of_getElem? (i := 39) rfl)
theorem dX1_divide_71 : decode cX1_divide 71 = .ok (.lconst 0, 1) := gd_cX1_divide_03_17 (71, .lconst 0, 1) (List.mem_of_getElem? (i := 40) rfl)
theorem dX1_divide_72 : decode cX1_divide 72 = .ok (.lcmp, 1) := gd_cX1_divide_03_17 (72, .lcmp, 1) (List.mem_of_getElem? (i := 41) rfl)
theorem dX1_divide_73 : decode cX1_divide 73 = .ok (.ifCond .ne 8, 3) := gd_cX1_divide_03_17 (73, .ifCond .ne 8, 3) (List.mem_of_getElem? (i := 42) rfl)
theorem dX1_divide_76 : decode cX1_divide 76 = .ok (.aload_n 0, 1) := gd_cX1_divide_03_17 (76, .aload_n 0, 1) (List.mem_of_getElem? (i := 43) rfl)
theorem dX1_divide_77 : decode cX1_divide 77 = .ok (.invokevirtual 80, 3) := gd_cX1_divide_03_17 (77, .invokevirtual 80, 3) (List.mem_of_getElem? (i := 44) rfl)
theorem dX1_divide_80 : decode cX1_divide 80 = .ok (.ireturn, 1) := gd_cX1_divide_03_17 (80, .ireturn, 1) (List.mem_of_getElem? (i := 45) rfl)
theorem dX1_divide_81 : decode cX1_divide 81 = .ok (.aload_n 0, 1) := gd_cX1_divide_03_17 (81, .aload_n 0, 1) (List.mem_of_getElem? (i := 46) rfl)
theorem dX1_divide_82 : decode cX1_divide 82 = .ok (.iload 5, 2) := gd_cX1_divide_03_17 (82, .iload 5, 2) (List.mem_of_getElem? (i := 47) rfl)
theorem dX1_divide_84 : decode cX1_divide 84 = .ok (.lload 8, 2) := gd_cX1_divide_03_17 (84, .lload 8, 2) (List.mem_of_getElem? (i := 48) rfl)
theorem dX1_divide_86 : decode cX1_divide 86 = .ok (.lconst 0, 1) := gd_cX1_divide_03_17 (86, .lconst 0, 1) (List.mem_of_getElem? (i := 49) rfl)
theorem dX1_divide_87 : decode cX1_divide 87 = .ok (.lcmp, 1) := gd_cX1_divide_03_17 (87, .lcmp, 1) (List.mem_of_getElem? (i := 50) rfl)
theorem dX1_divide_88 : decode cX1_divide 88 = .ok (.ifCond .ge 17, 3) := gd_cX1_divide_03_17 (88, .ifCond .ge 17, 3) (List.mem_of_getElem? (i := 51) rfl)
theorem dX1_divide_91 : decode cX1_divide 91 = .ok (.lload 6, 2) := gd_cX1_divide_03_17 (91, .lload 6, 2) (List.mem_of_getElem? (i := 52) rfl)
theorem dX1_divide_93 : decode cX1_divide 93 = .ok (.lneg, 1) := gd_cX1_divide_03_17 (93, .lneg, 1) (List.mem_of_getElem? (i := 53) rfl)
theorem dX1_divide_94 : decode cX1_divide 94 = .ok (.lload 8, 2) := gd_cX1_divide_03_17 (94, .lload 8, 2) (List.mem_of_getElem? (i := 54) rfl)
theorem dX1_divide_96 : decode cX1_divide 96 = .ok (.lneg, 1) := gd_cX1_divide_03_17 (96, .lneg, 1) (List.mem_of_getElem? (i := 55) rfl)
theorem dX1_divide_97 : decode cX1_divide 97 = .ok (.iload 4, 2) := gd_cX1_divide_03_17 (97, .iload 4, 2) (List.mem_of_getElem? (i := 56) rfl)
theorem dX1_divide_99 : decode cX1_divide 99 = .ok (.invokestatic 84, 3) := gd_cX1_divide_03_17 (99, .invokestatic 84, 3) (List.mem_of_getElem? (i := 57) rfl)
theorem dX1_divide_102 : decode cX1_divide 102 = .ok (.goto 12, 3) := gd_cX1_divide_03_17 (102, .goto 12, 3) (List.mem_of_getElem? (i := 58) rfl)
theorem dX1_divide_105 : decode cX1_divide 105 = .ok (.lload 6, 2) := gd_cX1_divide_03_17 (105, .lload 6, 2) (List.mem_of_getElem? (i := 59) rfl)
def gl_cX1_divide_03_18 : List (Nat × Instr × Nat) := [(107, .lload 8, 2), (109, .iload 4, 2), (111, .invokestatic 84, 3), (114, .iload_n 3, 1), (115, .invokevirtual 55, 3), (118, .ireturn, 1)]
theorem gd_cX1_divide_03_18 : ∀ q ∈ gl_cX1_divide_03_18, decode cX1_divide q.1 = .ok q.2 := fdk_of 107 (by decide +kernel)
theorem dX1_divide_107 : decode cX1_divide 107 = .ok (.lload 8, 2) := gd_cX1_divide_03_18 (107, .lload 8, 2) (List.mem_of_getElem? (i := 0) rfl)
theorem dX1_divide_109 : decode cX1_divide 109 = .ok (.iload 4, 2) := gd_cX1_divide_03_18 (109, .iload 4, 2) (List.mem_of_getElem? (i := 1) rfl)
theorem dX1_divide_111 : decode cX1_divide 111 = .ok (.invokestatic 84, 3) := gd_cX1_divide_03_18 (111, .invokestatic 84, 3) (List.mem_of_getElem? (i := 2) rfl)
theorem dX1_divide_114 : decode cX1_divide 114 = .ok (.iload_n 3, 1) := gd_cX1_divide_03_18 (114, .iload_n 3, 1) (List.mem_of_getElem? (i := 3) rfl)
theorem dX1_divide_115 : decode cX1_divide 115 = .ok (.invokevirtual 55, 3) := gd_cX1_divide_03_18 (115, .invokevirtual 55, 3) (List.mem_of_getElem? (i := 4) rfl)
theorem dX1_divide_118 : decode cX1_divide 118 = .ok (.ireturn, 1) := gd_cX1_divide_03_18 (118, .ireturn, 1) (List.mem_of_getElem? (i := 5) rfl)
def gl_cX1_share_03_19 : List (Nat × Instr × Nat) := [(0, .iload_n 1, 1), (1, .invokestatic 41, 3), (4, .iload_n 3, 1), (5, .invokestatic 41, 3), (8, .iload_n 2, 1), (9, .ldc2_w 88, 3), (12, .ldc2_w 90, 3), (15, .invokestatic 49, 3), (18, .iload_n 2, 1), (19, .ifCond .ne 8, 3), (22, .aload_n 0, 1), (23, .invokevirtual 80, 3), (26, .ireturn, 1), (27, .aload_n 0, 1), (28, .getfield 9, 3), (31, .iload_n 1, 1), (32, .iaload, 1), (33, .i2l, 1), (34, .lstore 4, 2), (36, .aload_n 0, 1), (37, .getfield 13, 3), (40, .iload_n 1, 1), (41, .iaload, 1), (42, .istore 6, 2), (44, .lload 4, 2), (46, .iload_n 2, 1), (47, .i2l, 1), (48, .lrem, 1), (49, .lconst 0, 1), (50, .lcmp, 1), (51, .ifCond .eq 23, 3), (54, .iload 6, 2), (56, .iconst 3, 1), (57, .if_icmp .ge 17, 3), (60, .lload 4, 2), (62, .ldc2_w 92, 3), (65, .lmul, 1), (66, .lstore 4, 2), (68, .iinc 6 1, 3), (71, .goto (-27), 3), (74, .lload 4, 2), (76, .iload_n 2, 1), (77, .i2l, 1), (78, .lrem, 1), (79, .lconst 0, 1), (80, .lcmp, 1), (81, .ifCond .ne 18, 3), (84, .aload_n 0, 1), (85, .iload_n 3, 1), (86, .lload 4, 2), (88, .iload_n 2, 1), (89, .i2l, 1), (90, .ldiv, 1), (91, .iload 6, 2), (93, .invokevirtual 55, 3), (96, .goto 7, 3), (99, .aload_n 0, 1), (100, .invokevirtual 80, 3), (103, .ireturn, 1)]
theorem gd_cX1_share_03_19 : ∀ q ∈ gl_cX1_share_03_19, decode cX1_share q.1 = .ok q.2 := fdk_of 0 (by decide +kernel)
theorem dX1_share_0 : decode cX1_share 0 = .ok (.iload_n 1, 1) := gd_cX1_share_03_19 (0, .iload_n 1, 1) (List.mem_of_getElem? (i := 0) rfl)
theorem dX1_share_1 : decode cX1_share 1 = .ok (.invokestatic 41, 3) := gd_cX1_share_03_19 (1, .invokestatic 41, 3) (List.mem_of_getElem? (i := 1) rfl)
theorem dX1_share_4 : decode cX1_share 4 = .ok (.iload_n 3, 1) := gd_cX1_share_03_19 (4, .iload_n 3, 1) (List.mem_of_getElem? (i := 2) rfl)
theorem dX1_share_5 : decode cX1_share 5 = .ok (.invokestatic 41, 3) := gd_cX1_share_03_19 (5, .invokestatic 41, 3) (List.mem_of_getElem? (i := 3) rfl)
theorem dX1_share_8 : decode cX1_share 8 = .ok (.iload_n 2, 1) := gd_cX1_share_03_19 (8, .iload_n 2, 1) (List.mem_of_getElem? (i := 4) rfl)
theorem dX1_share_9 : decode cX1_share 9 = .ok (.ldc2_w 88, 3) := gd_cX1_share_03_19 (9, .ldc2_w 88, 3) (List.mem_of_getElem? (i := 5) rfl)
theorem dX1_share_12 : decode cX1_share 12 = .ok (.ldc2_w 90, 3) := gd_cX1_share_03_19 (12, .ldc2_w 90, 3) (List.mem_of_getElem? (i := 6) rfl)
theorem dX1_share_15 : decode cX1_share 15 = .ok (.invokestatic 49, 3) := gd_cX1_share_03_19 (15, .invokestatic 49, 3) (List.mem_of_getElem? (i := 7) rfl)
theorem dX1_share_18 : decode cX1_share 18 = .ok (.iload_n 2, 1) := gd_cX1_share_03_19 (18, .iload_n 2, 1) (List.mem_of_getElem? (i := 8) rfl)
theorem dX1_share_19 : decode cX1_share 19 = .ok (.ifCond .ne 8, 3) := gd_cX1_share_03_19 (19, .ifCond .ne 8, 3) (List.mem_of_getElem? (i := 9) rfl)
theorem dX1_share_22 : decode cX1_share 22 = .ok (.aload_n 0, 1) := gd_cX1_share_03_19 (22, .aload_n 0, 1) (List.mem_of_getElem? (i := 10) rfl)
theorem dX1_share_23 : decode cX1_share 23 = .ok (.invokevirtual 80, 3) := gd_cX1_share_03_19 (23, .invokevirtual 80, 3) (List.mem_of_getElem? (i := 11) rfl)
theorem dX1_share_26 : decode cX1_share 26 = .ok (.ireturn, 1) := gd_cX1_share_03_19 (26, .ireturn, 1) (List.mem_of_getElem? (i := 12) rfl)
theorem dX1_share_27 : decode cX1_share 27 = .ok (.aload_n 0, 1) := gd_cX1_share_03_19 (27, .aload_n 0, 1) (List.mem_of_getElem? (i := 13) rfl)
theorem dX1_share_28 : decode cX1_share 28 = .ok (.getfield 9, 3) := gd_cX1_share_03_19 (28, .getfield 9, 3) (List.mem_of_getElem? (i := 14) rfl)
theorem dX1_share_31 : decode cX1_share 31 = .ok (.iload_n 1, 1) := gd_cX1_share_03_19 (31, .iload_n 1, 1) (List.mem_of_getElem? (i := 15) rfl)
theorem dX1_share_32 : decode cX1_share 32 = .ok (.iaload, 1) := gd_cX1_share_03_19 (32, .iaload, 1) (List.mem_of_getElem? (i := 16) rfl)
theorem dX1_share_33 : decode cX1_share 33 = .ok (.i2l, 1) := gd_cX1_share_03_19 (33, .i2l, 1) (List.mem_of_getElem? (i := 17) rfl)
theorem dX1_share_34 : decode cX1_share 34 = .ok (.lstore 4, 2) := gd_cX1_share_03_19 (34, .lstore 4, 2) (List.mem_of_getElem? (i := 18) rfl)
theorem dX1_share_36 : decode cX1_share 36 = .ok (.aload_n 0, 1) := gd_cX1_share_03_19 (36, .aload_n 0, 1) (List.mem_of_getElem? (i := 19) rfl)
theorem dX1_share_37 : decode cX1_share 37 = .ok (.getfield 13, 3) := gd_cX1_share_03_19 (37, .getfield 13, 3) (List.mem_of_getElem? (i := 20) rfl)
theorem dX1_share_40 : decode cX1_share 40 = .ok (.iload_n 1, 1) := gd_cX1_share_03_19 (40, .iload_n 1, 1) (List.mem_of_getElem? (i := 21) rfl)
theorem dX1_share_41 : decode cX1_share 41 = .ok (.iaload, 1) := gd_cX1_share_03_19 (41, .iaload, 1) (List.mem_of_getElem? (i := 22) rfl)
theorem dX1_share_42 : decode cX1_share 42 = .ok (.istore 6, 2) := gd_cX1_share_03_19 (42, .istore 6, 2) (List.mem_of_getElem? (i := 23) rfl)
theorem dX1_share_44 : decode cX1_share 44 = .ok (.lload 4, 2) := gd_cX1_share_03_19 (44, .lload 4, 2) (List.mem_of_getElem? (i := 24) rfl)
theorem dX1_share_46 : decode cX1_share 46 = .ok (.iload_n 2, 1) := gd_cX1_share_03_19 (46, .iload_n 2, 1) (List.mem_of_getElem? (i := 25) rfl)
theorem dX1_share_47 : decode cX1_share 47 = .ok (.i2l, 1) := gd_cX1_share_03_19 (47, .i2l, 1) (List.mem_of_getElem? (i := 26) rfl)
theorem dX1_share_48 : decode cX1_share 48 = .ok (.lrem, 1) := gd_cX1_share_03_19 (48, .lrem, 1) (List.mem_of_getElem? (i := 27) rfl)
theorem dX1_share_49 : decode cX1_share 49 = .ok (.lconst 0, 1) := gd_cX1_share_03_19 (49, .lconst 0, 1) (List.mem_of_getElem? (i := 28) rfl)
theorem dX1_share_50 : decode cX1_share 50 = .ok (.lcmp, 1) := gd_cX1_share_03_19 (50, .lcmp, 1) (List.mem_of_getElem? (i := 29) rfl)
theorem dX1_share_51 : decode cX1_share 51 = .ok (.ifCond .eq 23, 3) := gd_cX1_share_03_19 (51, .ifCond .eq 23, 3) (List.mem_of_getElem? (i := 30) rfl)
theorem dX1_share_54 : decode cX1_share 54 = .ok (.iload 6, 2) := gd_cX1_share_03_19 (54, .iload 6, 2) (List.mem_of_getElem? (i := 31) rfl)
theorem dX1_share_56 : decode cX1_share 56 = .ok (.iconst 3, 1) := gd_cX1_share_03_19 (56, .iconst 3, 1) (List.mem_of_getElem? (i := 32) rfl)
theorem dX1_share_57 : decode cX1_share 57 = .ok (.if_icmp .ge 17, 3) := gd_cX1_share_03_19 (57, .if_icmp .ge 17, 3) (List.mem_of_getElem? (i := 33) rfl)
theorem dX1_share_60 : decode cX1_share 60 = .ok (.lload 4, 2) := gd_cX1_share_03_19 (60, .lload 4, 2) (List.mem_of_getElem? (i := 34) rfl)
theorem dX1_share_62 : decode cX1_share 62 = .ok (.ldc2_w 92, 3) := gd_cX1_share_03_19 (62, .ldc2_w 92, 3) (List.mem_of_getElem? (i := 35) rfl)
theorem dX1_share_65 : decode cX1_share 65 = .ok (.lmul, 1) := gd_cX1_share_03_19 (65, .lmul, 1) (List.mem_of_getElem? (i := 36) rfl)
theorem dX1_share_66 : decode cX1_share 66 = .ok (.lstore 4, 2) := gd_cX1_share_03_19 (66, .lstore 4, 2) (List.mem_of_getElem? (i := 37) rfl)
theorem dX1_share_68 : decode cX1_share 68 = .ok (.iinc 6 1, 3) := gd_cX1_share_03_19 (68, .iinc 6 1, 3) (List.mem_of_getElem? (i := 38) rfl)
theorem dX1_share_71 : decode cX1_share 71 = .ok (.goto (-27), 3) := gd_cX1_share_03_19 (71, .goto (-27), 3) (List.mem_of_getElem? (i := 39) rfl)
theorem dX1_share_74 : decode cX1_share 74 = .ok (.lload 4, 2) := gd_cX1_share_03_19 (74, .lload 4, 2) (List.mem_of_getElem? (i := 40) rfl)
theorem dX1_share_76 : decode cX1_share 76 = .ok (.iload_n 2, 1) := gd_cX1_share_03_19 (76, .iload_n 2, 1) (List.mem_of_getElem? (i := 41) rfl)
theorem dX1_share_77 : decode cX1_share 77 = .ok (.i2l, 1) := gd_cX1_share_03_19 (77, .i2l, 1) (List.mem_of_getElem? (i := 42) rfl)
theorem dX1_share_78 : decode cX1_share 78 = .ok (.lrem, 1) := gd_cX1_share_03_19 (78, .lrem, 1) (List.mem_of_getElem? (i := 43) rfl)
theorem dX1_share_79 : decode cX1_share 79 = .ok (.lconst 0, 1) := gd_cX1_share_03_19 (79, .lconst 0, 1) (List.mem_of_getElem? (i := 44) rfl)
theorem dX1_share_80 : decode cX1_share 80 = .ok (.lcmp, 1) := gd_cX1_share_03_19 (80, .lcmp, 1) (List.mem_of_getElem? (i := 45) rfl)
theorem dX1_share_81 : decode cX1_share 81 = .ok (.ifCond .ne 18, 3) := gd_cX1_share_03_19 (81, .ifCond .ne 18, 3) (List.mem_of_getElem? (i := 46) rfl)
theorem dX1_share_84 : decode cX1_share 84 = .ok (.aload_n 0, 1) := gd_cX1_share_03_19 (84, .aload_n 0, 1) (List.mem_of_getElem? (i := 47) rfl)
theorem dX1_share_85 : decode cX1_share 85 = .ok (.iload_n 3, 1) := gd_cX1_share_03_19 (85, .iload_n 3, 1) (List.mem_of_getElem? (i := 48) rfl)
theorem dX1_share_86 : decode cX1_share 86 = .ok (.lload 4, 2) := gd_cX1_share_03_19 (86, .lload 4, 2) (List.mem_of_getElem? (i := 49) rfl)
theorem dX1_share_88 : decode cX1_share 88 = .ok (.iload_n 2, 1) := gd_cX1_share_03_19 (88, .iload_n 2, 1) (List.mem_of_getElem? (i := 50) rfl)
theorem dX1_share_89 : decode cX1_share 89 = .ok (.i2l, 1) := gd_cX1_share_03_19 (89, .i2l, 1) (List.mem_of_getElem? (i := 51) rfl)
theorem dX1_share_90 : decode cX1_share 90 = .ok (.ldiv, 1) := gd_cX1_share_03_19 (90, .ldiv, 1) (List.mem_of_getElem? (i := 52) rfl)
theorem dX1_share_91 : decode cX1_share 91 = .ok (.iload 6, 2) := gd_cX1_share_03_19 (91, .iload 6, 2) (List.mem_of_getElem? (i := 53) rfl)
theorem dX1_share_93 : decode cX1_share 93 = .ok (.invokevirtual 55, 3) := gd_cX1_share_03_19 (93, .invokevirtual 55, 3) (List.mem_of_getElem? (i := 54) rfl)
theorem dX1_share_96 : decode cX1_share 96 = .ok (.goto 7, 3) := gd_cX1_share_03_19 (96, .goto 7, 3) (List.mem_of_getElem? (i := 55) rfl)
theorem dX1_share_99 : decode cX1_share 99 = .ok (.aload_n 0, 1) := gd_cX1_share_03_19 (99, .aload_n 0, 1) (List.mem_of_getElem? (i := 56) rfl)
theorem dX1_share_100 : decode cX1_share 100 = .ok (.invokevirtual 80, 3) := gd_cX1_share_03_19 (100, .invokevirtual 80, 3) (List.mem_of_getElem? (i := 57) rfl)
theorem dX1_share_103 : decode cX1_share 103 = .ok (.ireturn, 1) := gd_cX1_share_03_19 (103, .ireturn, 1) (List.mem_of_getElem? (i := 58) rfl)
def gl_cX1_whole_03_20 : List (Nat × Instr × Nat) := [(0, .iload_n 1, 1), (1, .invokestatic 41, 3), (4, .iload_n 3, 1), (5, .invokestatic 41, 3), (8, .iload_n 2, 1), (9, .ldc2_w 88, 3), (12, .ldc2_w 90, 3), (15, .invokestatic 49, 3), (18, .iload_n 2, 1), (19, .i2l, 1), (20, .aload_n 0, 1), (21, .getfield 13, 3), (24, .iload_n 1, 1), (25, .iaload, 1), (26, .invokestatic 59, 3), (29, .lmul, 1), (30, .lstore 4, 2), (32, .lload 4, 2), (34, .lconst 0, 1), (35, .lcmp, 1), (36, .ifCond .ne 10, 3), (39, .aload_n 0, 1), (40, .invokevirtual 80, 3), (43, .goto 19, 3), (46, .aload_n 0, 1), (47, .iload_n 3, 1), (48, .aload_n 0, 1), (49, .getfield 9, 3), (52, .iload_n 1, 1), (53, .iaload, 1), (54, .i2l, 1), (55, .lload 4, 2), (57, .ldiv, 1), (58, .iconst 0, 1), (59, .invokevirtual 55, 3), (62, .ireturn, 1)]
theorem gd_cX1_whole_03_20 : ∀ q ∈ gl_cX1_whole_03_20, decode cX1_whole q.1 = .ok q.2 := fdk_of 0 (by decide +kernel)
theorem dX1_whole_0 : decode cX1_whole 0 = .ok (.iload_n 1, 1) := gd_cX1_whole_03_20 (0, .iload_n 1, 1) (List.mem_of_getElem? (i := 0) rfl)
theorem dX1_whole_1 : decode cX1_whole 1 = .ok (.invokestatic 41, 3) := gd_cX1_whole_03_20 (1, .invokestatic 41, 3) (List.mem_of_getElem? (i := 1) rfl)
theorem dX1_whole_4 : decode cX1_whole 4 = .ok (.iload_n 3, 1) := gd_cX1_whole_03_20 (4, .iload_n 3, 1) (List.mem_of_getElem? (i := 2) rfl)
theorem dX1_whole_5 : decode cX1_whole 5 = .ok (.invokestatic 41, 3) := gd_cX1_whole_03_20 (5, .invokestatic 41, 3) (List.mem_of_getElem? (i := 3) rfl)
theorem dX1_whole_8 : decode cX1_whole 8 = .ok (.iload_n 2, 1) := gd_cX1_whole_03_20 (8, .iload_n 2, 1) (List.mem_of_getElem? (i := 4) rfl)
theorem dX1_whole_9 : decode cX1_whole 9 = .ok (.ldc2_w 88, 3) := gd_cX1_whole_03_20 (9, .ldc2_w 88, 3) (List.mem_of_getElem? (i := 5) rfl)
theorem dX1_whole_12 : decode cX1_whole 12 = .ok (.ldc2_w 90, 3) := gd_cX1_whole_03_20 (12, .ldc2_w 90, 3) (List.mem_of_getElem? (i := 6) rfl)
theorem dX1_whole_15 : decode cX1_whole 15 = .ok (.invokestatic 49, 3) := gd_cX1_whole_03_20 (15, .invokestatic 49, 3) (List.mem_of_getElem? (i := 7) rfl)
theorem dX1_whole_18 : decode cX1_whole 18 = .ok (.iload_n 2, 1) := gd_cX1_whole_03_20 (18, .iload_n 2, 1) (List.mem_of_getElem? (i := 8) rfl)
theorem dX1_whole_19 : decode cX1_whole 19 = .ok (.i2l, 1) := gd_cX1_whole_03_20 (19, .i2l, 1) (List.mem_of_getElem? (i := 9) rfl)
theorem dX1_whole_20 : decode cX1_whole 20 = .ok (.aload_n 0, 1) := gd_cX1_whole_03_20 (20, .aload_n 0, 1) (List.mem_of_getElem? (i := 10) rfl)
theorem dX1_whole_21 : decode cX1_whole 21 = .ok (.getfield 13, 3) := gd_cX1_whole_03_20 (21, .getfield 13, 3) (List.mem_of_getElem? (i := 11) rfl)
theorem dX1_whole_24 : decode cX1_whole 24 = .ok (.iload_n 1, 1) := gd_cX1_whole_03_20 (24, .iload_n 1, 1) (List.mem_of_getElem? (i := 12) rfl)
theorem dX1_whole_25 : decode cX1_whole 25 = .ok (.iaload, 1) := gd_cX1_whole_03_20 (25, .iaload, 1) (List.mem_of_getElem? (i := 13) rfl)
theorem dX1_whole_26 : decode cX1_whole 26 = .ok (.invokestatic 59, 3) := gd_cX1_whole_03_20 (26, .invokestatic 59, 3) (List.mem_of_getElem? (i := 14) rfl)
theorem dX1_whole_29 : decode cX1_whole 29 = .ok (.lmul, 1) := gd_cX1_whole_03_20 (29, .lmul, 1) (List.mem_of_getElem? (i := 15) rfl)
theorem dX1_whole_30 : decode cX1_whole 30 = .ok (.lstore 4, 2) := gd_cX1_whole_03_20 (30, .lstore 4, 2) (List.mem_of_getElem? (i := 16) rfl)
theorem dX1_whole_32 : decode cX1_whole 32 = .ok (.lload 4, 2) := gd_cX1_whole_03_20 (32, .lload 4, 2) (List.mem_of_getElem? (i := 17) rfl)
theorem dX1_whole_34 : decode cX1_whole 34 = .ok (.lconst 0, 1) := gd_cX1_whole_03_20 (34, .lconst 0, 1) (List.mem_of_getElem? (i := 18) rfl)
theorem dX1_whole_35 : decode cX1_whole 35 = .ok (.lcmp, 1) := gd_cX1_whole_03_20 (35, .lcmp, 1) (List.mem_of_getElem? (i := 19) rfl)
theorem dX1_whole_36 : decode cX1_whole 36 = .ok (.ifCond .ne 10, 3) := gd_cX1_whole_03_20 (36, .ifCond .ne 10, 3) (List.mem_of_getElem? (i := 20) rfl)
theorem dX1_whole_39 : decode cX1_whole 39 = .ok (.aload_n 0, 1) := gd_cX1_whole_03_20 (39, .aload_n 0, 1) (List.mem_of_getElem? (i := 21) rfl)
theorem dX1_whole_40 : decode cX1_whole 40 = .ok (.invokevirtual 80, 3) := gd_cX1_whole_03_20 (40, .invokevirtual 80, 3) (List.mem_of_getElem? (i := 22) rfl)
theorem dX1_whole_43 : decode cX1_whole 43 = .ok (.goto 19, 3) := gd_cX1_whole_03_20 (43, .goto 19, 3) (List.mem_of_getElem? (i := 23) rfl)
theorem dX1_whole_46 : decode cX1_whole 46 = .ok (.aload_n 0, 1) := gd_cX1_whole_03_20 (46, .aload_n 0, 1) (List.mem_of_getElem? (i := 24) rfl)
theorem dX1_whole_47 : decode cX1_whole 47 = .ok (.iload_n 3, 1) := gd_cX1_whole_03_20 (47, .iload_n 3, 1) (List.mem_of_getElem? (i := 25) rfl)
theorem dX1_whole_48 : decode cX1_whole 48 = .ok (.aload_n 0, 1) := gd_cX1_whole_03_20 (48, .aload_n 0, 1) (List.mem_of_getElem? (i := 26) rfl)
theorem dX1_whole_49 : decode cX1_whole 49 = .ok (.getfield 9, 3) := gd_cX1_whole_03_20 (49, .getfield 9, 3) (List.mem_of_getElem? (i := 27) rfl)
theorem dX1_whole_52 : decode cX1_whole 52 = .ok (.iload_n 1, 1) := gd_cX1_whole_03_20 (52, .iload_n 1, 1) (List.mem_of_getElem? (i := 28) rfl)
theorem dX1_whole_53 : decode cX1_whole 53 = .ok (.iaload, 1) := gd_cX1_whole_03_20 (53, .iaload, 1) (List.mem_of_getElem? (i := 29) rfl)
theorem dX1_whole_54 : decode cX1_whole 54 = .ok (.i2l, 1) := gd_cX1_whole_03_20 (54, .i2l, 1) (List.mem_of_getElem? (i := 30) rfl)
theorem dX1_whole_55 : decode cX1_whole 55 = .ok (.lload 4, 2) := gd_cX1_whole_03_20 (55, .lload 4, 2) (List.mem_of_getElem? (i := 31) rfl)
theorem dX1_whole_57 : decode cX1_whole 57 = .ok (.ldiv, 1) := gd_cX1_whole_03_20 (57, .ldiv, 1) (List.mem_of_getElem? (i := 32) rfl)
theorem dX1_whole_58 : decode cX1_whole 58 = .ok (.iconst 0, 1) := gd_cX1_whole_03_20 (58, .iconst 0, 1) (List.mem_of_getElem? (i := 33) rfl)
theorem dX1_whole_59 : decode cX1_whole 59 = .ok (.invokevirtual 55, 3) := gd_cX1_whole_03_20 (59, .invokevirtual 55, 3) (List.mem_of_getElem? (i := 34) rfl)
theorem dX1_whole_62 : decode cX1_whole 62 = .ok (.ireturn, 1) := gd_cX1_whole_03_20 (62, .ireturn, 1) (List.mem_of_getElem? (i := 35) rfl)
def gl_cX1_rest_03_21 : List (Nat × Instr × Nat) := [(0, .iload_n 1, 1), (1, .invokestatic 41, 3), (4, .iload_n 3, 1), (5, .invokestatic 41, 3), (8, .iload_n 2, 1), (9, .ldc2_w 88, 3), (12, .ldc2_w 90, 3), (15, .invokestatic 49, 3), (18, .iload_n 2, 1), (19, .i2l, 1), (20, .aload_n 0, 1), (21, .getfield 13, 3), (24, .iload_n 1, 1), (25, .iaload, 1), (26, .invokestatic 59, 3), (29, .lmul, 1), (30, .lstore 4, 2), (32, .lload 4, 2), (34, .lconst 0, 1), (35, .lcmp, 1), (36, .ifCond .ne 10, 3), (39, .aload_n 0, 1), (40, .invokevirtual 80, 3), (43, .goto 24, 3), (46, .aload_n 0, 1), (47, .iload_n 3, 1), (48, .aload_n 0, 1), (49, .getfield 9, 3), (52, .iload_n 1, 1), (53, .iaload, 1), (54, .i2l, 1), (55, .lload 4, 2), (57, .lrem, 1), (58, .aload_n 0, 1), (59, .getfield 13, 3), (62, .iload_n 1, 1), (63, .iaload, 1), (64, .invokevirtual 55, 3), (67, .ireturn, 1)]
theorem gd_cX1_rest_03_21 : ∀ q ∈ gl_cX1_rest_03_21, decode cX1_rest q.1 = .ok q.2 := fdk_of 0 (by decide +kernel)
theorem dX1_rest_0 : decode cX1_rest 0 = .ok (.iload_n 1, 1) := gd_cX1_rest_03_21 (0, .iload_n 1, 1) (List.mem_of_getElem? (i := 0) rfl)
theorem dX1_rest_1 : decode cX1_rest 1 = .ok (.invokestatic 41, 3) := gd_cX1_rest_03_21 (1, .invokestatic 41, 3) (List.mem_of_getElem? (i := 1) rfl)
theorem dX1_rest_4 : decode cX1_rest 4 = .ok (.iload_n 3, 1) := gd_cX1_rest_03_21 (4, .iload_n 3, 1) (List.mem_of_getElem? (i := 2) rfl)
theorem dX1_rest_5 : decode cX1_rest 5 = .ok (.invokestatic 41, 3) := gd_cX1_rest_03_21 (5, .invokestatic 41, 3) (List.mem_of_getElem? (i := 3) rfl)
theorem dX1_rest_8 : decode cX1_rest 8 = .ok (.iload_n 2, 1) := gd_cX1_rest_03_21 (8, .iload_n 2, 1) (List.mem_of_getElem? (i := 4) rfl)
theorem dX1_rest_9 : decode cX1_rest 9 = .ok (.ldc2_w 88, 3) := gd_cX1_rest_03_21 (9, .ldc2_w 88, 3) (List.mem_of_getElem? (i := 5) rfl)
theorem dX1_rest_12 : decode cX1_rest 12 = .ok (.ldc2_w 90, 3) := gd_cX1_rest_03_21 (12, .ldc2_w 90, 3) (List.mem_of_getElem? (i := 6) rfl)
theorem dX1_rest_15 : decode cX1_rest 15 = .ok (.invokestatic 49, 3) := gd_cX1_rest_03_21 (15, .invokestatic 49, 3) (List.mem_of_getElem? (i := 7) rfl)
theorem dX1_rest_18 : decode cX1_rest 18 = .ok (.iload_n 2, 1) := gd_cX1_rest_03_21 (18, .iload_n 2, 1) (List.mem_of_getElem? (i := 8) rfl)
theorem dX1_rest_19 : decode cX1_rest 19 = .ok (.i2l, 1) := gd_cX1_rest_03_21 (19, .i2l, 1) (List.mem_of_getElem? (i := 9) rfl)
theorem dX1_rest_20 : decode cX1_rest 20 = .ok (.aload_n 0, 1) := gd_cX1_rest_03_21 (20, .aload_n 0, 1) (List.mem_of_getElem? (i := 10) rfl)
theorem dX1_rest_21 : decode cX1_rest 21 = .ok (.getfield 13, 3) := gd_cX1_rest_03_21 (21, .getfield 13, 3) (List.mem_of_getElem? (i := 11) rfl)
theorem dX1_rest_24 : decode cX1_rest 24 = .ok (.iload_n 1, 1) := gd_cX1_rest_03_21 (24, .iload_n 1, 1) (List.mem_of_getElem? (i := 12) rfl)
theorem dX1_rest_25 : decode cX1_rest 25 = .ok (.iaload, 1) := gd_cX1_rest_03_21 (25, .iaload, 1) (List.mem_of_getElem? (i := 13) rfl)
theorem dX1_rest_26 : decode cX1_rest 26 = .ok (.invokestatic 59, 3) := gd_cX1_rest_03_21 (26, .invokestatic 59, 3) (List.mem_of_getElem? (i := 14) rfl)
theorem dX1_rest_29 : decode cX1_rest 29 = .ok (.lmul, 1) := gd_cX1_rest_03_21 (29, .lmul, 1) (List.mem_of_getElem? (i := 15) rfl)
theorem dX1_rest_30 : decode cX1_rest 30 = .ok (.lstore 4, 2) := gd_cX1_rest_03_21 (30, .lstore 4, 2) (List.mem_of_getElem? (i := 16) rfl)
theorem dX1_rest_32 : decode cX1_rest 32 = .ok (.lload 4, 2) := gd_cX1_rest_03_21 (32, .lload 4, 2) (List.mem_of_getElem? (i := 17) rfl)
theorem dX1_rest_34 : decode cX1_rest 34 = .ok (.lconst 0, 1) := gd_cX1_rest_03_21 (34, .lconst 0, 1) (List.mem_of_getElem? (i := 18) rfl)
theorem dX1_rest_35 : decode cX1_rest 35 = .ok (.lcmp, 1) := gd_cX1_rest_03_21 (35, .lcmp, 1) (List.mem_of_getElem? (i := 19) rfl)
theorem dX1_rest_36 : decode cX1_rest 36 = .ok (.ifCond .ne 10, 3) := gd_cX1_rest_03_21 (36, .ifCond .ne 10, 3) (List.mem_of_getElem? (i := 20) rfl)
theorem dX1_rest_39 : decode cX1_rest 39 = .ok (.aload_n 0, 1) := gd_cX1_rest_03_21 (39, .aload_n 0, 1) (List.mem_of_getElem? (i := 21) rfl)
theorem dX1_rest_40 : decode cX1_rest 40 = .ok (.invokevirtual 80, 3) := gd_cX1_rest_03_21 (40, .invokevirtual 80, 3) (List.mem_of_getElem? (i := 22) rfl)
theorem dX1_rest_43 : decode cX1_rest 43 = .ok (.goto 24, 3) := gd_cX1_rest_03_21 (43, .goto 24, 3) (List.mem_of_getElem? (i := 23) rfl)
theorem dX1_rest_46 : decode cX1_rest 46 = .ok (.aload_n 0, 1) := gd_cX1_rest_03_21 (46, .aload_n 0, 1) (List.mem_of_getElem? (i := 24) rfl)
theorem dX1_rest_47 : decode cX1_rest 47 = .ok (.iload_n 3, 1) := gd_cX1_rest_03_21 (47, .iload_n 3, 1) (List.mem_of_getElem? (i := 25) rfl)
theorem dX1_rest_48 : decode cX1_rest 48 = .ok (.aload_n 0, 1) := gd_cX1_rest_03_21 (48, .aload_n 0, 1) (List.mem_of_getElem? (i := 26) rfl)
theorem dX1_rest_49 : decode cX1_rest 49 = .ok (.getfield 9, 3) := gd_cX1_rest_03_21 (49, .getfield 9, 3) (List.mem_of_getElem? (i := 27) rfl)
theorem dX1_rest_52 : decode cX1_rest 52 = .ok (.iload_n 1, 1) := gd_cX1_rest_03_21 (52, .iload_n 1, 1) (List.mem_of_getElem? (i := 28) rfl)
theorem dX1_rest_53 : decode cX1_rest 53 = .ok (.iaload, 1) := gd_cX1_rest_03_21 (53, .iaload, 1) (List.mem_of_getElem? (i := 29) rfl)
theorem dX1_rest_54 : decode cX1_rest 54 = .ok (.i2l, 1) := gd_cX1_rest_03_21 (54, .i2l, 1) (List.mem_of_getElem? (i := 30) rfl)
theorem dX1_rest_55 : decode cX1_rest 55 = .ok (.lload 4, 2) := gd_cX1_rest_03_21 (55, .lload 4, 2) (List.mem_of_getElem? (i := 31) rfl)
theorem dX1_rest_57 : decode cX1_rest 57 = .ok (.lrem, 1) := gd_cX1_rest_03_21 (57, .lrem, 1) (List.mem_of_getElem? (i := 32) rfl)
theorem dX1_rest_58 : decode cX1_rest 58 = .ok (.aload_n 0, 1) := gd_cX1_rest_03_21 (58, .aload_n 0, 1) (List.mem_of_getElem? (i := 33) rfl)
theorem dX1_rest_59 : decode cX1_rest 59 = .ok (.getfield 13, 3) := gd_cX1_rest_03_21 (59, .getfield 13, 3) (List.mem_of_getElem? (i := 34) rfl)
theorem dX1_rest_62 : decode cX1_rest 62 = .ok (.iload_n 1, 1) := gd_cX1_rest_03_21 (62, .iload_n 1, 1) (List.mem_of_getElem? (i := 35) rfl)
theorem dX1_rest_63 : decode cX1_rest 63 = .ok (.iaload, 1) := gd_cX1_rest_03_21 (63, .iaload, 1) (List.mem_of_getElem? (i := 36) rfl)
theorem dX1_rest_64 : decode cX1_rest 64 = .ok (.invokevirtual 55, 3) := gd_cX1_rest_03_21 (64, .invokevirtual 55, 3) (List.mem_of_getElem? (i := 37) rfl)
theorem dX1_rest_67 : decode cX1_rest 67 = .ok (.ireturn, 1) := gd_cX1_rest_03_21 (67, .ireturn, 1) (List.mem_of_getElem? (i := 38) rfl)
def gl_cX1_setPlaces_03_22 : List (Nat × Instr × Nat) := [(0, .iload_n 1, 1), (1, .invokestatic 41, 3), (4, .iload_n 2, 1), (5, .lconst 0, 1), (6, .ldc2_w 53, 3), (9, .invokestatic 49, 3), (12, .iload_n 3, 1), (13, .invokestatic 77, 3), (16, .aload_n 0, 1), (17, .iload_n 1, 1), (18, .aload_n 0, 1), (19, .getfield 9, 3), (22, .iload_n 1, 1), (23, .iaload, 1), (24, .i2l, 1), (25, .iload_n 2, 1), (26, .invokestatic 59, 3), (29, .lmul, 1), (30, .aload_n 0, 1), (31, .getfield 13, 3), (34, .iload_n 1, 1), (35, .iaload, 1), (36, .invokestatic 59, 3), (39, .iload_n 3, 1), (40, .invokestatic 84, 3), (43, .iload_n 2, 1), (44, .invokevirtual 55, 3), (47, .ireturn, 1)]
theorem gd_cX1_setPlaces_03_22 : ∀ q ∈ gl_cX1_setPlaces_03_22, decode cX1_setPlaces q.1 = .ok q.2 := fdk_of 0 (by decide +kernel)
theorem dX1_setPlaces_0 : decode cX1_setPlaces 0 = .ok (.iload_n 1, 1) := gd_cX1_setPlaces_03_22 (0, .iload_n 1, 1) (List.mem_of_getElem? (i := 0) rfl)
theorem dX1_setPlaces_1 : decode cX1_setPlaces 1 = .ok (.invokestatic 41, 3) := gd_cX1_setPlaces_03_22 (1, .invokestatic 41, 3) (List.mem_of_getElem? (i := 1) rfl)
theorem dX1_setPlaces_4 : decode cX1_setPlaces 4 = .ok (.iload_n 2, 1) := gd_cX1_setPlaces_03_22 (4, .iload_n 2, 1) (List.mem_of_getElem? (i := 2) rfl)
theorem dX1_setPlaces_5 : decode cX1_setPlaces 5 = .ok (.lconst 0, 1) := gd_cX1_setPlaces_03_22 (5, .lconst 0, 1) (List.mem_of_getElem? (i := 3) rfl)
theorem dX1_setPlaces_6 : decode cX1_setPlaces 6 = .ok (.ldc2_w 53, 3) := gd_cX1_setPlaces_03_22 (6, .ldc2_w 53, 3) (List.mem_of_getElem? (i := 4) rfl)
theorem dX1_setPlaces_9 : decode cX1_setPlaces 9 = .ok (.invokestatic 49, 3) := gd_cX1_setPlaces_03_22 (9, .invokestatic 49, 3) (List.mem_of_getElem? (i := 5) rfl)
theorem dX1_setPlaces_12 : decode cX1_setPlaces 12 = .ok (.iload_n 3, 1) := gd_cX1_setPlaces_03_22 (12, .iload_n 3, 1) (List.mem_of_getElem? (i := 6) rfl)
theorem dX1_setPlaces_13 : decode cX1_setPlaces 13 = .ok (.invokestatic 77, 3) := gd_cX1_setPlaces_03_22 (13, .invokestatic 77, 3) (List.mem_of_getElem? (i := 7) rfl)
theorem dX1_setPlaces_16 : decode cX1_setPlaces 16 = .ok (.aload_n 0, 1) := gd_cX1_setPlaces_03_22 (16, .aload_n 0, 1) (List.mem_of_getElem? (i := 8) rfl)
theorem dX1_setPlaces_17 : decode cX1_setPlaces 17 = .ok (.iload_n 1, 1) := gd_cX1_setPlaces_03_22 (17, .iload_n 1, 1) (List.mem_of_getElem? (i := 9) rfl)
theorem dX1_setPlaces_18 : decode cX1_setPlaces 18 = .ok (.aload_n 0, 1) := gd_cX1_setPlaces_03_22 (18, .aload_n 0, 1) (List.mem_of_getElem? (i := 10) rfl)
theorem dX1_setPlaces_19 : decode cX1_setPlaces 19 = .ok (.getfield 9, 3) := gd_cX1_setPlaces_03_22 (19, .getfield 9, 3) (List.mem_of_getElem? (i := 11) rfl)
theorem dX1_setPlaces_22 : decode cX1_setPlaces 22 = .ok (.iload_n 1, 1) := gd_cX1_setPlaces_03_22 (22, .iload_n 1, 1) (List.mem_of_getElem? (i := 12) rfl)
theorem dX1_setPlaces_23 : decode cX1_setPlaces 23 = .ok (.iaload, 1) := gd_cX1_setPlaces_03_22 (23, .iaload, 1) (List.mem_of_getElem? (i := 13) rfl)
theorem dX1_setPlaces_24 : decode cX1_setPlaces 24 = .ok (.i2l, 1) := gd_cX1_setPlaces_03_22 (24, .i2l, 1) (List.mem_of_getElem? (i := 14) rfl)
theorem dX1_setPlaces_25 : decode cX1_setPlaces 25 = .ok (.iload_n 2, 1) := gd_cX1_setPlaces_03_22 (25, .iload_n 2, 1) (List.mem_of_getElem? (i := 15) rfl)
theorem dX1_setPlaces_26 : decode cX1_setPlaces 26 = .ok (.invokestatic 59, 3) := gd_cX1_setPlaces_03_22 (26, .invokestatic 59, 3) (List.mem_of_getElem? (i := 16) rfl)
theorem dX1_setPlaces_29 : decode cX1_setPlaces 29 = .ok (.lmul, 1) := gd_cX1_setPlaces_03_22 (29, .lmul, 1) (List.mem_of_getElem? (i := 17) rfl)
theorem dX1_setPlaces_30 : decode cX1_setPlaces 30 = .ok (.aload_n 0, 1) := gd_cX1_setPlaces_03_22 (30, .aload_n 0, 1) (List.mem_of_getElem? (i := 18) rfl)
theorem dX1_setPlaces_31 : decode cX1_setPlaces 31 = .ok (.getfield 13, 3) := gd_cX1_setPlaces_03_22 (31, .getfield 13, 3) (List.mem_of_getElem? (i := 19) rfl)
theorem dX1_setPlaces_34 : decode cX1_setPlaces 34 = .ok (.iload_n 1, 1) := gd_cX1_setPlaces_03_22 (34, .iload_n 1, 1) (List.mem_of_getElem? (i := 20) rfl)
theorem dX1_setPlaces_35 : decode cX1_setPlaces 35 = .ok (.iaload, 1) := gd_cX1_setPlaces_03_22 (35, .iaload, 1) (List.mem_of_getElem? (i := 21) rfl)
theorem dX1_setPlaces_36 : decode cX1_setPlaces 36 = .ok (.invokestatic 59, 3) := gd_cX1_setPlaces_03_22 (36, .invokestatic 59, 3) (List.mem_of_getElem? (i := 22) rfl)
theorem dX1_setPlaces_39 : decode cX1_setPlaces 39 = .ok (.iload_n 3, 1) := gd_cX1_setPlaces_03_22 (39, .iload_n 3, 1) (List.mem_of_getElem? (i := 23) rfl)
theorem dX1_setPlaces_40 : decode cX1_setPlaces 40 = .ok (.invokestatic 84, 3) := gd_cX1_setPlaces_03_22 (40, .invokestatic 84, 3) (List.mem_of_getElem? (i := 24) rfl)
theorem dX1_setPlaces_43 : decode cX1_setPlaces 43 = .ok (.iload_n 2, 1) := gd_cX1_setPlaces_03_22 (43, .iload_n 2, 1) (List.mem_of_getElem? (i := 25) rfl)
theorem dX1_setPlaces_44 : decode cX1_setPlaces 44 = .ok (.invokevirtual 55, 3) := gd_cX1_setPlaces_03_22 (44, .invokevirtual 55, 3) (List.mem_of_getElem? (i := 26) rfl)
theorem dX1_setPlaces_47 : decode cX1_setPlaces 47 = .ok (.ireturn, 1) := gd_cX1_setPlaces_03_22 (47, .ireturn, 1) (List.mem_of_getElem? (i := 27) rfl)
def gl_cX1_strip_03_23 : List (Nat × Instr × Nat) := [(0, .iload_n 1, 1), (1, .invokestatic 41, 3), (4, .aload_n 0, 1), (5, .getfield 9, 3), (8, .iload_n 1, 1), (9, .iaload, 1), (10, .istore_n 2, 1), (11, .aload_n 0, 1), (12, .getfield 13, 3), (15, .iload_n 1, 1), (16, .iaload, 1), (17, .istore_n 3, 1), (18, .iload_n 3, 1), (19, .ifCond .le 21, 3), (22, .iload_n 2, 1), (23, .bipush 10, 2), (25, .irem, 1), (26, .ifCond .ne 14, 3), (29, .iload_n 2, 1), (30, .bipush 10, 2), (32, .idiv, 1), (33, .istore_n 2, 1), (34, .iinc 3 (-1), 3), (37, .goto (-19), 3), (40, .aload_n 0, 1), (41, .iload_n 1, 1), (42, .iload_n 2, 1), (43, .i2l, 1), (44, .iload_n 3, 1), (45, .invokevirtual 55, 3), (48, .ireturn, 1)]
theorem gd_cX1_strip_03_23 : ∀ q ∈ gl_cX1_strip_03_23, decode cX1_strip q.1 = .ok q.2 := fdk_of 0 (by decide +kernel)
theorem dX1_strip_0 : decode cX1_strip 0 = .ok (.iload_n 1, 1) := gd_cX1_strip_03_23 (0, .iload_n 1, 1) (List.mem_of_getElem? (i := 0) rfl)
theorem dX1_strip_1 : decode cX1_strip 1 = .ok (.invokestatic 41, 3) := gd_cX1_strip_03_23 (1, .invokestatic 41, 3) (List.mem_of_getElem? (i := 1) rfl)
theorem dX1_strip_4 : decode cX1_strip 4 = .ok (.aload_n 0, 1) := gd_cX1_strip_03_23 (4, .aload_n 0, 1) (List.mem_of_getElem? (i := 2) rfl)
theorem dX1_strip_5 : decode cX1_strip 5 = .ok (.getfield 9, 3) := gd_cX1_strip_03_23 (5, .getfield 9, 3) (List.mem_of_getElem? (i := 3) rfl)
theorem dX1_strip_8 : decode cX1_strip 8 = .ok (.iload_n 1, 1) := gd_cX1_strip_03_23 (8, .iload_n 1, 1) (List.mem_of_getElem? (i := 4) rfl)
theorem dX1_strip_9 : decode cX1_strip 9 = .ok (.iaload, 1) := gd_cX1_strip_03_23 (9, .iaload, 1) (List.mem_of_getElem? (i := 5) rfl)
theorem dX1_strip_10 : decode cX1_strip 10 = .ok (.istore_n 2, 1) := gd_cX1_strip_03_23 (10, .istore_n 2, 1) (List.mem_of_getElem? (i := 6) rfl)
theorem dX1_strip_11 : decode cX1_strip 11 = .ok (.aload_n 0, 1) := gd_cX1_strip_03_23 (11, .aload_n 0, 1) (List.mem_of_getElem? (i := 7) rfl)
theorem dX1_strip_12 : decode cX1_strip 12 = .ok (.getfield 13, 3) := gd_cX1_strip_03_23 (12, .getfield 13, 3) (List.mem_of_getElem? (i := 8) rfl)
theorem dX1_strip_15 : decode cX1_strip 15 = .ok (.iload_n 1, 1) := gd_cX1_strip_03_23 (15, .iload_n 1, 1) (List.mem_of_getElem? (i := 9) rfl)
theorem dX1_strip_16 : decode cX1_strip 16 = .ok (.iaload, 1) := gd_cX1_strip_03_23 (16, .iaload, 1) (List.mem_of_getElem? (i := 10) rfl)
theorem dX1_strip_17 : decode cX1_strip 17 = .ok (.istore_n 3, 1) := gd_cX1_strip_03_23 (17, .istore_n 3, 1) (List.mem_of_getElem? (i := 11) rfl)
theorem dX1_strip_18 : decode cX1_strip 18 = .ok (.iload_n 3, 1) := gd_cX1_strip_03_23 (18, .iload_n 3, 1) (List.mem_of_getElem? (i := 12) rfl)
theorem dX1_strip_19 : decode cX1_strip 19 = .ok (.ifCond .le 21, 3) := gd_cX1_strip_03_23 (19, .ifCond .le 21, 3) (List.mem_of_getElem? (i := 13) rfl)
theorem dX1_strip_22 : decode cX1_strip 22 = .ok (.iload_n 2, 1) := gd_cX1_strip_03_23 (22, .iload_n 2, 1) (List.mem_of_getElem? (i := 14) rfl)
theorem dX1_strip_23 : decode cX1_strip 23 = .ok (.bipush 10, 2) := gd_cX1_strip_03_23 (23, .bipush 10, 2) (List.mem_of_getElem? (i := 15) rfl)
theorem dX1_strip_25 : decode cX1_strip 25 = .ok (.irem, 1) := gd_cX1_strip_03_23 (25, .irem, 1) (List.mem_of_getElem? (i := 16) rfl)
theorem dX1_strip_26 : decode cX1_strip 26 = .ok (.ifCond .ne 14, 3) := gd_cX1_strip_03_23 (26, .ifCond .ne 14, 3) (List.mem_of_getElem? (i := 17) rfl)
theorem dX1_strip_29 : decode cX1_strip 29 = .ok (.iload_n 2, 1) := gd_cX1_strip_03_23 (29, .iload_n 2, 1) (List.mem_of_getElem? (i := 18) rfl)
theorem dX1_strip_30 : decode cX1_strip 30 = .ok (.bipush 10, 2) := gd_cX1_strip_03_23 (30, .bipush 10, 2) (List.mem_of_getElem? (i := 19) rfl)
theorem dX1_strip_32 : decode cX1_strip 32 = .ok (.idiv, 1) := gd_cX1_strip_03_23 (32, .idiv, 1) (List.mem_of_getElem? (i := 20) rfl)
theorem dX1_strip_33 : decode cX1_strip 33 = .ok (.istore_n 2, 1) := gd_cX1_strip_03_23 (33, .istore_n 2, 1) (List.mem_of_getElem? (i := 21) rfl)
theorem dX1_strip_34 : decode cX1_strip 34 = .ok (.iinc 3 (-1), 3) := gd_cX1_strip_03_23 (34, .iinc 3 (-1), 3) (List.mem_of_getElem? (i := 22) rfl)
theorem dX1_strip_37 : decode cX1_strip 37 = .ok (.goto (-19), 3) := gd_cX1_strip_03_23 (37, .goto (-19), 3) (List.mem_of_getElem? (i := 23) rfl)
theorem dX1_strip_40 : decode cX1_strip 40 = .ok (.aload_n 0, 1) := gd_cX1_strip_03_23 (40, .aload_n 0, 1) (List.mem_of_getElem? (i := 24) rfl)
theorem dX1_strip_41 : decode cX1_strip 41 = .ok (.iload_n 1, 1) := gd_cX1_strip_03_23 (41, .iload_n 1, 1) (List.mem_of_getElem? (i := 25) rfl)
theorem dX1_strip_42 : decode cX1_strip 42 = .ok (.iload_n 2, 1) := gd_cX1_strip_03_23 (42, .iload_n 2, 1) (List.mem_of_getElem? (i := 26) rfl)
theorem dX1_strip_43 : decode cX1_strip 43 = .ok (.i2l, 1) := gd_cX1_strip_03_23 (43, .i2l, 1) (List.mem_of_getElem? (i := 27) rfl)
theorem dX1_strip_44 : decode cX1_strip 44 = .ok (.iload_n 3, 1) := gd_cX1_strip_03_23 (44, .iload_n 3, 1) (List.mem_of_getElem? (i := 28) rfl)
theorem dX1_strip_45 : decode cX1_strip 45 = .ok (.invokevirtual 55, 3) := gd_cX1_strip_03_23 (45, .invokevirtual 55, 3) (List.mem_of_getElem? (i := 29) rfl)
theorem dX1_strip_48 : decode cX1_strip 48 = .ok (.ireturn, 1) := gd_cX1_strip_03_23 (48, .ireturn, 1) (List.mem_of_getElem? (i := 30) rfl)
def gl_cX1_move_03_24 : List (Nat × Instr × Nat) := [(0, .iload_n 1, 1), (1, .invokestatic 41, 3), (4, .iload_n 2, 1), (5, .ldc2_w 94, 3), (8, .ldc2_w 53, 3), (11, .invokestatic 49, 3), (14, .aload_n 0, 1), (15, .iload_n 1, 1), (16, .aload_n 0, 1), (17, .getfield 9, 3), (20, .iload_n 1, 1), (21, .iaload, 1), (22, .i2l, 1), (23, .aload_n 0, 1), (24, .getfield 13, 3), (27, .iload_n 1, 1), (28, .iaload, 1), (29, .iload_n 2, 1), (30, .iadd, 1), (31, .invokevirtual 96, 3), (34, .ireturn, 1)]
theorem gd_cX1_move_03_24 : ∀ q ∈ gl_cX1_move_03_24, decode cX1_move q.1 = .ok q.2 := fdk_of 0 (by decide +kernel)
theorem dX1_move_0 : decode cX1_move 0 = .ok (.iload_n 1, 1) := gd_cX1_move_03_24 (0, .iload_n 1, 1) (List.mem_of_getElem? (i := 0) rfl)
theorem dX1_move_1 : decode cX1_move 1 = .ok (.invokestatic 41, 3) := gd_cX1_move_03_24 (1, .invokestatic 41, 3) (List.mem_of_getElem? (i := 1) rfl)
theorem dX1_move_4 : decode cX1_move 4 = .ok (.iload_n 2, 1) := gd_cX1_move_03_24 (4, .iload_n 2, 1) (List.mem_of_getElem? (i := 2) rfl)
theorem dX1_move_5 : decode cX1_move 5 = .ok (.ldc2_w 94, 3) := gd_cX1_move_03_24 (5, .ldc2_w 94, 3) (List.mem_of_getElem? (i := 3) rfl)
theorem dX1_move_8 : decode cX1_move 8 = .ok (.ldc2_w 53, 3) := gd_cX1_move_03_24 (8, .ldc2_w 53, 3) (List.mem_of_getElem? (i := 4) rfl)
theorem dX1_move_11 : decode cX1_move 11 = .ok (.invokestatic 49, 3) := gd_cX1_move_03_24 (11, .invokestatic 49, 3) (List.mem_of_getElem? (i := 5) rfl)
theorem dX1_move_14 : decode cX1_move 14 = .ok (.aload_n 0, 1) := gd_cX1_move_03_24 (14, .aload_n 0, 1) (List.mem_of_getElem? (i := 6) rfl)
theorem dX1_move_15 : decode cX1_move 15 = .ok (.iload_n 1, 1) := gd_cX1_move_03_24 (15, .iload_n 1, 1) (List.mem_of_getElem? (i := 7) rfl)
theorem dX1_move_16 : decode cX1_move 16 = .ok (.aload_n 0, 1) := gd_cX1_move_03_24 (16, .aload_n 0, 1) (List.mem_of_getElem? (i := 8) rfl)
theorem dX1_move_17 : decode cX1_move 17 = .ok (.getfield 9, 3) := gd_cX1_move_03_24 (17, .getfield 9, 3) (List.mem_of_getElem? (i := 9) rfl)
theorem dX1_move_20 : decode cX1_move 20 = .ok (.iload_n 1, 1) := gd_cX1_move_03_24 (20, .iload_n 1, 1) (List.mem_of_getElem? (i := 10) rfl)
theorem dX1_move_21 : decode cX1_move 21 = .ok (.iaload, 1) := gd_cX1_move_03_24 (21, .iaload, 1) (List.mem_of_getElem? (i := 11) rfl)
theorem dX1_move_22 : decode cX1_move 22 = .ok (.i2l, 1) := gd_cX1_move_03_24 (22, .i2l, 1) (List.mem_of_getElem? (i := 12) rfl)
theorem dX1_move_23 : decode cX1_move 23 = .ok (.aload_n 0, 1) := gd_cX1_move_03_24 (23, .aload_n 0, 1) (List.mem_of_getElem? (i := 13) rfl)
theorem dX1_move_24 : decode cX1_move 24 = .ok (.getfield 13, 3) := gd_cX1_move_03_24 (24, .getfield 13, 3) (List.mem_of_getElem? (i := 14) rfl)
theorem dX1_move_27 : decode cX1_move 27 = .ok (.iload_n 1, 1) := gd_cX1_move_03_24 (27, .iload_n 1, 1) (List.mem_of_getElem? (i := 15) rfl)
theorem dX1_move_28 : decode cX1_move 28 = .ok (.iaload, 1) := gd_cX1_move_03_24 (28, .iaload, 1) (List.mem_of_getElem? (i := 16) rfl)
theorem dX1_move_29 : decode cX1_move 29 = .ok (.iload_n 2, 1) := gd_cX1_move_03_24 (29, .iload_n 2, 1) (List.mem_of_getElem? (i := 17) rfl)
theorem dX1_move_30 : decode cX1_move 30 = .ok (.iadd, 1) := gd_cX1_move_03_24 (30, .iadd, 1) (List.mem_of_getElem? (i := 18) rfl)
theorem dX1_move_31 : decode cX1_move 31 = .ok (.invokevirtual 96, 3) := gd_cX1_move_03_24 (31, .invokevirtual 96, 3) (List.mem_of_getElem? (i := 19) rfl)
theorem dX1_move_34 : decode cX1_move 34 = .ok (.ireturn, 1) := gd_cX1_move_03_24 (34, .ireturn, 1) (List.mem_of_getElem? (i := 20) rfl)
def gl_cX1_round_03_25 : List (Nat × Instr × Nat) := [(0, .iload_n 1, 1), (1, .invokestatic 41, 3), (4, .iload_n 2, 1), (5, .lconst 1, 1), (6, .ldc2_w 99, 3), (9, .invokestatic 49, 3), (12, .iload_n 3, 1), (13, .invokestatic 77, 3), (16, .aload_n 0, 1), (17, .getfield 9, 3), (20, .iload_n 1, 1), (21, .iaload, 1), (22, .i2l, 1), (23, .invokestatic 101, 3), (26, .iload_n 2, 1), (27, .isub, 1), (28, .istore 4, 2), (30, .iload 4, 2), (32, .ifCond .gt 22, 3), (35, .aload_n 0, 1), (36, .iload_n 1, 1), (37, .aload_n 0, 1), (38, .getfield 9, 3), (41, .iload_n 1, 1), (42, .iaload, 1), (43, .i2l, 1), (44, .aload_n 0, 1), (45, .getfield 13, 3), (48, .iload_n 1, 1), (49, .iaload, 1), (50, .invokevirtual 55, 3), (53, .ireturn, 1), (54, .aload_n 0, 1), (55, .getfield 9, 3), (58, .iload_n 1, 1), (59, .iaload, 1), (60, .i2l, 1), (61, .iload 4, 2), (63, .invokestatic 59, 3), (66, .iload_n 3, 1), (67, .invokestatic 84, 3), (70, .lstore 5, 2), (72, .lload 5, 2), (74, .ldc2_w 105, 3), (77, .lcmp, 1), (78, .ifCond .ne 8, 3), (81, .aload_n 0, 1), (82, .invokevirtual 80, 3), (85, .ireturn, 1), (86, .aload_n 0, 1), (87, .getfield 13, 3), (90, .iload_n 1, 1), (91, .iaload, 1), (92, .iload 4, 2), (94, .isub, 1), (95, .istore 7, 2), (97, .lload 5, 2), (99, .invokestatic 101, 3), (102, .iload_n 2, 1), (103, .if_icmp .le 14, 3)]
theorem gd_cX1_round_03_25 : ∀ q ∈ gl_cX1_round_03_25, decode cX1_round q.1 = .ok q.2 := fdk_of 0 (by decide +kernel)
theorem dX1_round_0 : decode cX1_round 0 = .ok (.iload_n 1, 1) := gd_cX1_round_03_25 (0, .iload_n 1, 1) (List.mem_of_getElem? (i := 0) rfl)
theorem dX1_round_1 : decode cX1_round 1 = .ok (.invokestatic 41, 3) := gd_cX1_round_03_25 (1, .invokestatic 41, 3) (List.mem_of_getElem? (i := 1) rfl)
theorem dX1_round_4 : decode cX1_round 4 = .ok (.iload_n 2, 1) := gd_cX1_round_03_25 (4, .iload_n 2, 1) (List.mem_of_getElem? (i := 2) rfl)
theorem dX1_round_5 : decode cX1_round 5 = .ok (.lconst 1, 1) := gd_cX1_round_03_25 (5, .lconst 1, 1) (List.mem_of_getElem? (i := 3) rfl)
theorem dX1_round_6 : decode cX1_round 6 = .ok (.ldc2_w 99, 3) := gd_cX1_round_03_25 (6, .ldc2_w 99, 3) (List.mem_of_getElem? (i := 4) rfl)
theorem dX1_round_9 : decode cX1_round 9 = .ok (.invokestatic 49, 3) := gd_cX1_round_03_25 (9, .invokestatic 49, 3) (List.mem_of_getElem? (i := 5) rfl)
theorem dX1_round_12 : decode cX1_round 12 = .ok (.iload_n 3, 1) := gd_cX1_round_03_25 (12, .iload_n 3, 1) (List.mem_of_getElem? (i := 6) rfl)
theorem dX1_round_13 : decode cX1_round 13 = .ok (.invokestatic 77, 3) := gd_cX1_round_03_25 (13, .invokestatic 77, 3) (List.mem_of_getElem? (i := 7) rfl)
theorem dX1_round_16 : decode cX1_round 16 = .ok (.aload_n 0, 1) := gd_cX1_round_03_25 (16, .aload_n 0, 1) (List.mem_of_getElem? (i := 8) rfl)
theorem dX1_round_17 : decode cX1_round 17 = .ok (.getfield 9, 3) := gd_cX1_round_03_25 (17, .getfield 9, 3) (List.mem_of_getElem? (i := 9) rfl)
theorem dX1_round_20 : decode cX1_round 20 = .ok (.iload_n 1, 1) := gd_cX1_round_03_25 (20, .iload_n 1, 1) (List.mem_of_getElem? (i := 10) rfl)
theorem dX1_round_21 : decode cX1_round 21 = .ok (.iaload, 1) := gd_cX1_round_03_25 (21, .iaload, 1) (List.mem_of_getElem? (i := 11) rfl)
theorem dX1_round_22 : decode cX1_round 22 = .ok (.i2l, 1) := gd_cX1_round_03_25 (22, .i2l, 1) (List.mem_of_getElem? (i := 12) rfl)
theorem dX1_round_23 : decode cX1_round 23 = .ok (.invokestatic 101, 3) := gd_cX1_round_03_25 (23, .invokestatic 101, 3) (List.mem_of_getElem? (i := 13) rfl)
theorem dX1_round_26 : decode cX1_round 26 = .ok (.iload_n 2, 1) := gd_cX1_round_03_25 (26, .iload_n 2, 1) (List.mem_of_getElem? (i := 14) rfl)
theorem dX1_round_27 : decode cX1_round 27 = .ok (.isub, 1) := gd_cX1_round_03_25 (27, .isub, 1) (List.mem_of_getElem? (i := 15) rfl)
theorem dX1_round_28 : decode cX1_round 28 = .ok (.istore 4, 2) := gd_cX1_round_03_25 (28, .istore 4, 2) (List.mem_of_getElem? (i := 16) rfl)
theorem dX1_round_30 : decode cX1_round 30 = .ok (.iload 4, 2) := gd_cX1_round_03_25 (30, .iload 4, 2) (List.mem_of_getElem? (i := 17) rfl)
theorem dX1_round_32 : decode cX1_round 32 = .ok (.ifCond .gt 22, 3) := gd_cX1_round_03_25 (32, .ifCond .gt 22, 3) (List.mem_of_getElem? (i := 18) rfl)
theorem dX1_round_35 : decode cX1_round 35 = .ok (.aload_n 0, 1) := gd_cX1_round_03_25 (35, .aload_n 0, 1) (List.mem_of_getElem? (i := 19) rfl)
theorem dX1_round_36 : decode cX1_round 36 = .ok (.iload_n 1, 1) := gd_cX1_round_03_25 (36, .iload_n 1, 1) (List.mem_of_getElem? (i := 20) rfl)
theorem dX1_round_37 : decode cX1_round 37 = .ok (.aload_n 0, 1) := gd_cX1_round_03_25 (37, .aload_n 0, 1) (List.mem_of_getElem? (i := 21) rfl)
theorem dX1_round_38 : decode cX1_round 38 = .ok (.getfield 9, 3) := gd_cX1_round_03_25 (38, .getfield 9, 3) (List.mem_of_getElem? (i := 22) rfl)
theorem dX1_round_41 : decode cX1_round 41 = .ok (.iload_n 1, 1) := gd_cX1_round_03_25 (41, .iload_n 1, 1) (List.mem_of_getElem? (i := 23) rfl)
theorem dX1_round_42 : decode cX1_round 42 = .ok (.iaload, 1) := gd_cX1_round_03_25 (42, .iaload, 1) (List.mem_of_getElem? (i := 24) rfl)
theorem dX1_round_43 : decode cX1_round 43 = .ok (.i2l, 1) := gd_cX1_round_03_25 (43, .i2l, 1) (List.mem_of_getElem? (i := 25) rfl)
theorem dX1_round_44 : decode cX1_round 44 = .ok (.aload_n 0, 1) := gd_cX1_round_03_25 (44, .aload_n 0, 1) (List.mem_of_getElem? (i := 26) rfl)
theorem dX1_round_45 : decode cX1_round 45 = .ok (.getfield 13, 3) := gd_cX1_round_03_25 (45, .getfield 13, 3) (List.mem_of_getElem? (i := 27) rfl)
theorem dX1_round_48 : decode cX1_round 48 = .ok (.iload_n 1, 1) := gd_cX1_round_03_25 (48, .iload_n 1, 1) (List.mem_of_getElem? (i := 28) rfl)
theorem dX1_round_49 : decode cX1_round 49 = .ok (.iaload, 1) := gd_cX1_round_03_25 (49, .iaload, 1) (List.mem_of_getElem? (i := 29) rfl)
theorem dX1_round_50 : decode cX1_round 50 = .ok (.invokevirtual 55, 3) := gd_cX1_round_03_25 (50, .invokevirtual 55, 3) (List.mem_of_getElem? (i := 30) rfl)
theorem dX1_round_53 : decode cX1_round 53 = .ok (.ireturn, 1) := gd_cX1_round_03_25 (53, .ireturn, 1) (List.mem_of_getElem? (i := 31) rfl)
theorem dX1_round_54 : decode cX1_round 54 = .ok (.aload_n 0, 1) := gd_cX1_round_03_25 (54, .aload_n 0, 1) (List.mem_of_getElem? (i := 32) rfl)
theorem dX1_round_55 : decode cX1_round 55 = .ok (.getfield 9, 3) := gd_cX1_round_03_25 (55, .getfield 9, 3) (List.mem_of_getElem? (i := 33) rfl)
theorem dX1_round_58 : decode cX1_round 58 = .ok (.iload_n 1, 1) := gd_cX1_round_03_25 (58, .iload_n 1, 1) (List.mem_of_getElem? (i := 34) rfl)
theorem dX1_round_59 : decode cX1_round 59 = .ok (.iaload, 1) := gd_cX1_round_03_25 (59, .iaload, 1) (List.mem_of_getElem? (i := 35) rfl)
theorem dX1_round_60 : decode cX1_round 60 = .ok (.i2l, 1) := gd_cX1_round_03_25 (60, .i2l, 1) (List.mem_of_getElem? (i := 36) rfl)
theorem dX1_round_61 : decode cX1_round 61 = .ok (.iload 4, 2) := gd_cX1_round_03_25 (61, .iload 4, 2) (List.mem_of_getElem? (i := 37) rfl)
theorem dX1_round_63 : decode cX1_round 63 = .ok (.invokestatic 59, 3) := gd_cX1_round_03_25 (63, .invokestatic 59, 3) (List.mem_of_getElem? (i := 38) rfl)
theorem dX1_round_66 : decode cX1_round 66 = .ok (.iload_n 3, 1) := gd_cX1_round_03_25 (66, .iload_n 3, 1) (List.mem_of_getElem? (i := 39) rfl)
theorem dX1_round_67 : decode cX1_round 67 = .ok (.invokestatic 84, 3) := gd_cX1_round_03_25 (67, .invokestatic 84, 3) (List.mem_of_getElem? (i := 40) rfl)
theorem dX1_round_70 : decode cX1_round 70 = .ok (.lstore 5, 2) := gd_cX1_round_03_25 (70, .lstore 5, 2) (List.mem_of_getElem? (i := 41) rfl)
theorem dX1_round_72 : decode cX1_round 72 = .ok (.lload 5, 2) := gd_cX1_round_03_25 (72, .lload 5, 2) (List.mem_of_getElem? (i := 42) rfl)
theorem dX1_round_74 : decode cX1_round 74 = .ok (.ldc2_w 105, 3) := gd_cX1_round_03_25 (74, .ldc2_w 105, 3) (List.mem_of_getElem? (i := 43) rfl)
theorem dX1_round_77 : decode cX1_round 77 = .ok (.lcmp, 1) := gd_cX1_round_03_25 (77, .lcmp, 1) (List.mem_of_getElem? (i := 44) rfl)
theorem dX1_round_78 : decode cX1_round 78 = .ok (.ifCond .ne 8, 3) := gd_cX1_round_03_25 (78, .ifCond .ne 8, 3) (List.mem_of_getElem? (i := 45) rfl)
theorem dX1_round_81 : decode cX1_round 81 = .ok (.aload_n 0, 1) := gd_cX1_round_03_25 (81, .aload_n 0, 1) (List.mem_of_getElem? (i := 46) rfl)
theorem dX1_round_82 : decode cX1_round 82 = .ok (.invokevirtual 80, 3) := gd_cX1_round_03_25 (82, .invokevirtual 80, 3) (List.mem_of_getElem? (i := 47) rfl)
theorem dX1_round_85 : decode cX1_round 85 = .ok (.ireturn, 1) := gd_cX1_round_03_25 (85, .ireturn, 1) (List.mem_of_getElem? (i := 48) rfl)
theorem dX1_round_86 : decode cX1_round 86 = .ok (.aload_n 0, 1) := gd_cX1_round_03_25 (86, .aload_n 0, 1) (List.mem_of_getElem? (i := 49) rfl)
theorem dX1_round_87 : decode cX1_round 87 = .ok (.getfield 13, 3) := gd_cX1_round_03_25 (87, .getfield 13, 3) (List.mem_of_getElem? (i := 50) rfl)
theorem dX1_round_90 : decode cX1_round 90 = .ok (.iload_n 1, 1) := gd_cX1_round_03_25 (90, .iload_n 1, 1) (List.mem_of_getElem? (i := 51) rfl)
theorem dX1_round_91 : decode cX1_round 91 = .ok (.iaload, 1) := gd_cX1_round_03_25 (91, .iaload, 1) (List.mem_of_getElem? (i := 52) rfl)
theorem dX1_round_92 : decode cX1_round 92 = .ok (.iload 4, 2) := gd_cX1_round_03_25 (92, .iload 4, 2) (List.mem_of_getElem? (i := 53) rfl)
theorem dX1_round_94 : decode cX1_round 94 = .ok (.isub, 1) := gd_cX1_round_03_25 (94, .isub, 1) (List.mem_of_getElem? (i := 54) rfl)
theorem dX1_round_95 : decode cX1_round 95 = .ok (.istore 7, 2) := gd_cX1_round_03_25 (95, .istore 7, 2) (List.mem_of_getElem? (i := 55) rfl)
theorem dX1_round_97 : decode cX1_round 97 = .ok (.lload 5, 2) := gd_cX1_round_03_25 (97, .lload 5, 2) (List.mem_of_getElem? (i := 56) rfl)
theorem dX1_round_99 : decode cX1_round 99 = .ok (.invokestatic 101, 3) := gd_cX1_round_03_25 (99, .invokestatic 101, 3) (List.mem_of_getElem? (i := 57) rfl)
theorem dX1_round_102 : decode cX1_round 102 = .ok (.iload_n 2, 1) := gd_cX1_round_03_25 (102, .iload_n 2, 1) (List.mem_of_getElem? (i := 58) rfl)
theorem dX1_round_103 : decode cX1_round 103 = .ok (.if_icmp .le 14, 3) := gd_cX1_round_03_25 (103, .if_icmp .le 14, 3) (List.mem_of_getElem? (i := 59) rfl)
def gl_cX1_round_03_26 : List (Nat × Instr × Nat) := [(106, .lload 5, 2), (108, .ldc2_w 92, 3), (111, .ldiv, 1), (112, .lstore 5, 2), (114, .iinc 7 (-1), 3), (117, .aload_n 0, 1), (118, .iload_n 1, 1), (119, .lload 5, 2), (121, .iload 7, 2), (123, .invokevirtual 96, 3), (126, .ireturn, 1)]
theorem gd_cX1_round_03_26 : ∀ q ∈ gl_cX1_round_03_26, decode cX1_round q.1 = .ok q.2 := fdk_of 106 (by decide +kernel)
theorem dX1_round_106 : decode cX1_round 106 = .ok (.lload 5, 2) := gd_cX1_round_03_26 (106, .lload 5, 2) (List.mem_of_getElem? (i := 0) rfl)
theorem dX1_round_108 : decode cX1_round 108 = .ok (.ldc2_w 92, 3) := gd_cX1_round_03_26 (108, .ldc2_w 92, 3) (List.mem_of_getElem? (i := 1) rfl)
theorem dX1_round_111 : decode cX1_round 111 = .ok (.ldiv, 1) := gd_cX1_round_03_26 (111, .ldiv, 1) (List.mem_of_getElem? (i := 2) rfl)
theorem dX1_round_112 : decode cX1_round 112 = .ok (.lstore 5, 2) := gd_cX1_round_03_26 (112, .lstore 5, 2) (List.mem_of_getElem? (i := 3) rfl)
theorem dX1_round_114 : decode cX1_round 114 = .ok (.iinc 7 (-1), 3) := gd_cX1_round_03_26 (114, .iinc 7 (-1), 3) (List.mem_of_getElem? (i := 4) rfl)
theorem dX1_round_117 : decode cX1_round 117 = .ok (.aload_n 0, 1) := gd_cX1_round_03_26 (117, .aload_n 0, 1) (List.mem_of_getElem? (i := 5) rfl)
theorem dX1_round_118 : decode cX1_round 118 = .ok (.iload_n 1, 1) := gd_cX1_round_03_26 (118, .iload_n 1, 1) (List.mem_of_getElem? (i := 6) rfl)
theorem dX1_round_119 : decode cX1_round 119 = .ok (.lload 5, 2) := gd_cX1_round_03_26 (119, .lload 5, 2) (List.mem_of_getElem? (i := 7) rfl)
theorem dX1_round_121 : decode cX1_round 121 = .ok (.iload 7, 2) := gd_cX1_round_03_26 (121, .iload 7, 2) (List.mem_of_getElem? (i := 8) rfl)
theorem dX1_round_123 : decode cX1_round 123 = .ok (.invokevirtual 96, 3) := gd_cX1_round_03_26 (123, .invokevirtual 96, 3) (List.mem_of_getElem? (i := 9) rfl)
theorem dX1_round_126 : decode cX1_round 126 = .ok (.ireturn, 1) := gd_cX1_round_03_26 (126, .ireturn, 1) (List.mem_of_getElem? (i := 10) rfl)
def gl_cX1_greater_03_27 : List (Nat × Instr × Nat) := [(0, .iload_n 1, 1), (1, .invokestatic 41, 3), (4, .iload_n 2, 1), (5, .invokestatic 41, 3), (8, .iload_n 3, 1), (9, .invokestatic 41, 3), (12, .aload_n 0, 1), (13, .iload_n 1, 1), (14, .iload_n 2, 1), (15, .invokevirtual 107, 3), (18, .ifCond .ge 7, 3), (21, .iload_n 2, 1), (22, .goto 4, 3), (25, .iload_n 1, 1), (26, .istore 4, 2), (28, .aload_n 0, 1), (29, .iload_n 3, 1), (30, .aload_n 0, 1), (31, .getfield 9, 3), (34, .iload 4, 2), (36, .iaload, 1), (37, .i2l, 1), (38, .aload_n 0, 1), (39, .getfield 13, 3), (42, .iload 4, 2), (44, .iaload, 1), (45, .invokevirtual 55, 3), (48, .ireturn, 1)]
theorem gd_cX1_greater_03_27 : ∀ q ∈ gl_cX1_greater_03_27, decode cX1_greater q.1 = .ok q.2 := fdk_of 0 (by decide +kernel)
theorem dX1_greater_0 : decode cX1_greater 0 = .ok (.iload_n 1, 1) := gd_cX1_greater_03_27 (0, .iload_n 1, 1) (List.mem_of_getElem? (i := 0) rfl)
theorem dX1_greater_1 : decode cX1_greater 1 = .ok (.invokestatic 41, 3) := gd_cX1_greater_03_27 (1, .invokestatic 41, 3) (List.mem_of_getElem? (i := 1) rfl)
theorem dX1_greater_4 : decode cX1_greater 4 = .ok (.iload_n 2, 1) := gd_cX1_greater_03_27 (4, .iload_n 2, 1) (List.mem_of_getElem? (i := 2) rfl)
theorem dX1_greater_5 : decode cX1_greater 5 = .ok (.invokestatic 41, 3) := gd_cX1_greater_03_27 (5, .invokestatic 41, 3) (List.mem_of_getElem? (i := 3) rfl)
theorem dX1_greater_8 : decode cX1_greater 8 = .ok (.iload_n 3, 1) := gd_cX1_greater_03_27 (8, .iload_n 3, 1) (List.mem_of_getElem? (i := 4) rfl)
theorem dX1_greater_9 : decode cX1_greater 9 = .ok (.invokestatic 41, 3) := gd_cX1_greater_03_27 (9, .invokestatic 41, 3) (List.mem_of_getElem? (i := 5) rfl)
theorem dX1_greater_12 : decode cX1_greater 12 = .ok (.aload_n 0, 1) := gd_cX1_greater_03_27 (12, .aload_n 0, 1) (List.mem_of_getElem? (i := 6) rfl)
theorem dX1_greater_13 : decode cX1_greater 13 = .ok (.iload_n 1, 1) := gd_cX1_greater_03_27 (13, .iload_n 1, 1) (List.mem_of_getElem? (i := 7) rfl)
theorem dX1_greater_14 : decode cX1_greater 14 = .ok (.iload_n 2, 1) := gd_cX1_greater_03_27 (14, .iload_n 2, 1) (List.mem_of_getElem? (i := 8) rfl)
theorem dX1_greater_15 : decode cX1_greater 15 = .ok (.invokevirtual 107, 3) := gd_cX1_greater_03_27 (15, .invokevirtual 107, 3) (List.mem_of_getElem? (i := 9) rfl)
theorem dX1_greater_18 : decode cX1_greater 18 = .ok (.ifCond .ge 7, 3) := gd_cX1_greater_03_27 (18, .ifCond .ge 7, 3) (List.mem_of_getElem? (i := 10) rfl)
theorem dX1_greater_21 : decode cX1_greater 21 = .ok (.iload_n 2, 1) := gd_cX1_greater_03_27 (21, .iload_n 2, 1) (List.mem_of_getElem? (i := 11) rfl)
theorem dX1_greater_22 : decode cX1_greater 22 = .ok (.goto 4, 3) := gd_cX1_greater_03_27 (22, .goto 4, 3) (List.mem_of_getElem? (i := 12) rfl)
theorem dX1_greater_25 : decode cX1_greater 25 = .ok (.iload_n 1, 1) := gd_cX1_greater_03_27 (25, .iload_n 1, 1) (List.mem_of_getElem? (i := 13) rfl)
theorem dX1_greater_26 : decode cX1_greater 26 = .ok (.istore 4, 2) := gd_cX1_greater_03_27 (26, .istore 4, 2) (List.mem_of_getElem? (i := 14) rfl)
theorem dX1_greater_28 : decode cX1_greater 28 = .ok (.aload_n 0, 1) := gd_cX1_greater_03_27 (28, .aload_n 0, 1) (List.mem_of_getElem? (i := 15) rfl)
theorem dX1_greater_29 : decode cX1_greater 29 = .ok (.iload_n 3, 1) := gd_cX1_greater_03_27 (29, .iload_n 3, 1) (List.mem_of_getElem? (i := 16) rfl)
theorem dX1_greater_30 : decode cX1_greater 30 = .ok (.aload_n 0, 1) := gd_cX1_greater_03_27 (30, .aload_n 0, 1) (List.mem_of_getElem? (i := 17) rfl)
theorem dX1_greater_31 : decode cX1_greater 31 = .ok (.getfield 9, 3) := gd_cX1_greater_03_27 (31, .getfield 9, 3) (List.mem_of_getElem? (i := 18) rfl)
theorem dX1_greater_34 : decode cX1_greater 34 = .ok (.iload 4, 2) := gd_cX1_greater_03_27 (34, .iload 4, 2) (List.mem_of_getElem? (i := 19) rfl)
theorem dX1_greater_36 : decode cX1_greater 36 = .ok (.iaload, 1) := gd_cX1_greater_03_27 (36, .iaload, 1) (List.mem_of_getElem? (i := 20) rfl)
theorem dX1_greater_37 : decode cX1_greater 37 = .ok (.i2l, 1) := gd_cX1_greater_03_27 (37, .i2l, 1) (List.mem_of_getElem? (i := 21) rfl)
theorem dX1_greater_38 : decode cX1_greater 38 = .ok (.aload_n 0, 1) := gd_cX1_greater_03_27 (38, .aload_n 0, 1) (List.mem_of_getElem? (i := 22) rfl)
theorem dX1_greater_39 : decode cX1_greater 39 = .ok (.getfield 13, 3) := gd_cX1_greater_03_27 (39, .getfield 13, 3) (List.mem_of_getElem? (i := 23) rfl)
theorem dX1_greater_42 : decode cX1_greater 42 = .ok (.iload 4, 2) := gd_cX1_greater_03_27 (42, .iload 4, 2) (List.mem_of_getElem? (i := 24) rfl)
theorem dX1_greater_44 : decode cX1_greater 44 = .ok (.iaload, 1) := gd_cX1_greater_03_27 (44, .iaload, 1) (List.mem_of_getElem? (i := 25) rfl)
theorem dX1_greater_45 : decode cX1_greater 45 = .ok (.invokevirtual 55, 3) := gd_cX1_greater_03_27 (45, .invokevirtual 55, 3) (List.mem_of_getElem? (i := 26) rfl)
theorem dX1_greater_48 : decode cX1_greater 48 = .ok (.ireturn, 1) := gd_cX1_greater_03_27 (48, .ireturn, 1) (List.mem_of_getElem? (i := 27) rfl)
def gl_cX1_lesser_03_28 : List (Nat × Instr × Nat) := [(0, .iload_n 1, 1), (1, .invokestatic 41, 3), (4, .iload_n 2, 1), (5, .invokestatic 41, 3), (8, .iload_n 3, 1), (9, .invokestatic 41, 3), (12, .aload_n 0, 1), (13, .iload_n 1, 1), (14, .iload_n 2, 1), (15, .invokevirtual 107, 3), (18, .ifCond .le 7, 3), (21, .iload_n 2, 1), (22, .goto 4, 3), (25, .iload_n 1, 1), (26, .istore 4, 2), (28, .aload_n 0, 1), (29, .iload_n 3, 1), (30, .aload_n 0, 1), (31, .getfield 9, 3), (34, .iload 4, 2), (36, .iaload, 1), (37, .i2l, 1), (38, .aload_n 0, 1), (39, .getfield 13, 3), (42, .iload 4, 2), (44, .iaload, 1), (45, .invokevirtual 55, 3), (48, .ireturn, 1)]
theorem gd_cX1_lesser_03_28 : ∀ q ∈ gl_cX1_lesser_03_28, decode cX1_lesser q.1 = .ok q.2 := fdk_of 0 (by decide +kernel)
theorem dX1_lesser_0 : decode cX1_lesser 0 = .ok (.iload_n 1, 1) := gd_cX1_lesser_03_28 (0, .iload_n 1, 1) (List.mem_of_getElem? (i := 0) rfl)
theorem dX1_lesser_1 : decode cX1_lesser 1 = .ok (.invokestatic 41, 3) := gd_cX1_lesser_03_28 (1, .invokestatic 41, 3) (List.mem_of_getElem? (i := 1) rfl)
theorem dX1_lesser_4 : decode cX1_lesser 4 = .ok (.iload_n 2, 1) := gd_cX1_lesser_03_28 (4, .iload_n 2, 1) (List.mem_of_getElem? (i := 2) rfl)
theorem dX1_lesser_5 : decode cX1_lesser 5 = .ok (.invokestatic 41, 3) := gd_cX1_lesser_03_28 (5, .invokestatic 41, 3) (List.mem_of_getElem? (i := 3) rfl)
theorem dX1_lesser_8 : decode cX1_lesser 8 = .ok (.iload_n 3, 1) := gd_cX1_lesser_03_28 (8, .iload_n 3, 1) (List.mem_of_getElem? (i := 4) rfl)
theorem dX1_lesser_9 : decode cX1_lesser 9 = .ok (.invokestatic 41, 3) := gd_cX1_lesser_03_28 (9, .invokestatic 41, 3) (List.mem_of_getElem? (i := 5) rfl)
theorem dX1_lesser_12 : decode cX1_lesser 12 = .ok (.aload_n 0, 1) := gd_cX1_lesser_03_28 (12, .aload_n 0, 1) (List.mem_of_getElem? (i := 6) rfl)
theorem dX1_lesser_13 : decode cX1_lesser 13 = .ok (.iload_n 1, 1) := gd_cX1_lesser_03_28 (13, .iload_n 1, 1) (List.mem_of_getElem? (i := 7) rfl)
theorem dX1_lesser_14 : decode cX1_lesser 14 = .ok (.iload_n 2, 1) := gd_cX1_lesser_03_28 (14, .iload_n 2, 1) (List.mem_of_getElem? (i := 8) rfl)
theorem dX1_lesser_15 : decode cX1_lesser 15 = .ok (.invokevirtual 107, 3) := gd_cX1_lesser_03_28 (15, .invokevirtual 107, 3) (List.mem_of_getElem? (i := 9) rfl)
theorem dX1_lesser_18 : decode cX1_lesser 18 = .ok (.ifCond .le 7, 3) := gd_cX1_lesser_03_28 (18, .ifCond .le 7, 3) (List.mem_of_getElem? (i := 10) rfl)
theorem dX1_lesser_21 : decode cX1_lesser 21 = .ok (.iload_n 2, 1) := gd_cX1_lesser_03_28 (21, .iload_n 2, 1) (List.mem_of_getElem? (i := 11) rfl)
theorem dX1_lesser_22 : decode cX1_lesser 22 = .ok (.goto 4, 3) := gd_cX1_lesser_03_28 (22, .goto 4, 3) (List.mem_of_getElem? (i := 12) rfl)
theorem dX1_lesser_25 : decode cX1_lesser 25 = .ok (.iload_n 1, 1) := gd_cX1_lesser_03_28 (25, .iload_n 1, 1) (List.mem_of_getElem? (i := 13) rfl)
theorem dX1_lesser_26 : decode cX1_lesser 26 = .ok (.istore 4, 2) := gd_cX1_lesser_03_28 (26, .istore 4, 2) (List.mem_of_getElem? (i := 14) rfl)
theorem dX1_lesser_28 : decode cX1_lesser 28 = .ok (.aload_n 0, 1) := gd_cX1_lesser_03_28 (28, .aload_n 0, 1) (List.mem_of_getElem? (i := 15) rfl)
theorem dX1_lesser_29 : decode cX1_lesser 29 = .ok (.iload_n 3, 1) := gd_cX1_lesser_03_28 (29, .iload_n 3, 1) (List.mem_of_getElem? (i := 16) rfl)
theorem dX1_lesser_30 : decode cX1_lesser 30 = .ok (.aload_n 0, 1) := gd_cX1_lesser_03_28 (30, .aload_n 0, 1) (List.mem_of_getElem? (i := 17) rfl)
theorem dX1_lesser_31 : decode cX1_lesser 31 = .ok (.getfield 9, 3) := gd_cX1_lesser_03_28 (31, .getfield 9, 3) (List.mem_of_getElem? (i := 18) rfl)
theorem dX1_lesser_34 : decode cX1_lesser 34 = .ok (.iload 4, 2) := gd_cX1_lesser_03_28 (34, .iload 4, 2) (List.mem_of_getElem? (i := 19) rfl)
theorem dX1_lesser_36 : decode cX1_lesser 36 = .ok (.iaload, 1) := gd_cX1_lesser_03_28 (36, .iaload, 1) (List.mem_of_getElem? (i := 20) rfl)
theorem dX1_lesser_37 : decode cX1_lesser 37 = .ok (.i2l, 1) := gd_cX1_lesser_03_28 (37, .i2l, 1) (List.mem_of_getElem? (i := 21) rfl)
theorem dX1_lesser_38 : decode cX1_lesser 38 = .ok (.aload_n 0, 1) := gd_cX1_lesser_03_28 (38, .aload_n 0, 1) (List.mem_of_getElem? (i := 22) rfl)
theorem dX1_lesser_39 : decode cX1_lesser 39 = .ok (.getfield 13, 3) := gd_cX1_lesser_03_28 (39, .getfield 13, 3) (List.mem_of_getElem? (i := 23) rfl)
theorem dX1_lesser_42 : decode cX1_lesser 42 = .ok (.iload 4, 2) := gd_cX1_lesser_03_28 (42, .iload 4, 2) (List.mem_of_getElem? (i := 24) rfl)
theorem dX1_lesser_44 : decode cX1_lesser 44 = .ok (.iaload, 1) := gd_cX1_lesser_03_28 (44, .iaload, 1) (List.mem_of_getElem? (i := 25) rfl)
theorem dX1_lesser_45 : decode cX1_lesser 45 = .ok (.invokevirtual 55, 3) := gd_cX1_lesser_03_28 (45, .invokevirtual 55, 3) (List.mem_of_getElem? (i := 26) rfl)
theorem dX1_lesser_48 : decode cX1_lesser 48 = .ok (.ireturn, 1) := gd_cX1_lesser_03_28 (48, .ireturn, 1) (List.mem_of_getElem? (i := 27) rfl)
def gl_cX1_cut_03_29 : List (Nat × Instr × Nat) := [(0, .iload_n 1, 1), (1, .invokestatic 110, 3), (4, .iload 5, 2), (6, .invokestatic 41, 3), (9, .iload_n 3, 1), (10, .lconst 0, 1), (11, .ldc2_w 53, 3), (14, .invokestatic 49, 3), (17, .iload 4, 2), (19, .invokestatic 77, 3), (22, .aload_n 0, 1), (23, .iload 5, 2), (25, .aload_n 0, 1), (26, .iload_n 1, 1), (27, .iload_n 2, 1), (28, .iload_n 3, 1), (29, .iload 4, 2), (31, .invokevirtual 113, 3), (34, .iload_n 3, 1), (35, .invokevirtual 55, 3), (38, .ireturn, 1)]
theorem gd_cX1_cut_03_29 : ∀ q ∈ gl_cX1_cut_03_29, decode cX1_cut q.1 = .ok q.2 := fdk_of 0 (by decide +kernel)
theorem dX1_cut_0 : decode cX1_cut 0 = .ok (.iload_n 1, 1) := gd_cX1_cut_03_29 (0, .iload_n 1, 1) (List.mem_of_getElem? (i := 0) rfl)
theorem dX1_cut_1 : decode cX1_cut 1 = .ok (.invokestatic 110, 3) := gd_cX1_cut_03_29 (1, .invokestatic 110, 3) (List.mem_of_getElem? (i := 1) rfl)
theorem dX1_cut_4 : decode cX1_cut 4 = .ok (.iload 5, 2) := gd_cX1_cut_03_29 (4, .iload 5, 2) (List.mem_of_getElem? (i := 2) rfl)
theorem dX1_cut_6 : decode cX1_cut 6 = .ok (.invokestatic 41, 3) := gd_cX1_cut_03_29 (6, .invokestatic 41, 3) (List.mem_of_getElem? (i := 3) rfl)
theorem dX1_cut_9 : decode cX1_cut 9 = .ok (.iload_n 3, 1) := gd_cX1_cut_03_29 (9, .iload_n 3, 1) (List.mem_of_getElem? (i := 4) rfl)
theorem dX1_cut_10 : decode cX1_cut 10 = .ok (.lconst 0, 1) := gd_cX1_cut_03_29 (10, .lconst 0, 1) (List.mem_of_getElem? (i := 5) rfl)
theorem dX1_cut_11 : decode cX1_cut 11 = .ok (.ldc2_w 53, 3) := gd_cX1_cut_03_29 (11, .ldc2_w 53, 3) (List.mem_of_getElem? (i := 6) rfl)
theorem dX1_cut_14 : decode cX1_cut 14 = .ok (.invokestatic 49, 3) := gd_cX1_cut_03_29 (14, .invokestatic 49, 3) (List.mem_of_getElem? (i := 7) rfl)
theorem dX1_cut_17 : decode cX1_cut 17 = .ok (.iload 4, 2) := gd_cX1_cut_03_29 (17, .iload 4, 2) (List.mem_of_getElem? (i := 8) rfl)
theorem dX1_cut_19 : decode cX1_cut 19 = .ok (.invokestatic 77, 3) := gd_cX1_cut_03_29 (19, .invokestatic 77, 3) (List.mem_of_getElem? (i := 9) rfl)
theorem dX1_cut_22 : decode cX1_cut 22 = .ok (.aload_n 0, 1) := gd_cX1_cut_03_29 (22, .aload_n 0, 1) (List.mem_of_getElem? (i := 10) rfl)
theorem dX1_cut_23 : decode cX1_cut 23 = .ok (.iload 5, 2) := gd_cX1_cut_03_29 (23, .iload 5, 2) (List.mem_of_getElem? (i := 11) rfl)
theorem dX1_cut_25 : decode cX1_cut 25 = .ok (.aload_n 0, 1) := gd_cX1_cut_03_29 (25, .aload_n 0, 1) (List.mem_of_getElem? (i := 12) rfl)
theorem dX1_cut_26 : decode cX1_cut 26 = .ok (.iload_n 1, 1) := gd_cX1_cut_03_29 (26, .iload_n 1, 1) (List.mem_of_getElem? (i := 13) rfl)
theorem dX1_cut_27 : decode cX1_cut 27 = .ok (.iload_n 2, 1) := gd_cX1_cut_03_29 (27, .iload_n 2, 1) (List.mem_of_getElem? (i := 14) rfl)
theorem dX1_cut_28 : decode cX1_cut 28 = .ok (.iload_n 3, 1) := gd_cX1_cut_03_29 (28, .iload_n 3, 1) (List.mem_of_getElem? (i := 15) rfl)
theorem dX1_cut_29 : decode cX1_cut 29 = .ok (.iload 4, 2) := gd_cX1_cut_03_29 (29, .iload 4, 2) (List.mem_of_getElem? (i := 16) rfl)
theorem dX1_cut_31 : decode cX1_cut 31 = .ok (.invokevirtual 113, 3) := gd_cX1_cut_03_29 (31, .invokevirtual 113, 3) (List.mem_of_getElem? (i := 17) rfl)
theorem dX1_cut_34 : decode cX1_cut 34 = .ok (.iload_n 3, 1) := gd_cX1_cut_03_29 (34, .iload_n 3, 1) (List.mem_of_getElem? (i := 18) rfl)
theorem dX1_cut_35 : decode cX1_cut 35 = .ok (.invokevirtual 55, 3) := gd_cX1_cut_03_29 (35, .invokevirtual 55, 3) (List.mem_of_getElem? (i := 19) rfl)
theorem dX1_cut_38 : decode cX1_cut 38 = .ok (.ireturn, 1) := gd_cX1_cut_03_29 (38, .ireturn, 1) (List.mem_of_getElem? (i := 20) rfl)
def gl_cX1_count_03_30 : List (Nat × Instr × Nat) := [(0, .iload_n 1, 1), (1, .invokestatic 41, 3), (4, .aload_n 0, 1), (5, .getfield 9, 3), (8, .iload_n 1, 1), (9, .iaload, 1), (10, .ireturn, 1)]
theorem gd_cX1_count_03_30 : ∀ q ∈ gl_cX1_count_03_30, decode cX1_count q.1 = .ok q.2 := fdk_of 0 (by decide +kernel)
theorem dX1_count_0 : decode cX1_count 0 = .ok (.iload_n 1, 1) := gd_cX1_count_03_30 (0, .iload_n 1, 1) (List.mem_of_getElem? (i := 0) rfl)
theorem dX1_count_1 : decode cX1_count 1 = .ok (.invokestatic 41, 3) := gd_cX1_count_03_30 (1, .invokestatic 41, 3) (List.mem_of_getElem? (i := 1) rfl)
theorem dX1_count_4 : decode cX1_count 4 = .ok (.aload_n 0, 1) := gd_cX1_count_03_30 (4, .aload_n 0, 1) (List.mem_of_getElem? (i := 2) rfl)
theorem dX1_count_5 : decode cX1_count 5 = .ok (.getfield 9, 3) := gd_cX1_count_03_30 (5, .getfield 9, 3) (List.mem_of_getElem? (i := 3) rfl)
theorem dX1_count_8 : decode cX1_count 8 = .ok (.iload_n 1, 1) := gd_cX1_count_03_30 (8, .iload_n 1, 1) (List.mem_of_getElem? (i := 4) rfl)
theorem dX1_count_9 : decode cX1_count 9 = .ok (.iaload, 1) := gd_cX1_count_03_30 (9, .iaload, 1) (List.mem_of_getElem? (i := 5) rfl)
theorem dX1_count_10 : decode cX1_count 10 = .ok (.ireturn, 1) := gd_cX1_count_03_30 (10, .ireturn, 1) (List.mem_of_getElem? (i := 6) rfl)
def gl_cX1_places_03_31 : List (Nat × Instr × Nat) := [(0, .iload_n 1, 1), (1, .invokestatic 41, 3), (4, .aload_n 0, 1), (5, .getfield 13, 3), (8, .iload_n 1, 1), (9, .iaload, 1), (10, .ireturn, 1)]
theorem gd_cX1_places_03_31 : ∀ q ∈ gl_cX1_places_03_31, decode cX1_places q.1 = .ok q.2 := fdk_of 0 (by decide +kernel)
theorem dX1_places_0 : decode cX1_places 0 = .ok (.iload_n 1, 1) := gd_cX1_places_03_31 (0, .iload_n 1, 1) (List.mem_of_getElem? (i := 0) rfl)
theorem dX1_places_1 : decode cX1_places 1 = .ok (.invokestatic 41, 3) := gd_cX1_places_03_31 (1, .invokestatic 41, 3) (List.mem_of_getElem? (i := 1) rfl)
theorem dX1_places_4 : decode cX1_places 4 = .ok (.aload_n 0, 1) := gd_cX1_places_03_31 (4, .aload_n 0, 1) (List.mem_of_getElem? (i := 2) rfl)
theorem dX1_places_5 : decode cX1_places 5 = .ok (.getfield 13, 3) := gd_cX1_places_03_31 (5, .getfield 13, 3) (List.mem_of_getElem? (i := 3) rfl)
theorem dX1_places_8 : decode cX1_places 8 = .ok (.iload_n 1, 1) := gd_cX1_places_03_31 (8, .iload_n 1, 1) (List.mem_of_getElem? (i := 4) rfl)
theorem dX1_places_9 : decode cX1_places 9 = .ok (.iaload, 1) := gd_cX1_places_03_31 (9, .iaload, 1) (List.mem_of_getElem? (i := 5) rfl)
theorem dX1_places_10 : decode cX1_places 10 = .ok (.ireturn, 1) := gd_cX1_places_03_31 (10, .ireturn, 1) (List.mem_of_getElem? (i := 6) rfl)
def gl_cX1_digits_03_32 : List (Nat × Instr × Nat) := [(0, .iload_n 1, 1), (1, .invokestatic 41, 3), (4, .aload_n 0, 1), (5, .getfield 9, 3), (8, .iload_n 1, 1), (9, .iaload, 1), (10, .i2l, 1), (11, .invokestatic 101, 3), (14, .ireturn, 1)]
theorem gd_cX1_digits_03_32 : ∀ q ∈ gl_cX1_digits_03_32, decode cX1_digits q.1 = .ok q.2 := fdk_of 0 (by decide +kernel)
theorem dX1_digits_0 : decode cX1_digits 0 = .ok (.iload_n 1, 1) := gd_cX1_digits_03_32 (0, .iload_n 1, 1) (List.mem_of_getElem? (i := 0) rfl)
theorem dX1_digits_1 : decode cX1_digits 1 = .ok (.invokestatic 41, 3) := gd_cX1_digits_03_32 (1, .invokestatic 41, 3) (List.mem_of_getElem? (i := 1) rfl)
theorem dX1_digits_4 : decode cX1_digits 4 = .ok (.aload_n 0, 1) := gd_cX1_digits_03_32 (4, .aload_n 0, 1) (List.mem_of_getElem? (i := 2) rfl)
theorem dX1_digits_5 : decode cX1_digits 5 = .ok (.getfield 9, 3) := gd_cX1_digits_03_32 (5, .getfield 9, 3) (List.mem_of_getElem? (i := 3) rfl)
theorem dX1_digits_8 : decode cX1_digits 8 = .ok (.iload_n 1, 1) := gd_cX1_digits_03_32 (8, .iload_n 1, 1) (List.mem_of_getElem? (i := 4) rfl)
theorem dX1_digits_9 : decode cX1_digits 9 = .ok (.iaload, 1) := gd_cX1_digits_03_32 (9, .iaload, 1) (List.mem_of_getElem? (i := 5) rfl)
theorem dX1_digits_10 : decode cX1_digits 10 = .ok (.i2l, 1) := gd_cX1_digits_03_32 (10, .i2l, 1) (List.mem_of_getElem? (i := 6) rfl)
theorem dX1_digits_11 : decode cX1_digits 11 = .ok (.invokestatic 101, 3) := gd_cX1_digits_03_32 (11, .invokestatic 101, 3) (List.mem_of_getElem? (i := 7) rfl)
theorem dX1_digits_14 : decode cX1_digits 14 = .ok (.ireturn, 1) := gd_cX1_digits_03_32 (14, .ireturn, 1) (List.mem_of_getElem? (i := 8) rfl)
def gl_cX1_sign_03_33 : List (Nat × Instr × Nat) := [(0, .iload_n 1, 1), (1, .invokestatic 41, 3), (4, .aload_n 0, 1), (5, .getfield 9, 3), (8, .iload_n 1, 1), (9, .iaload, 1), (10, .i2l, 1), (11, .invokestatic 117, 3), (14, .ireturn, 1)]
theorem gd_cX1_sign_03_33 : ∀ q ∈ gl_cX1_sign_03_33, decode cX1_sign q.1 = .ok q.2 := fdk_of 0 (by decide +kernel)
theorem dX1_sign_0 : decode cX1_sign 0 = .ok (.iload_n 1, 1) := gd_cX1_sign_03_33 (0, .iload_n 1, 1) (List.mem_of_getElem? (i := 0) rfl)
theorem dX1_sign_1 : decode cX1_sign 1 = .ok (.invokestatic 41, 3) := gd_cX1_sign_03_33 (1, .invokestatic 41, 3) (List.mem_of_getElem? (i := 1) rfl)
theorem dX1_sign_4 : decode cX1_sign 4 = .ok (.aload_n 0, 1) := gd_cX1_sign_03_33 (4, .aload_n 0, 1) (List.mem_of_getElem? (i := 2) rfl)
theorem dX1_sign_5 : decode cX1_sign 5 = .ok (.getfield 9, 3) := gd_cX1_sign_03_33 (5, .getfield 9, 3) (List.mem_of_getElem? (i := 3) rfl)
theorem dX1_sign_8 : decode cX1_sign 8 = .ok (.iload_n 1, 1) := gd_cX1_sign_03_33 (8, .iload_n 1, 1) (List.mem_of_getElem? (i := 4) rfl)
theorem dX1_sign_9 : decode cX1_sign 9 = .ok (.iaload, 1) := gd_cX1_sign_03_33 (9, .iaload, 1) (List.mem_of_getElem? (i := 5) rfl)
theorem dX1_sign_10 : decode cX1_sign 10 = .ok (.i2l, 1) := gd_cX1_sign_03_33 (10, .i2l, 1) (List.mem_of_getElem? (i := 6) rfl)
theorem dX1_sign_11 : decode cX1_sign 11 = .ok (.invokestatic 117, 3) := gd_cX1_sign_03_33 (11, .invokestatic 117, 3) (List.mem_of_getElem? (i := 7) rfl)
theorem dX1_sign_14 : decode cX1_sign 14 = .ok (.ireturn, 1) := gd_cX1_sign_03_33 (14, .ireturn, 1) (List.mem_of_getElem? (i := 8) rfl)
def gl_cX1_text_03_34 : List (Nat × Instr × Nat) := [(0, .iload_n 1, 1), (1, .invokestatic 41, 3), (4, .iload_n 2, 1), (5, .lconst 0, 1), (6, .lconst 1, 1), (7, .invokestatic 49, 3), (10, .aload_n 0, 1), (11, .getfield 9, 3), (14, .iload_n 1, 1), (15, .iaload, 1), (16, .i2l, 1), (17, .aload_n 0, 1), (18, .getfield 13, 3), (21, .iload_n 1, 1), (22, .iaload, 1), (23, .invokestatic 120, 3), (26, .areturn, 1)]
theorem gd_cX1_text_03_34 : ∀ q ∈ gl_cX1_text_03_34, decode cX1_text q.1 = .ok q.2 := fdk_of 0 (by decide +kernel)
theorem dX1_text_0 : decode cX1_text 0 = .ok (.iload_n 1, 1) := gd_cX1_text_03_34 (0, .iload_n 1, 1) (List.mem_of_getElem? (i := 0) rfl)
theorem dX1_text_1 : decode cX1_text 1 = .ok (.invokestatic 41, 3) := gd_cX1_text_03_34 (1, .invokestatic 41, 3) (List.mem_of_getElem? (i := 1) rfl)
theorem dX1_text_4 : decode cX1_text 4 = .ok (.iload_n 2, 1) := gd_cX1_text_03_34 (4, .iload_n 2, 1) (List.mem_of_getElem? (i := 2) rfl)
theorem dX1_text_5 : decode cX1_text 5 = .ok (.lconst 0, 1) := gd_cX1_text_03_34 (5, .lconst 0, 1) (List.mem_of_getElem? (i := 3) rfl)
theorem dX1_text_6 : decode cX1_text 6 = .ok (.lconst 1, 1) := gd_cX1_text_03_34 (6, .lconst 1, 1) (List.mem_of_getElem? (i := 4) rfl)
theorem dX1_text_7 : decode cX1_text 7 = .ok (.invokestatic 49, 3) := gd_cX1_text_03_34 (7, .invokestatic 49, 3) (List.mem_of_getElem? (i := 5) rfl)
theorem dX1_text_10 : decode cX1_text 10 = .ok (.aload_n 0, 1) := gd_cX1_text_03_34 (10, .aload_n 0, 1) (List.mem_of_getElem? (i := 6) rfl)
theorem dX1_text_11 : decode cX1_text 11 = .ok (.getfield 9, 3) := gd_cX1_text_03_34 (11, .getfield 9, 3) (List.mem_of_getElem? (i := 7) rfl)
theorem dX1_text_14 : decode cX1_text 14 = .ok (.iload_n 1, 1) := gd_cX1_text_03_34 (14, .iload_n 1, 1) (List.mem_of_getElem? (i := 8) rfl)
theorem dX1_text_15 : decode cX1_text 15 = .ok (.iaload, 1) := gd_cX1_text_03_34 (15, .iaload, 1) (List.mem_of_getElem? (i := 9) rfl)
theorem dX1_text_16 : decode cX1_text 16 = .ok (.i2l, 1) := gd_cX1_text_03_34 (16, .i2l, 1) (List.mem_of_getElem? (i := 10) rfl)
theorem dX1_text_17 : decode cX1_text 17 = .ok (.aload_n 0, 1) := gd_cX1_text_03_34 (17, .aload_n 0, 1) (List.mem_of_getElem? (i := 11) rfl)
theorem dX1_text_18 : decode cX1_text 18 = .ok (.getfield 13, 3) := gd_cX1_text_03_34 (18, .getfield 13, 3) (List.mem_of_getElem? (i := 12) rfl)
theorem dX1_text_21 : decode cX1_text 21 = .ok (.iload_n 1, 1) := gd_cX1_text_03_34 (21, .iload_n 1, 1) (List.mem_of_getElem? (i := 13) rfl)
theorem dX1_text_22 : decode cX1_text 22 = .ok (.iaload, 1) := gd_cX1_text_03_34 (22, .iaload, 1) (List.mem_of_getElem? (i := 14) rfl)
theorem dX1_text_23 : decode cX1_text 23 = .ok (.invokestatic 120, 3) := gd_cX1_text_03_34 (23, .invokestatic 120, 3) (List.mem_of_getElem? (i := 15) rfl)
theorem dX1_text_26 : decode cX1_text 26 = .ok (.areturn, 1) := gd_cX1_text_03_34 (26, .areturn, 1) (List.mem_of_getElem? (i := 16) rfl)
def gl_cX1_order_03_35 : List (Nat × Instr × Nat) := [(0, .iload_n 1, 1), (1, .invokestatic 41, 3), (4, .iload_n 2, 1), (5, .invokestatic 41, 3), (8, .aload_n 0, 1), (9, .iload_n 1, 1), (10, .iload_n 2, 1), (11, .invokevirtual 107, 3), (14, .ireturn, 1)]
theorem gd_cX1_order_03_35 : ∀ q ∈ gl_cX1_order_03_35, decode cX1_order q.1 = .ok q.2 := fdk_of 0 (by decide +kernel)
theorem dX1_order_0 : decode cX1_order 0 = .ok (.iload_n 1, 1) := gd_cX1_order_03_35 (0, .iload_n 1, 1) (List.mem_of_getElem? (i := 0) rfl)
theorem dX1_order_1 : decode cX1_order 1 = .ok (.invokestatic 41, 3) := gd_cX1_order_03_35 (1, .invokestatic 41, 3) (List.mem_of_getElem? (i := 1) rfl)
theorem dX1_order_4 : decode cX1_order 4 = .ok (.iload_n 2, 1) := gd_cX1_order_03_35 (4, .iload_n 2, 1) (List.mem_of_getElem? (i := 2) rfl)
theorem dX1_order_5 : decode cX1_order 5 = .ok (.invokestatic 41, 3) := gd_cX1_order_03_35 (5, .invokestatic 41, 3) (List.mem_of_getElem? (i := 3) rfl)
theorem dX1_order_8 : decode cX1_order 8 = .ok (.aload_n 0, 1) := gd_cX1_order_03_35 (8, .aload_n 0, 1) (List.mem_of_getElem? (i := 4) rfl)
theorem dX1_order_9 : decode cX1_order 9 = .ok (.iload_n 1, 1) := gd_cX1_order_03_35 (9, .iload_n 1, 1) (List.mem_of_getElem? (i := 5) rfl)
theorem dX1_order_10 : decode cX1_order 10 = .ok (.iload_n 2, 1) := gd_cX1_order_03_35 (10, .iload_n 2, 1) (List.mem_of_getElem? (i := 6) rfl)
theorem dX1_order_11 : decode cX1_order 11 = .ok (.invokevirtual 107, 3) := gd_cX1_order_03_35 (11, .invokevirtual 107, 3) (List.mem_of_getElem? (i := 7) rfl)
theorem dX1_order_14 : decode cX1_order 14 = .ok (.ireturn, 1) := gd_cX1_order_03_35 (14, .ireturn, 1) (List.mem_of_getElem? (i := 8) rfl)
def gl_cX1_same_03_36 : List (Nat × Instr × Nat) := [(0, .iload_n 1, 1), (1, .invokestatic 41, 3), (4, .iload_n 2, 1), (5, .invokestatic 41, 3), (8, .aload_n 0, 1), (9, .iload_n 1, 1), (10, .iload_n 2, 1), (11, .invokevirtual 124, 3), (14, .ireturn, 1)]
theorem gd_cX1_same_03_36 : ∀ q ∈ gl_cX1_same_03_36, decode cX1_same q.1 = .ok q.2 := fdk_of 0 (by decide +kernel)
theorem dX1_same_0 : decode cX1_same 0 = .ok (.iload_n 1, 1) := gd_cX1_same_03_36 (0, .iload_n 1, 1) (List.mem_of_getElem? (i := 0) rfl)
theorem dX1_same_1 : decode cX1_same 1 = .ok (.invokestatic 41, 3) := gd_cX1_same_03_36 (1, .invokestatic 41, 3) (List.mem_of_getElem? (i := 1) rfl)
theorem dX1_same_4 : decode cX1_same 4 = .ok (.iload_n 2, 1) := gd_cX1_same_03_36 (4, .iload_n 2, 1) (List.mem_of_getElem? (i := 2) rfl)
theorem dX1_same_5 : decode cX1_same 5 = .ok (.invokestatic 41, 3) := gd_cX1_same_03_36 (5, .invokestatic 41, 3) (List.mem_of_getElem? (i := 3) rfl)
theorem dX1_same_8 : decode cX1_same 8 = .ok (.aload_n 0, 1) := gd_cX1_same_03_36 (8, .aload_n 0, 1) (List.mem_of_getElem? (i := 4) rfl)
theorem dX1_same_9 : decode cX1_same 9 = .ok (.iload_n 1, 1) := gd_cX1_same_03_36 (9, .iload_n 1, 1) (List.mem_of_getElem? (i := 5) rfl)
theorem dX1_same_10 : decode cX1_same 10 = .ok (.iload_n 2, 1) := gd_cX1_same_03_36 (10, .iload_n 2, 1) (List.mem_of_getElem? (i := 6) rfl)
theorem dX1_same_11 : decode cX1_same 11 = .ok (.invokevirtual 124, 3) := gd_cX1_same_03_36 (11, .invokevirtual 124, 3) (List.mem_of_getElem? (i := 7) rfl)
theorem dX1_same_14 : decode cX1_same 14 = .ok (.ireturn, 1) := gd_cX1_same_03_36 (14, .ireturn, 1) (List.mem_of_getElem? (i := 8) rfl)
def gl_cX1_setWheel_03_37 : List (Nat × Instr × Nat) := [(0, .iload_n 1, 1), (1, .invokestatic 110, 3), (4, .iload_n 3, 1), (5, .invokestatic 128, 3), (8, .iload_n 2, 1), (9, .lconst 0, 1), (10, .iload_n 3, 1), (11, .iconst 1, 1), (12, .isub, 1), (13, .i2l, 1), (14, .invokestatic 49, 3), (17, .aload_n 0, 1), (18, .iload_n 1, 1), (19, .iload_n 2, 1), (20, .iload_n 3, 1), (21, .invokevirtual 131, 3), (24, .aload_n 0, 1), (25, .getfield 25, 3), (28, .iload_n 1, 1), (29, .iaload, 1), (30, .ireturn, 1)]
theorem gd_cX1_setWheel_03_37 : ∀ q ∈ gl_cX1_setWheel_03_37, decode cX1_setWheel q.1 = .ok q.2 := fdk_of 0 (by decide +kernel)
theorem dX1_setWheel_0 : decode cX1_setWheel 0 = .ok (.iload_n 1, 1) := gd_cX1_setWheel_03_37 (0, .iload_n 1, 1) (List.mem_of_getElem? (i := 0) rfl)
theorem dX1_setWheel_1 : decode cX1_setWheel 1 = .ok (.invokestatic 110, 3) := gd_cX1_setWheel_03_37 (1, .invokestatic 110, 3) (List.mem_of_getElem? (i := 1) rfl)
theorem dX1_setWheel_4 : decode cX1_setWheel 4 = .ok (.iload_n 3, 1) := gd_cX1_setWheel_03_37 (4, .iload_n 3, 1) (List.mem_of_getElem? (i := 2) rfl)
theorem dX1_setWheel_5 : decode cX1_setWheel 5 = .ok (.invokestatic 128, 3) := gd_cX1_setWheel_03_37 (5, .invokestatic 128, 3) (List.mem_of_getElem? (i := 3) rfl)
theorem dX1_setWheel_8 : decode cX1_setWheel 8 = .ok (.iload_n 2, 1) := gd_cX1_setWheel_03_37 (8, .iload_n 2, 1) (List.mem_of_getElem? (i := 4) rfl)
theorem dX1_setWheel_9 : decode cX1_setWheel 9 = .ok (.lconst 0, 1) := gd_cX1_setWheel_03_37 (9, .lconst 0, 1) (List.mem_of_getElem? (i := 5) rfl)
theorem dX1_setWheel_10 : decode cX1_setWheel 10 = .ok (.iload_n 3, 1) := gd_cX1_setWheel_03_37 (10, .iload_n 3, 1) (List.mem_of_getElem? (i := 6) rfl)
theorem dX1_setWheel_11 : decode cX1_setWheel 11 = .ok (.iconst 1, 1) := gd_cX1_setWheel_03_37 (11, .iconst 1, 1) (List.mem_of_getElem? (i := 7) rfl)
theorem dX1_setWheel_12 : decode cX1_setWheel 12 = .ok (.isub, 1) := gd_cX1_setWheel_03_37 (12, .isub, 1) (List.mem_of_getElem? (i := 8) rfl)
theorem dX1_setWheel_13 : decode cX1_setWheel 13 = .ok (.i2l, 1) := gd_cX1_setWheel_03_37 (13, .i2l, 1) (List.mem_of_getElem? (i := 9) rfl)
theorem dX1_setWheel_14 : decode cX1_setWheel 14 = .ok (.invokestatic 49, 3) := gd_cX1_setWheel_03_37 (14, .invokestatic 49, 3) (List.mem_of_getElem? (i := 10) rfl)
theorem dX1_setWheel_17 : decode cX1_setWheel 17 = .ok (.aload_n 0, 1) := gd_cX1_setWheel_03_37 (17, .aload_n 0, 1) (List.mem_of_getElem? (i := 11) rfl)
theorem dX1_setWheel_18 : decode cX1_setWheel 18 = .ok (.iload_n 1, 1) := gd_cX1_setWheel_03_37 (18, .iload_n 1, 1) (List.mem_of_getElem? (i := 12) rfl)
theorem dX1_setWheel_19 : decode cX1_setWheel 19 = .ok (.iload_n 2, 1) := gd_cX1_setWheel_03_37 (19, .iload_n 2, 1) (List.mem_of_getElem? (i := 13) rfl)
theorem dX1_setWheel_20 : decode cX1_setWheel 20 = .ok (.iload_n 3, 1) := gd_cX1_setWheel_03_37 (20, .iload_n 3, 1) (List.mem_of_getElem? (i := 14) rfl)
theorem dX1_setWheel_21 : decode cX1_setWheel 21 = .ok (.invokevirtual 131, 3) := gd_cX1_setWheel_03_37 (21, .invokevirtual 131, 3) (List.mem_of_getElem? (i := 15) rfl)
theorem dX1_setWheel_24 : decode cX1_setWheel 24 = .ok (.aload_n 0, 1) := gd_cX1_setWheel_03_37 (24, .aload_n 0, 1) (List.mem_of_getElem? (i := 16) rfl)
theorem dX1_setWheel_25 : decode cX1_setWheel 25 = .ok (.getfield 25, 3) := gd_cX1_setWheel_03_37 (25, .getfield 25, 3) (List.mem_of_getElem? (i := 17) rfl)
theorem dX1_setWheel_28 : decode cX1_setWheel 28 = .ok (.iload_n 1, 1) := gd_cX1_setWheel_03_37 (28, .iload_n 1, 1) (List.mem_of_getElem? (i := 18) rfl)
theorem dX1_setWheel_29 : decode cX1_setWheel 29 = .ok (.iaload, 1) := gd_cX1_setWheel_03_37 (29, .iaload, 1) (List.mem_of_getElem? (i := 19) rfl)
theorem dX1_setWheel_30 : decode cX1_setWheel 30 = .ok (.ireturn, 1) := gd_cX1_setWheel_03_37 (30, .ireturn, 1) (List.mem_of_getElem? (i := 20) rfl)
def gl_cX1_step_03_38 : List (Nat × Instr × Nat) := [(0, .iload_n 1, 1), (1, .invokestatic 110, 3), (4, .aload_n 0, 1), (5, .iload_n 1, 1), (6, .aload_n 0, 1), (7, .getfield 22, 3), (10, .iload_n 1, 1), (11, .iaload, 1), (12, .invokevirtual 135, 3), (15, .aload_n 0, 1), (16, .getfield 19, 3), (19, .iload_n 1, 1), (20, .iaload, 1), (21, .invokestatic 138, 3), (24, .istore_n 2, 1), (25, .aload_n 0, 1), (26, .iload_n 1, 1), (27, .iconst 1, 1), (28, .invokevirtual 141, 3), (31, .iload_n 2, 1), (32, .ireturn, 1)]
theorem gd_cX1_step_03_38 : ∀ q ∈ gl_cX1_step_03_38, decode cX1_step q.1 = .ok q.2 := fdk_of 0 (by decide +kernel)
theorem dX1_step_0 : decode cX1_step 0 = .ok (.iload_n 1, 1) := gd_cX1_step_03_38 (0, .iload_n 1, 1) (List.mem_of_getElem? (i := 0) rfl)
theorem dX1_step_1 : decode cX1_step 1 = .ok (.invokestatic 110, 3) := gd_cX1_step_03_38 (1, .invokestatic 110, 3) (List.mem_of_getElem? (i := 1) rfl)
theorem dX1_step_4 : decode cX1_step 4 = .ok (.aload_n 0, 1) := gd_cX1_step_03_38 (4, .aload_n 0, 1) (List.mem_of_getElem? (i := 2) rfl)
theorem dX1_step_5 : decode cX1_step 5 = .ok (.iload_n 1, 1) := gd_cX1_step_03_38 (5, .iload_n 1, 1) (List.mem_of_getElem? (i := 3) rfl)
theorem dX1_step_6 : decode cX1_step 6 = .ok (.aload_n 0, 1) := gd_cX1_step_03_38 (6, .aload_n 0, 1) (List.mem_of_getElem? (i := 4) rfl)
theorem dX1_step_7 : decode cX1_step 7 = .ok (.getfield 22, 3) := gd_cX1_step_03_38 (7, .getfield 22, 3) (List.mem_of_getElem? (i := 5) rfl)
theorem dX1_step_10 : decode cX1_step 10 = .ok (.iload_n 1, 1) := gd_cX1_step_03_38 (10, .iload_n 1, 1) (List.mem_of_getElem? (i := 6) rfl)
theorem dX1_step_11 : decode cX1_step 11 = .ok (.iaload, 1) := gd_cX1_step_03_38 (11, .iaload, 1) (List.mem_of_getElem? (i := 7) rfl)
theorem dX1_step_12 : decode cX1_step 12 = .ok (.invokevirtual 135, 3) := gd_cX1_step_03_38 (12, .invokevirtual 135, 3) (List.mem_of_getElem? (i := 8) rfl)
theorem dX1_step_15 : decode cX1_step 15 = .ok (.aload_n 0, 1) := gd_cX1_step_03_38 (15, .aload_n 0, 1) (List.mem_of_getElem? (i := 9) rfl)
theorem dX1_step_16 : decode cX1_step 16 = .ok (.getfield 19, 3) := gd_cX1_step_03_38 (16, .getfield 19, 3) (List.mem_of_getElem? (i := 10) rfl)
theorem dX1_step_19 : decode cX1_step 19 = .ok (.iload_n 1, 1) := gd_cX1_step_03_38 (19, .iload_n 1, 1) (List.mem_of_getElem? (i := 11) rfl)
theorem dX1_step_20 : decode cX1_step 20 = .ok (.iaload, 1) := gd_cX1_step_03_38 (20, .iaload, 1) (List.mem_of_getElem? (i := 12) rfl)
theorem dX1_step_21 : decode cX1_step 21 = .ok (.invokestatic 138, 3) := gd_cX1_step_03_38 (21, .invokestatic 138, 3) (List.mem_of_getElem? (i := 13) rfl)
theorem dX1_step_24 : decode cX1_step 24 = .ok (.istore_n 2, 1) := gd_cX1_step_03_38 (24, .istore_n 2, 1) (List.mem_of_getElem? (i := 14) rfl)
theorem dX1_step_25 : decode cX1_step 25 = .ok (.aload_n 0, 1) := gd_cX1_step_03_38 (25, .aload_n 0, 1) (List.mem_of_getElem? (i := 15) rfl)
theorem dX1_step_26 : decode cX1_step 26 = .ok (.iload_n 1, 1) := gd_cX1_step_03_38 (26, .iload_n 1, 1) (List.mem_of_getElem? (i := 16) rfl)
theorem dX1_step_27 : decode cX1_step 27 = .ok (.iconst 1, 1) := gd_cX1_step_03_38 (27, .iconst 1, 1) (List.mem_of_getElem? (i := 17) rfl)
theorem dX1_step_28 : decode cX1_step 28 = .ok (.invokevirtual 141, 3) := gd_cX1_step_03_38 (28, .invokevirtual 141, 3) (List.mem_of_getElem? (i := 18) rfl)
theorem dX1_step_31 : decode cX1_step 31 = .ok (.iload_n 2, 1) := gd_cX1_step_03_38 (31, .iload_n 2, 1) (List.mem_of_getElem? (i := 19) rfl)
theorem dX1_step_32 : decode cX1_step 32 = .ok (.ireturn, 1) := gd_cX1_step_03_38 (32, .ireturn, 1) (List.mem_of_getElem? (i := 20) rfl)
def gl_cX1_turn_03_39 : List (Nat × Instr × Nat) := [(0, .iload_n 1, 1), (1, .invokestatic 110, 3), (4, .iload_n 2, 1), (5, .lconst 0, 1), (6, .ldc2_w 145, 3), (9, .invokestatic 49, 3), (12, .aload_n 0, 1), (13, .iload_n 1, 1), (14, .iload_n 2, 1), (15, .invokevirtual 141, 3), (18, .aload_n 0, 1), (19, .iload_n 1, 1), (20, .aload_n 0, 1), (21, .getfield 22, 3), (24, .iload_n 1, 1), (25, .iaload, 1), (26, .invokevirtual 135, 3), (29, .ireturn, 1)]
theorem gd_cX1_turn_03_39 : ∀ q ∈ gl_cX1_turn_03_39, decode cX1_turn q.1 = .ok q.2 := fdk_of 0 (by decide +kernel)
theorem dX1_turn_0 : decode cX1_turn 0 = .ok (.iload_n 1, 1) := gd_cX1_turn_03_39 (0, .iload_n 1, 1) (List.mem_of_getElem? (i := 0) rfl)
theorem dX1_turn_1 : decode cX1_turn 1 = .ok (.invokestatic 110, 3) := gd_cX1_turn_03_39 (1, .invokestatic 110, 3) (List.mem_of_getElem? (i := 1) rfl)
theorem dX1_turn_4 : decode cX1_turn 4 = .ok (.iload_n 2, 1) := gd_cX1_turn_03_39 (4, .iload_n 2, 1) (List.mem_of_getElem? (i := 2) rfl)
theorem dX1_turn_5 : decode cX1_turn 5 = .ok (.lconst 0, 1) := gd_cX1_turn_03_39 (5, .lconst 0, 1) (List.mem_of_getElem? (i := 3) rfl)
theorem dX1_turn_6 : decode cX1_turn 6 = .ok (.ldc2_w 145, 3) := gd_cX1_turn_03_39 (6, .ldc2_w 145, 3) (List.mem_of_getElem? (i := 4) rfl)
theorem dX1_turn_9 : decode cX1_turn 9 = .ok (.invokestatic 49, 3) := gd_cX1_turn_03_39 (9, .invokestatic 49, 3) (List.mem_of_getElem? (i := 5) rfl)
theorem dX1_turn_12 : decode cX1_turn 12 = .ok (.aload_n 0, 1) := gd_cX1_turn_03_39 (12, .aload_n 0, 1) (List.mem_of_getElem? (i := 6) rfl)
theorem dX1_turn_13 : decode cX1_turn 13 = .ok (.iload_n 1, 1) := gd_cX1_turn_03_39 (13, .iload_n 1, 1) (List.mem_of_getElem? (i := 7) rfl)
theorem dX1_turn_14 : decode cX1_turn 14 = .ok (.iload_n 2, 1) := gd_cX1_turn_03_39 (14, .iload_n 2, 1) (List.mem_of_getElem? (i := 8) rfl)
theorem dX1_turn_15 : decode cX1_turn 15 = .ok (.invokevirtual 141, 3) := gd_cX1_turn_03_39 (15, .invokevirtual 141, 3) (List.mem_of_getElem? (i := 9) rfl)
theorem dX1_turn_18 : decode cX1_turn 18 = .ok (.aload_n 0, 1) := gd_cX1_turn_03_39 (18, .aload_n 0, 1) (List.mem_of_getElem? (i := 10) rfl)
theorem dX1_turn_19 : decode cX1_turn 19 = .ok (.iload_n 1, 1) := gd_cX1_turn_03_39 (19, .iload_n 1, 1) (List.mem_of_getElem? (i := 11) rfl)
theorem dX1_turn_20 : decode cX1_turn 20 = .ok (.aload_n 0, 1) := gd_cX1_turn_03_39 (20, .aload_n 0, 1) (List.mem_of_getElem? (i := 12) rfl)
theorem dX1_turn_21 : decode cX1_turn 21 = .ok (.getfield 22, 3) := gd_cX1_turn_03_39 (21, .getfield 22, 3) (List.mem_of_getElem? (i := 13) rfl)
theorem dX1_turn_24 : decode cX1_turn 24 = .ok (.iload_n 1, 1) := gd_cX1_turn_03_39 (24, .iload_n 1, 1) (List.mem_of_getElem? (i := 14) rfl)
theorem dX1_turn_25 : decode cX1_turn 25 = .ok (.iaload, 1) := gd_cX1_turn_03_39 (25, .iaload, 1) (List.mem_of_getElem? (i := 15) rfl)
theorem dX1_turn_26 : decode cX1_turn 26 = .ok (.invokevirtual 135, 3) := gd_cX1_turn_03_39 (26, .invokevirtual 135, 3) (List.mem_of_getElem? (i := 16) rfl)
theorem dX1_turn_29 : decode cX1_turn 29 = .ok (.ireturn, 1) := gd_cX1_turn_03_39 (29, .ireturn, 1) (List.mem_of_getElem? (i := 17) rfl)
def gl_cX1_times_03_40 : List (Nat × Instr × Nat) := [(0, .iload_n 1, 1), (1, .invokestatic 110, 3), (4, .iload_n 3, 1), (5, .invokestatic 110, 3), (8, .iload_n 2, 1), (9, .lconst 0, 1), (10, .ldc2_w 90, 3), (13, .invokestatic 49, 3), (16, .aload_n 0, 1), (17, .iload_n 3, 1), (18, .iload_n 2, 1), (19, .aload_n 0, 1), (20, .getfield 16, 3), (23, .iload_n 1, 1), (24, .iaload, 1), (25, .imul, 1), (26, .aload_n 0, 1), (27, .getfield 19, 3), (30, .iload_n 1, 1), (31, .iaload, 1), (32, .invokestatic 147, 3), (35, .aload_n 0, 1), (36, .getfield 19, 3), (39, .iload_n 1, 1), (40, .iaload, 1), (41, .invokevirtual 131, 3), (44, .aload_n 0, 1), (45, .getfield 16, 3), (48, .iload_n 3, 1), (49, .iaload, 1), (50, .ireturn, 1)]
theorem gd_cX1_times_03_40 : ∀ q ∈ gl_cX1_times_03_40, decode cX1_times q.1 = .ok q.2 := fdk_of 0 (by decide +kernel)
theorem dX1_times_0 : decode cX1_times 0 = .ok (.iload_n 1, 1) := gd_cX1_times_03_40 (0, .iload_n 1, 1) (List.mem_of_getElem? (i := 0) rfl)
theorem dX1_times_1 : decode cX1_times 1 = .ok (.invokestatic 110, 3) := gd_cX1_times_03_40 (1, .invokestatic 110, 3) (List.mem_of_getElem? (i := 1) rfl)
theorem dX1_times_4 : decode cX1_times 4 = .ok (.iload_n 3, 1) := gd_cX1_times_03_40 (4, .iload_n 3, 1) (List.mem_of_getElem? (i := 2) rfl)
theorem dX1_times_5 : decode cX1_times 5 = .ok (.invokestatic 110, 3) := gd_cX1_times_03_40 (5, .invokestatic 110, 3) (List.mem_of_getElem? (i := 3) rfl)
theorem dX1_times_8 : decode cX1_times 8 = .ok (.iload_n 2, 1) := gd_cX1_times_03_40 (8, .iload_n 2, 1) (List.mem_of_getElem? (i := 4) rfl)
theorem dX1_times_9 : decode cX1_times 9 = .ok (.lconst 0, 1) := gd_cX1_times_03_40 (9, .lconst 0, 1) (List.mem_of_getElem? (i := 5) rfl)
theorem dX1_times_10 : decode cX1_times 10 = .ok (.ldc2_w 90, 3) := gd_cX1_times_03_40 (10, .ldc2_w 90, 3) (List.mem_of_getElem? (i := 6) rfl)
theorem dX1_times_13 : decode cX1_times 13 = .ok (.invokestatic 49, 3) := gd_cX1_times_03_40 (13, .invokestatic 49, 3) (List.mem_of_getElem? (i := 7) rfl)
theorem dX1_times_16 : decode cX1_times 16 = .ok (.aload_n 0, 1) := gd_cX1_times_03_40 (16, .aload_n 0, 1) (List.mem_of_getElem? (i := 8) rfl)
theorem dX1_times_17 : decode cX1_times 17 = .ok (.iload_n 3, 1) := gd_cX1_times_03_40 (17, .iload_n 3, 1) (List.mem_of_getElem? (i := 9) rfl)
theorem dX1_times_18 : decode cX1_times 18 = .ok (.iload_n 2, 1) := gd_cX1_times_03_40 (18, .iload_n 2, 1) (List.mem_of_getElem? (i := 10) rfl)
theorem dX1_times_19 : decode cX1_times 19 = .ok (.aload_n 0, 1) := gd_cX1_times_03_40 (19, .aload_n 0, 1) (List.mem_of_getElem? (i := 11) rfl)
theorem dX1_times_20 : decode cX1_times 20 = .ok (.getfield 16, 3) := gd_cX1_times_03_40 (20, .getfield 16, 3) (List.mem_of_getElem? (i := 12) rfl)
theorem dX1_times_23 : decode cX1_times 23 = .ok (.iload_n 1, 1) := gd_cX1_times_03_40 (23, .iload_n 1, 1) (List.mem_of_getElem? (i := 13) rfl)
theorem dX1_times_24 : decode cX1_times 24 = .ok (.iaload, 1) := gd_cX1_times_03_40 (24, .iaload, 1) (List.mem_of_getElem? (i := 14) rfl)
theorem dX1_times_25 : decode cX1_times 25 = .ok (.imul, 1) := gd_cX1_times_03_40 (25, .imul, 1) (List.mem_of_getElem? (i := 15) rfl)
theorem dX1_times_26 : decode cX1_times 26 = .ok (.aload_n 0, 1) := gd_cX1_times_03_40 (26, .aload_n 0, 1) (List.mem_of_getElem? (i := 16) rfl)
theorem dX1_times_27 : decode cX1_times 27 = .ok (.getfield 19, 3) := gd_cX1_times_03_40 (27, .getfield 19, 3) (List.mem_of_getElem? (i := 17) rfl)
theorem dX1_times_30 : decode cX1_times 30 = .ok (.iload_n 1, 1) := gd_cX1_times_03_40 (30, .iload_n 1, 1) (List.mem_of_getElem? (i := 18) rfl)
theorem dX1_times_31 : decode cX1_times 31 = .ok (.iaload, 1) := gd_cX1_times_03_40 (31, .iaload, 1) (List.mem_of_getElem? (i := 19) rfl)
theorem dX1_times_32 : decode cX1_times 32 = .ok (.invokestatic 147, 3) := gd_cX1_times_03_40 (32, .invokestatic 147, 3) (List.mem_of_getElem? (i := 20) rfl)
theorem dX1_times_35 : decode cX1_times 35 = .ok (.aload_n 0, 1) := gd_cX1_times_03_40 (35, .aload_n 0, 1) (List.mem_of_getElem? (i := 21) rfl)
theorem dX1_times_36 : decode cX1_times 36 = .ok (.getfield 19, 3) := gd_cX1_times_03_40 (36, .getfield 19, 3) (List.mem_of_getElem? (i := 22) rfl)
theorem dX1_times_39 : decode cX1_times 39 = .ok (.iload_n 1, 1) := gd_cX1_times_03_40 (39, .iload_n 1, 1) (List.mem_of_getElem? (i := 23) rfl)
theorem dX1_times_40 : decode cX1_times 40 = .ok (.iaload, 1) := gd_cX1_times_03_40 (40, .iaload, 1) (List.mem_of_getElem? (i := 24) rfl)
theorem dX1_times_41 : decode cX1_times 41 = .ok (.invokevirtual 131, 3) := gd_cX1_times_03_40 (41, .invokevirtual 131, 3) (List.mem_of_getElem? (i := 25) rfl)
theorem dX1_times_44 : decode cX1_times 44 = .ok (.aload_n 0, 1) := gd_cX1_times_03_40 (44, .aload_n 0, 1) (List.mem_of_getElem? (i := 26) rfl)
theorem dX1_times_45 : decode cX1_times 45 = .ok (.getfield 16, 3) := gd_cX1_times_03_40 (45, .getfield 16, 3) (List.mem_of_getElem? (i := 27) rfl)
theorem dX1_times_48 : decode cX1_times 48 = .ok (.iload_n 3, 1) := gd_cX1_times_03_40 (48, .iload_n 3, 1) (List.mem_of_getElem? (i := 28) rfl)
theorem dX1_times_49 : decode cX1_times 49 = .ok (.iaload, 1) := gd_cX1_times_03_40 (49, .iaload, 1) (List.mem_of_getElem? (i := 29) rfl)
theorem dX1_times_50 : decode cX1_times 50 = .ok (.ireturn, 1) := gd_cX1_times_03_40 (50, .ireturn, 1) (List.mem_of_getElem? (i := 30) rfl)
def gl_cX1_spoke_03_41 : List (Nat × Instr × Nat) := [(0, .iload_n 1, 1), (1, .invokestatic 110, 3), (4, .iload_n 2, 1), (5, .lconst 0, 1), (6, .ldc2_w 150, 3), (9, .invokestatic 49, 3), (12, .aload_n 0, 1), (13, .iload_n 1, 1), (14, .iload_n 2, 1), (15, .invokevirtual 152, 3), (18, .ireturn, 1)]
theorem gd_cX1_spoke_03_41 : ∀ q ∈ gl_cX1_spoke_03_41, decode cX1_spoke q.1 = .ok q.2 := fdk_of 0 (by decide +kernel)
theorem dX1_spoke_0 : decode cX1_spoke 0 = .ok (.iload_n 1, 1) := gd_cX1_spoke_03_41 (0, .iload_n 1, 1) (List.mem_of_getElem? (i := 0) rfl)
theorem dX1_spoke_1 : decode cX1_spoke 1 = .ok (.invokestatic 110, 3) := gd_cX1_spoke_03_41 (1, .invokestatic 110, 3) (List.mem_of_getElem? (i := 1) rfl)
theorem dX1_spoke_4 : decode cX1_spoke 4 = .ok (.iload_n 2, 1) := gd_cX1_spoke_03_41 (4, .iload_n 2, 1) (List.mem_of_getElem? (i := 2) rfl)
theorem dX1_spoke_5 : decode cX1_spoke 5 = .ok (.lconst 0, 1) := gd_cX1_spoke_03_41 (5, .lconst 0, 1) (List.mem_of_getElem? (i := 3) rfl)
theorem dX1_spoke_6 : decode cX1_spoke 6 = .ok (.ldc2_w 150, 3) := gd_cX1_spoke_03_41 (6, .ldc2_w 150, 3) (List.mem_of_getElem? (i := 4) rfl)
theorem dX1_spoke_9 : decode cX1_spoke 9 = .ok (.invokestatic 49, 3) := gd_cX1_spoke_03_41 (9, .invokestatic 49, 3) (List.mem_of_getElem? (i := 5) rfl)
theorem dX1_spoke_12 : decode cX1_spoke 12 = .ok (.aload_n 0, 1) := gd_cX1_spoke_03_41 (12, .aload_n 0, 1) (List.mem_of_getElem? (i := 6) rfl)
theorem dX1_spoke_13 : decode cX1_spoke 13 = .ok (.iload_n 1, 1) := gd_cX1_spoke_03_41 (13, .iload_n 1, 1) (List.mem_of_getElem? (i := 7) rfl)
theorem dX1_spoke_14 : decode cX1_spoke 14 = .ok (.iload_n 2, 1) := gd_cX1_spoke_03_41 (14, .iload_n 2, 1) (List.mem_of_getElem? (i := 8) rfl)
theorem dX1_spoke_15 : decode cX1_spoke 15 = .ok (.invokevirtual 152, 3) := gd_cX1_spoke_03_41 (15, .invokevirtual 152, 3) (List.mem_of_getElem? (i := 9) rfl)
theorem dX1_spoke_18 : decode cX1_spoke 18 = .ok (.ireturn, 1) := gd_cX1_spoke_03_41 (18, .ireturn, 1) (List.mem_of_getElem? (i := 10) rfl)
def gl_cX1_lowest_03_42 : List (Nat × Instr × Nat) := [(0, .iload_n 1, 1), (1, .invokestatic 110, 3), (4, .aload_n 0, 1), (5, .getfield 19, 3), (8, .iload_n 1, 1), (9, .iaload, 1), (10, .istore_n 2, 1), (11, .iconst 1, 1), (12, .istore_n 3, 1), (13, .iload_n 3, 1), (14, .iload_n 2, 1), (15, .if_icmp .ge 26, 3), (18, .iload_n 3, 1), (19, .aload_n 0, 1), (20, .getfield 16, 3), (23, .iload_n 1, 1), (24, .iaload, 1), (25, .imul, 1), (26, .iload_n 2, 1), (27, .invokestatic 147, 3), (30, .ifCond .ne 5, 3), (33, .iload_n 3, 1), (34, .ireturn, 1), (35, .iinc 3 1, 3), (38, .goto (-25), 3), (41, .iload_n 2, 1), (42, .ireturn, 1)]
theorem gd_cX1_lowest_03_42 : ∀ q ∈ gl_cX1_lowest_03_42, decode cX1_lowest q.1 = .ok q.2 := fdk_of 0 (by decide +kernel)
theorem dX1_lowest_0 : decode cX1_lowest 0 = .ok (.iload_n 1, 1) := gd_cX1_lowest_03_42 (0, .iload_n 1, 1) (List.mem_of_getElem? (i := 0) rfl)
theorem dX1_lowest_1 : decode cX1_lowest 1 = .ok (.invokestatic 110, 3) := gd_cX1_lowest_03_42 (1, .invokestatic 110, 3) (List.mem_of_getElem? (i := 1) rfl)
theorem dX1_lowest_4 : decode cX1_lowest 4 = .ok (.aload_n 0, 1) := gd_cX1_lowest_03_42 (4, .aload_n 0, 1) (List.mem_of_getElem? (i := 2) rfl)
theorem dX1_lowest_5 : decode cX1_lowest 5 = .ok (.getfield 19, 3) := gd_cX1_lowest_03_42 (5, .getfield 19, 3) (List.mem_of_getElem? (i := 3) rfl)
theorem dX1_lowest_8 : decode cX1_lowest 8 = .ok (.iload_n 1, 1) := gd_cX1_lowest_03_42 (8, .iload_n 1, 1) (List.mem_of_getElem? (i := 4) rfl)
theorem dX1_lowest_9 : decode cX1_lowest 9 = .ok (.iaload, 1) := gd_cX1_lowest_03_42 (9, .iaload, 1) (List.mem_of_getElem? (i := 5) rfl)
theorem dX1_lowest_10 : decode cX1_lowest 10 = .ok (.istore_n 2, 1) := gd_cX1_lowest_03_42 (10, .istore_n 2, 1) (List.mem_of_getElem? (i := 6) rfl)
theorem dX1_lowest_11 : decode cX1_lowest 11 = .ok (.iconst 1, 1) := gd_cX1_lowest_03_42 (11, .iconst 1, 1) (List.mem_of_getElem? (i := 7) rfl)
theorem dX1_lowest_12 : decode cX1_lowest 12 = .ok (.istore_n 3, 1) := gd_cX1_lowest_03_42 (12, .istore_n 3, 1) (List.mem_of_getElem? (i := 8) rfl)
theorem dX1_lowest_13 : decode cX1_lowest 13 = .ok (.iload_n 3, 1) := gd_cX1_lowest_03_42 (13, .iload_n 3, 1) (List.mem_of_getElem? (i := 9) rfl)
theorem dX1_lowest_14 : decode cX1_lowest 14 = .ok (.iload_n 2, 1) := gd_cX1_lowest_03_42 (14, .iload_n 2, 1) (List.mem_of_getElem? (i := 10) rfl)
theorem dX1_lowest_15 : decode cX1_lowest 15 = .ok (.if_icmp .ge 26, 3) := gd_cX1_lowest_03_42 (15, .if_icmp .ge 26, 3) (List.mem_of_getElem? (i := 11) rfl)
theorem dX1_lowest_18 : decode cX1_lowest 18 = .ok (.iload_n 3, 1) := gd_cX1_lowest_03_42 (18, .iload_n 3, 1) (List.mem_of_getElem? (i := 12) rfl)
theorem dX1_lowest_19 : decode cX1_lowest 19 = .ok (.aload_n 0, 1) := gd_cX1_lowest_03_42 (19, .aload_n 0, 1) (List.mem_of_getElem? (i := 13) rfl)
theorem dX1_lowest_20 : decode cX1_lowest 20 = .ok (.getfield 16, 3) := gd_cX1_lowest_03_42 (20, .getfield 16, 3) (List.mem_of_getElem? (i := 14) rfl)
theorem dX1_lowest_23 : decode cX1_lowest 23 = .ok (.iload_n 1, 1) := gd_cX1_lowest_03_42 (23, .iload_n 1, 1) (List.mem_of_getElem? (i := 15) rfl)
theorem dX1_lowest_24 : decode cX1_lowest 24 = .ok (.iaload, 1) := gd_cX1_lowest_03_42 (24, .iaload, 1) (List.mem_of_getElem? (i := 16) rfl)
theorem dX1_lowest_25 : decode cX1_lowest 25 = .ok (.imul, 1) := gd_cX1_lowest_03_42 (25, .imul, 1) (List.mem_of_getElem? (i := 17) rfl)
theorem dX1_lowest_26 : decode cX1_lowest 26 = .ok (.iload_n 2, 1) := gd_cX1_lowest_03_42 (26, .iload_n 2, 1) (List.mem_of_getElem? (i := 18) rfl)
theorem dX1_lowest_27 : decode cX1_lowest 27 = .ok (.invokestatic 147, 3) := gd_cX1_lowest_03_42 (27, .invokestatic 147, 3) (List.mem_of_getElem? (i := 19) rfl)
theorem dX1_lowest_30 : decode cX1_lowest 30 = .ok (.ifCond .ne 5, 3) := gd_cX1_lowest_03_42 (30, .ifCond .ne 5, 3) (List.mem_of_getElem? (i := 20) rfl)
theorem dX1_lowest_33 : decode cX1_lowest 33 = .ok (.iload_n 3, 1) := gd_cX1_lowest_03_42 (33, .iload_n 3, 1) (List.mem_of_getElem? (i := 21) rfl)
theorem dX1_lowest_34 : decode cX1_lowest 34 = .ok (.ireturn, 1) := gd_cX1_lowest_03_42 (34, .ireturn, 1) (List.mem_of_getElem? (i := 22) rfl)
theorem dX1_lowest_35 : decode cX1_lowest 35 = .ok (.iinc 3 1, 3) := gd_cX1_lowest_03_42 (35, .iinc 3 1, 3) (List.mem_of_getElem? (i := 23) rfl)
theorem dX1_lowest_38 : decode cX1_lowest 38 = .ok (.goto (-25), 3) := gd_cX1_lowest_03_42 (38, .goto (-25), 3) (List.mem_of_getElem? (i := 24) rfl)
theorem dX1_lowest_41 : decode cX1_lowest 41 = .ok (.iload_n 2, 1) := gd_cX1_lowest_03_42 (41, .iload_n 2, 1) (List.mem_of_getElem? (i := 25) rfl)
theorem dX1_lowest_42 : decode cX1_lowest 42 = .ok (.ireturn, 1) := gd_cX1_lowest_03_42 (42, .ireturn, 1) (List.mem_of_getElem? (i := 26) rfl)
def gl_cX1_tens_03_43 : List (Nat × Instr × Nat) := [(0, .iload_n 1, 1), (1, .invokestatic 128, 3), (4, .iconst 1, 1), (5, .iload_n 1, 1), (6, .invokestatic 147, 3), (9, .iload_n 1, 1), (10, .invokestatic 155, 3), (13, .ireturn, 1)]
theorem gd_cX1_tens_03_43 : ∀ q ∈ gl_cX1_tens_03_43, decode cX1_tens q.1 = .ok q.2 := fdk_of 0 (by decide +kernel)
theorem dX1_tens_0 : decode cX1_tens 0 = .ok (.iload_n 1, 1) := gd_cX1_tens_03_43 (0, .iload_n 1, 1) (List.mem_of_getElem? (i := 0) rfl)
theorem dX1_tens_1 : decode cX1_tens 1 = .ok (.invokestatic 128, 3) := gd_cX1_tens_03_43 (1, .invokestatic 128, 3) (List.mem_of_getElem? (i := 1) rfl)
theorem dX1_tens_4 : decode cX1_tens 4 = .ok (.iconst 1, 1) := gd_cX1_tens_03_43 (4, .iconst 1, 1) (List.mem_of_getElem? (i := 2) rfl)
theorem dX1_tens_5 : decode cX1_tens 5 = .ok (.iload_n 1, 1) := gd_cX1_tens_03_43 (5, .iload_n 1, 1) (List.mem_of_getElem? (i := 3) rfl)
theorem dX1_tens_6 : decode cX1_tens 6 = .ok (.invokestatic 147, 3) := gd_cX1_tens_03_43 (6, .invokestatic 147, 3) (List.mem_of_getElem? (i := 4) rfl)
theorem dX1_tens_9 : decode cX1_tens 9 = .ok (.iload_n 1, 1) := gd_cX1_tens_03_43 (9, .iload_n 1, 1) (List.mem_of_getElem? (i := 5) rfl)
theorem dX1_tens_10 : decode cX1_tens 10 = .ok (.invokestatic 155, 3) := gd_cX1_tens_03_43 (10, .invokestatic 155, 3) (List.mem_of_getElem? (i := 6) rfl)
theorem dX1_tens_13 : decode cX1_tens 13 = .ok (.ireturn, 1) := gd_cX1_tens_03_43 (13, .ireturn, 1) (List.mem_of_getElem? (i := 7) rfl)
def gl_cX1_restAt_03_44 : List (Nat × Instr × Nat) := [(0, .iload_n 1, 1), (1, .invokestatic 110, 3), (4, .iload_n 2, 1), (5, .lconst 0, 1), (6, .ldc2_w 145, 3), (9, .invokestatic 49, 3), (12, .aload_n 0, 1), (13, .iload_n 1, 1), (14, .iload_n 2, 1), (15, .invokevirtual 135, 3), (18, .ireturn, 1)]
theorem gd_cX1_restAt_03_44 : ∀ q ∈ gl_cX1_restAt_03_44, decode cX1_restAt q.1 = .ok q.2 := fdk_of 0 (by decide +kernel)
theorem dX1_restAt_0 : decode cX1_restAt 0 = .ok (.iload_n 1, 1) := gd_cX1_restAt_03_44 (0, .iload_n 1, 1) (List.mem_of_getElem? (i := 0) rfl)
theorem dX1_restAt_1 : decode cX1_restAt 1 = .ok (.invokestatic 110, 3) := gd_cX1_restAt_03_44 (1, .invokestatic 110, 3) (List.mem_of_getElem? (i := 1) rfl)
theorem dX1_restAt_4 : decode cX1_restAt 4 = .ok (.iload_n 2, 1) := gd_cX1_restAt_03_44 (4, .iload_n 2, 1) (List.mem_of_getElem? (i := 2) rfl)
theorem dX1_restAt_5 : decode cX1_restAt 5 = .ok (.lconst 0, 1) := gd_cX1_restAt_03_44 (5, .lconst 0, 1) (List.mem_of_getElem? (i := 3) rfl)
theorem dX1_restAt_6 : decode cX1_restAt 6 = .ok (.ldc2_w 145, 3) := gd_cX1_restAt_03_44 (6, .ldc2_w 145, 3) (List.mem_of_getElem? (i := 4) rfl)
theorem dX1_restAt_9 : decode cX1_restAt 9 = .ok (.invokestatic 49, 3) := gd_cX1_restAt_03_44 (9, .invokestatic 49, 3) (List.mem_of_getElem? (i := 5) rfl)
theorem dX1_restAt_12 : decode cX1_restAt 12 = .ok (.aload_n 0, 1) := gd_cX1_restAt_03_44 (12, .aload_n 0, 1) (List.mem_of_getElem? (i := 6) rfl)
theorem dX1_restAt_13 : decode cX1_restAt 13 = .ok (.iload_n 1, 1) := gd_cX1_restAt_03_44 (13, .iload_n 1, 1) (List.mem_of_getElem? (i := 7) rfl)
theorem dX1_restAt_14 : decode cX1_restAt 14 = .ok (.iload_n 2, 1) := gd_cX1_restAt_03_44 (14, .iload_n 2, 1) (List.mem_of_getElem? (i := 8) rfl)
theorem dX1_restAt_15 : decode cX1_restAt 15 = .ok (.invokevirtual 135, 3) := gd_cX1_restAt_03_44 (15, .invokevirtual 135, 3) (List.mem_of_getElem? (i := 9) rfl)
theorem dX1_restAt_18 : decode cX1_restAt 18 = .ok (.ireturn, 1) := gd_cX1_restAt_03_44 (18, .ireturn, 1) (List.mem_of_getElem? (i := 10) rfl)
def gl_cX1_digitsFrom_03_45 : List (Nat × Instr × Nat) := [(0, .iload_n 1, 1), (1, .invokestatic 110, 3), (4, .iload_n 2, 1), (5, .lconst 0, 1), (6, .ldc2_w 145, 3), (9, .invokestatic 49, 3), (12, .iload_n 3, 1), (13, .lconst 1, 1), (14, .ldc2_w 158, 3), (17, .invokestatic 49, 3), (20, .aload_n 0, 1), (21, .iload_n 1, 1), (22, .iload_n 2, 1), (23, .iload_n 3, 1), (24, .invokevirtual 160, 3), (27, .areturn, 1)]
theorem gd_cX1_digitsFrom_03_45 : ∀ q ∈ gl_cX1_digitsFrom_03_45, decode cX1_digitsFrom q.1 = .ok q.2 := fdk_of 0 (by decide +kernel)
theorem dX1_digitsFrom_0 : decode cX1_digitsFrom 0 = .ok (.iload_n 1, 1) := gd_cX1_digitsFrom_03_45 (0, .iload_n 1, 1) (List.mem_of_getElem? (i := 0) rfl)
theorem dX1_digitsFrom_1 : decode cX1_digitsFrom 1 = .ok (.invokestatic 110, 3) := gd_cX1_digitsFrom_03_45 (1, .invokestatic 110, 3) (List.mem_of_getElem? (i := 1) rfl)
theorem dX1_digitsFrom_4 : decode cX1_digitsFrom 4 = .ok (.iload_n 2, 1) := gd_cX1_digitsFrom_03_45 (4, .iload_n 2, 1) (List.mem_of_getElem? (i := 2) rfl)
theorem dX1_digitsFrom_5 : decode cX1_digitsFrom 5 = .ok (.lconst 0, 1) := gd_cX1_digitsFrom_03_45 (5, .lconst 0, 1) (List.mem_of_getElem? (i := 3) rfl)
theorem dX1_digitsFrom_6 : decode cX1_digitsFrom 6 = .ok (.ldc2_w 145, 3) := gd_cX1_digitsFrom_03_45 (6, .ldc2_w 145, 3) (List.mem_of_getElem? (i := 4) rfl)
theorem dX1_digitsFrom_9 : decode cX1_digitsFrom 9 = .ok (.invokestatic 49, 3) := gd_cX1_digitsFrom_03_45 (9, .invokestatic 49, 3) (List.mem_of_getElem? (i := 5) rfl)
theorem dX1_digitsFrom_12 : decode cX1_digitsFrom 12 = .ok (.iload_n 3, 1) := gd_cX1_digitsFrom_03_45 (12, .iload_n 3, 1) (List.mem_of_getElem? (i := 6) rfl)
theorem dX1_digitsFrom_13 : decode cX1_digitsFrom 13 = .ok (.lconst 1, 1) := gd_cX1_digitsFrom_03_45 (13, .lconst 1, 1) (List.mem_of_getElem? (i := 7) rfl)
theorem dX1_digitsFrom_14 : decode cX1_digitsFrom 14 = .ok (.ldc2_w 158, 3) := gd_cX1_digitsFrom_03_45 (14, .ldc2_w 158, 3) (List.mem_of_getElem? (i := 8) rfl)
theorem dX1_digitsFrom_17 : decode cX1_digitsFrom 17 = .ok (.invokestatic 49, 3) := gd_cX1_digitsFrom_03_45 (17, .invokestatic 49, 3) (List.mem_of_getElem? (i := 9) rfl)
theorem dX1_digitsFrom_20 : decode cX1_digitsFrom 20 = .ok (.aload_n 0, 1) := gd_cX1_digitsFrom_03_45 (20, .aload_n 0, 1) (List.mem_of_getElem? (i := 10) rfl)
theorem dX1_digitsFrom_21 : decode cX1_digitsFrom 21 = .ok (.iload_n 1, 1) := gd_cX1_digitsFrom_03_45 (21, .iload_n 1, 1) (List.mem_of_getElem? (i := 11) rfl)
theorem dX1_digitsFrom_22 : decode cX1_digitsFrom 22 = .ok (.iload_n 2, 1) := gd_cX1_digitsFrom_03_45 (22, .iload_n 2, 1) (List.mem_of_getElem? (i := 12) rfl)
theorem dX1_digitsFrom_23 : decode cX1_digitsFrom 23 = .ok (.iload_n 3, 1) := gd_cX1_digitsFrom_03_45 (23, .iload_n 3, 1) (List.mem_of_getElem? (i := 13) rfl)
theorem dX1_digitsFrom_24 : decode cX1_digitsFrom 24 = .ok (.invokevirtual 160, 3) := gd_cX1_digitsFrom_03_45 (24, .invokevirtual 160, 3) (List.mem_of_getElem? (i := 14) rfl)
theorem dX1_digitsFrom_27 : decode cX1_digitsFrom 27 = .ok (.areturn, 1) := gd_cX1_digitsFrom_03_45 (27, .areturn, 1) (List.mem_of_getElem? (i := 15) rfl)
def gl_cX1_cutText_03_46 : List (Nat × Instr × Nat) := [(0, .iload_n 1, 1), (1, .invokestatic 110, 3), (4, .iload_n 3, 1), (5, .lconst 0, 1), (6, .ldc2_w 158, 3), (9, .invokestatic 49, 3), (12, .iload 4, 2), (14, .invokestatic 77, 3), (17, .aload_n 0, 1), (18, .iload_n 1, 1), (19, .iload_n 2, 1), (20, .iload_n 3, 1), (21, .iload 4, 2), (23, .invokevirtual 113, 3), (26, .lstore 5, 2), (28, .lload 5, 2), (30, .ldc2_w 105, 3), (33, .lcmp, 1), (34, .ifCond .ne 8, 3), (37, .ldc 164, 2), (39, .goto 9, 3), (42, .lload 5, 2), (44, .iload_n 3, 1), (45, .invokestatic 120, 3), (48, .areturn, 1)]
theorem gd_cX1_cutText_03_46 : ∀ q ∈ gl_cX1_cutText_03_46, decode cX1_cutText q.1 = .ok q.2 := fdk_of 0 (by decide +kernel)
theorem dX1_cutText_0 : decode cX1_cutText 0 = .ok (.iload_n 1, 1) := gd_cX1_cutText_03_46 (0, .iload_n 1, 1) (List.mem_of_getElem? (i := 0) rfl)
theorem dX1_cutText_1 : decode cX1_cutText 1 = .ok (.invokestatic 110, 3) := gd_cX1_cutText_03_46 (1, .invokestatic 110, 3) (List.mem_of_getElem? (i := 1) rfl)
theorem dX1_cutText_4 : decode cX1_cutText 4 = .ok (.iload_n 3, 1) := gd_cX1_cutText_03_46 (4, .iload_n 3, 1) (List.mem_of_getElem? (i := 2) rfl)
theorem dX1_cutText_5 : decode cX1_cutText 5 = .ok (.lconst 0, 1) := gd_cX1_cutText_03_46 (5, .lconst 0, 1) (List.mem_of_getElem? (i := 3) rfl)
theorem dX1_cutText_6 : decode cX1_cutText 6 = .ok (.ldc2_w 158, 3) := gd_cX1_cutText_03_46 (6, .ldc2_w 158, 3) (List.mem_of_getElem? (i := 4) rfl)
theorem dX1_cutText_9 : decode cX1_cutText 9 = .ok (.invokestatic 49, 3) := gd_cX1_cutText_03_46 (9, .invokestatic 49, 3) (List.mem_of_getElem? (i := 5) rfl)
theorem dX1_cutText_12 : decode cX1_cutText 12 = .ok (.iload 4, 2) := gd_cX1_cutText_03_46 (12, .iload 4, 2) (List.mem_of_getElem? (i := 6) rfl)
theorem dX1_cutText_14 : decode cX1_cutText 14 = .ok (.invokestatic 77, 3) := gd_cX1_cutText_03_46 (14, .invokestatic 77, 3) (List.mem_of_getElem? (i := 7) rfl)
theorem dX1_cutText_17 : decode cX1_cutText 17 = .ok (.aload_n 0, 1) := gd_cX1_cutText_03_46 (17, .aload_n 0, 1) (List.mem_of_getElem? (i := 8) rfl)
theorem dX1_cutText_18 : decode cX1_cutText 18 = .ok (.iload_n 1, 1) := gd_cX1_cutText_03_46 (18, .iload_n 1, 1) (List.mem_of_getElem? (i := 9) rfl)
theorem dX1_cutText_19 : decode cX1_cutText 19 = .ok (.iload_n 2, 1) := gd_cX1_cutText_03_46 (19, .iload_n 2, 1) (List.mem_of_getElem? (i := 10) rfl)
theorem dX1_cutText_20 : decode cX1_cutText 20 = .ok (.iload_n 3, 1) := gd_cX1_cutText_03_46 (20, .iload_n 3, 1) (List.mem_of_getElem? (i := 11) rfl)
theorem dX1_cutText_21 : decode cX1_cutText 21 = .ok (.iload 4, 2) := gd_cX1_cutText_03_46 (21, .iload 4, 2) (List.mem_of_getElem? (i := 12) rfl)
theorem dX1_cutText_23 : decode cX1_cutText 23 = .ok (.invokevirtual 113, 3) := gd_cX1_cutText_03_46 (23, .invokevirtual 113, 3) (List.mem_of_getElem? (i := 13) rfl)
theorem dX1_cutText_26 : decode cX1_cutText 26 = .ok (.lstore 5, 2) := gd_cX1_cutText_03_46 (26, .lstore 5, 2) (List.mem_of_getElem? (i := 14) rfl)
theorem dX1_cutText_28 : decode cX1_cutText 28 = .ok (.lload 5, 2) := gd_cX1_cutText_03_46 (28, .lload 5, 2) (List.mem_of_getElem? (i := 15) rfl)
theorem dX1_cutText_30 : decode cX1_cutText 30 = .ok (.ldc2_w 105, 3) := gd_cX1_cutText_03_46 (30, .ldc2_w 105, 3) (List.mem_of_getElem? (i := 16) rfl)
theorem dX1_cutText_33 : decode cX1_cutText 33 = .ok (.lcmp, 1) := gd_cX1_cutText_03_46 (33, .lcmp, 1) (List.mem_of_getElem? (i := 17) rfl)
theorem dX1_cutText_34 : decode cX1_cutText 34 = .ok (.ifCond .ne 8, 3) := gd_cX1_cutText_03_46 (34, .ifCond .ne 8, 3) (List.mem_of_getElem? (i := 18) rfl)
theorem dX1_cutText_37 : decode cX1_cutText 37 = .ok (.ldc 164, 2) := gd_cX1_cutText_03_46 (37, .ldc 164, 2) (List.mem_of_getElem? (i := 19) rfl)
theorem dX1_cutText_39 : decode cX1_cutText 39 = .ok (.goto 9, 3) := gd_cX1_cutText_03_46 (39, .goto 9, 3) (List.mem_of_getElem? (i := 20) rfl)
theorem dX1_cutText_42 : decode cX1_cutText 42 = .ok (.lload 5, 2) := gd_cX1_cutText_03_46 (42, .lload 5, 2) (List.mem_of_getElem? (i := 21) rfl)
theorem dX1_cutText_44 : decode cX1_cutText 44 = .ok (.iload_n 3, 1) := gd_cX1_cutText_03_46 (44, .iload_n 3, 1) (List.mem_of_getElem? (i := 22) rfl)
theorem dX1_cutText_45 : decode cX1_cutText 45 = .ok (.invokestatic 120, 3) := gd_cX1_cutText_03_46 (45, .invokestatic 120, 3) (List.mem_of_getElem? (i := 23) rfl)
theorem dX1_cutText_48 : decode cX1_cutText 48 = .ok (.areturn, 1) := gd_cX1_cutText_03_46 (48, .areturn, 1) (List.mem_of_getElem? (i := 24) rfl)
def gl_cX1_number_03_47 : List (Nat × Instr × Nat) := [(0, .iload_n 1, 1), (1, .invokestatic 110, 3), (4, .aload_n 0, 1), (5, .iload_n 1, 1), (6, .iconst 0, 1), (7, .aload_n 0, 1), (8, .getfield 25, 3), (11, .iload_n 1, 1), (12, .iaload, 1), (13, .invokevirtual 160, 3), (16, .areturn, 1)]
theorem gd_cX1_number_03_47 : ∀ q ∈ gl_cX1_number_03_47, decode cX1_number q.1 = .ok q.2 := fdk_of 0 (by decide +kernel)
theorem dX1_number_0 : decode cX1_number 0 = .ok (.iload_n 1, 1) := gd_cX1_number_03_47 (0, .iload_n 1, 1) (List.mem_of_getElem? (i := 0) rfl)
theorem dX1_number_1 : decode cX1_number 1 = .ok (.invokestatic 110, 3) := gd_cX1_number_03_47 (1, .invokestatic 110, 3) (List.mem_of_getElem? (i := 1) rfl)
theorem dX1_number_4 : decode cX1_number 4 = .ok (.aload_n 0, 1) := gd_cX1_number_03_47 (4, .aload_n 0, 1) (List.mem_of_getElem? (i := 2) rfl)
theorem dX1_number_5 : decode cX1_number 5 = .ok (.iload_n 1, 1) := gd_cX1_number_03_47 (5, .iload_n 1, 1) (List.mem_of_getElem? (i := 3) rfl)
theorem dX1_number_6 : decode cX1_number 6 = .ok (.iconst 0, 1) := gd_cX1_number_03_47 (6, .iconst 0, 1) (List.mem_of_getElem? (i := 4) rfl)
theorem dX1_number_7 : decode cX1_number 7 = .ok (.aload_n 0, 1) := gd_cX1_number_03_47 (7, .aload_n 0, 1) (List.mem_of_getElem? (i := 5) rfl)
theorem dX1_number_8 : decode cX1_number 8 = .ok (.getfield 25, 3) := gd_cX1_number_03_47 (8, .getfield 25, 3) (List.mem_of_getElem? (i := 6) rfl)
theorem dX1_number_11 : decode cX1_number 11 = .ok (.iload_n 1, 1) := gd_cX1_number_03_47 (11, .iload_n 1, 1) (List.mem_of_getElem? (i := 7) rfl)
theorem dX1_number_12 : decode cX1_number 12 = .ok (.iaload, 1) := gd_cX1_number_03_47 (12, .iaload, 1) (List.mem_of_getElem? (i := 8) rfl)
theorem dX1_number_13 : decode cX1_number 13 = .ok (.invokevirtual 160, 3) := gd_cX1_number_03_47 (13, .invokevirtual 160, 3) (List.mem_of_getElem? (i := 9) rfl)
theorem dX1_number_16 : decode cX1_number 16 = .ok (.areturn, 1) := gd_cX1_number_03_47 (16, .areturn, 1) (List.mem_of_getElem? (i := 10) rfl)
def gl_cX1_product_03_48 : List (Nat × Instr × Nat) := [(0, .iload_n 1, 1), (1, .invokestatic 110, 3), (4, .aload_n 0, 1), (5, .iload_n 1, 1), (6, .invokevirtual 166, 3), (9, .aload_n 0, 1), (10, .getfield 34, 3), (13, .invokevirtual 169, 3), (16, .areturn, 1)]
theorem gd_cX1_product_03_48 : ∀ q ∈ gl_cX1_product_03_48, decode cX1_product q.1 = .ok q.2 := fdk_of 0 (by decide +kernel)
theorem dX1_product_0 : decode cX1_product 0 = .ok (.iload_n 1, 1) := gd_cX1_product_03_48 (0, .iload_n 1, 1) (List.mem_of_getElem? (i := 0) rfl)
theorem dX1_product_1 : decode cX1_product 1 = .ok (.invokestatic 110, 3) := gd_cX1_product_03_48 (1, .invokestatic 110, 3) (List.mem_of_getElem? (i := 1) rfl)
theorem dX1_product_4 : decode cX1_product 4 = .ok (.aload_n 0, 1) := gd_cX1_product_03_48 (4, .aload_n 0, 1) (List.mem_of_getElem? (i := 2) rfl)
theorem dX1_product_5 : decode cX1_product 5 = .ok (.iload_n 1, 1) := gd_cX1_product_03_48 (5, .iload_n 1, 1) (List.mem_of_getElem? (i := 3) rfl)
theorem dX1_product_6 : decode cX1_product 6 = .ok (.invokevirtual 166, 3) := gd_cX1_product_03_48 (6, .invokevirtual 166, 3) (List.mem_of_getElem? (i := 4) rfl)
theorem dX1_product_9 : decode cX1_product 9 = .ok (.aload_n 0, 1) := gd_cX1_product_03_48 (9, .aload_n 0, 1) (List.mem_of_getElem? (i := 5) rfl)
theorem dX1_product_10 : decode cX1_product 10 = .ok (.getfield 34, 3) := gd_cX1_product_03_48 (10, .getfield 34, 3) (List.mem_of_getElem? (i := 6) rfl)
theorem dX1_product_13 : decode cX1_product 13 = .ok (.invokevirtual 169, 3) := gd_cX1_product_03_48 (13, .invokevirtual 169, 3) (List.mem_of_getElem? (i := 7) rfl)
theorem dX1_product_16 : decode cX1_product 16 = .ok (.areturn, 1) := gd_cX1_product_03_48 (16, .areturn, 1) (List.mem_of_getElem? (i := 8) rfl)
def gl_cX1_partSum_03_49 : List (Nat × Instr × Nat) := [(0, .iload_n 1, 1), (1, .invokestatic 110, 3), (4, .iload_n 2, 1), (5, .ldc2_w 173, 3), (8, .ldc2_w 175, 3), (11, .invokestatic 49, 3), (14, .aload_n 0, 1), (15, .iload_n 1, 1), (16, .iload_n 2, 1), (17, .invokevirtual 177, 3), (20, .ifCond .ne 6, 3), (23, .ldc 164, 2), (25, .areturn, 1), (26, .aload_n 0, 1), (27, .iload_n 1, 1), (28, .aload_n 0, 1), (29, .iload_n 1, 1), (30, .iload_n 2, 1), (31, .invokevirtual 180, 3), (34, .invokevirtual 183, 3), (37, .aload_n 0, 1), (38, .getfield 34, 3), (41, .invokevirtual 169, 3), (44, .areturn, 1)]
theorem gd_cX1_partSum_03_49 : ∀ q ∈ gl_cX1_partSum_03_49, decode cX1_partSum q.1 = .ok q.2 := fdk_of 0 (by decide +kernel)
theorem dX1_partSum_0 : decode cX1_partSum 0 = .ok (.iload_n 1, 1) := gd_cX1_partSum_03_49 (0, .iload_n 1, 1) (List.mem_of_getElem? (i := 0) rfl)
theorem dX1_partSum_1 : decode cX1_partSum 1 = .ok (.invokestatic 110, 3) := gd_cX1_partSum_03_49 (1, .invokestatic 110, 3) (List.mem_of_getElem? (i := 1) rfl)
theorem dX1_partSum_4 : decode cX1_partSum 4 = .ok (.iload_n 2, 1) := gd_cX1_partSum_03_49 (4, .iload_n 2, 1) (List.mem_of_getElem? (i := 2) rfl)
theorem dX1_partSum_5 : decode cX1_partSum 5 = .ok (.ldc2_w 173, 3) := gd_cX1_partSum_03_49 (5, .ldc2_w 173, 3) (List.mem_of_getElem? (i := 3) rfl)
theorem dX1_partSum_8 : decode cX1_partSum 8 = .ok (.ldc2_w 175, 3) := gd_cX1_partSum_03_49 (8, .ldc2_w 175, 3) (List.mem_of_getElem? (i := 4) rfl)
theorem dX1_partSum_11 : decode cX1_partSum 11 = .ok (.invokestatic 49, 3) := gd_cX1_partSum_03_49 (11, .invokestatic 49, 3) (List.mem_of_getElem? (i := 5) rfl)
theorem dX1_partSum_14 : decode cX1_partSum 14 = .ok (.aload_n 0, 1) := gd_cX1_partSum_03_49 (14, .aload_n 0, 1) (List.mem_of_getElem? (i := 6) rfl)
theorem dX1_partSum_15 : decode cX1_partSum 15 = .ok (.iload_n 1, 1) := gd_cX1_partSum_03_49 (15, .iload_n 1, 1) (List.mem_of_getElem? (i := 7) rfl)
theorem dX1_partSum_16 : decode cX1_partSum 16 = .ok (.iload_n 2, 1) := gd_cX1_partSum_03_49 (16, .iload_n 2, 1) (List.mem_of_getElem? (i := 8) rfl)
theorem dX1_partSum_17 : decode cX1_partSum 17 = .ok (.invokevirtual 177, 3) := gd_cX1_partSum_03_49 (17, .invokevirtual 177, 3) (List.mem_of_getElem? (i := 9) rfl)
theorem dX1_partSum_20 : decode cX1_partSum 20 = .ok (.ifCond .ne 6, 3) := gd_cX1_partSum_03_49 (20, .ifCond .ne 6, 3) (List.mem_of_getElem? (i := 10) rfl)
theorem dX1_partSum_23 : decode cX1_partSum 23 = .ok (.ldc 164, 2) := gd_cX1_partSum_03_49 (23, .ldc 164, 2) (List.mem_of_getElem? (i := 11) rfl)
theorem dX1_partSum_25 : decode cX1_partSum 25 = .ok (.areturn, 1) := gd_cX1_partSum_03_49 (25, .areturn, 1) (List.mem_of_getElem? (i := 12) rfl)
theorem dX1_partSum_26 : decode cX1_partSum 26 = .ok (.aload_n 0, 1) := gd_cX1_partSum_03_49 (26, .aload_n 0, 1) (List.mem_of_getElem? (i := 13) rfl)
theorem dX1_partSum_27 : decode cX1_partSum 27 = .ok (.iload_n 1, 1) := gd_cX1_partSum_03_49 (27, .iload_n 1, 1) (List.mem_of_getElem? (i := 14) rfl)
theorem dX1_partSum_28 : decode cX1_partSum 28 = .ok (.aload_n 0, 1) := gd_cX1_partSum_03_49 (28, .aload_n 0, 1) (List.mem_of_getElem? (i := 15) rfl)
theorem dX1_partSum_29 : decode cX1_partSum 29 = .ok (.iload_n 1, 1) := gd_cX1_partSum_03_49 (29, .iload_n 1, 1) (List.mem_of_getElem? (i := 16) rfl)
theorem dX1_partSum_30 : decode cX1_partSum 30 = .ok (.iload_n 2, 1) := gd_cX1_partSum_03_49 (30, .iload_n 2, 1) (List.mem_of_getElem? (i := 17) rfl)
theorem dX1_partSum_31 : decode cX1_partSum 31 = .ok (.invokevirtual 180, 3) := gd_cX1_partSum_03_49 (31, .invokevirtual 180, 3) (List.mem_of_getElem? (i := 18) rfl)
theorem dX1_partSum_34 : decode cX1_partSum 34 = .ok (.invokevirtual 183, 3) := gd_cX1_partSum_03_49 (34, .invokevirtual 183, 3) (List.mem_of_getElem? (i := 19) rfl)
theorem dX1_partSum_37 : decode cX1_partSum 37 = .ok (.aload_n 0, 1) := gd_cX1_partSum_03_49 (37, .aload_n 0, 1) (List.mem_of_getElem? (i := 20) rfl)
theorem dX1_partSum_38 : decode cX1_partSum 38 = .ok (.getfield 34, 3) := gd_cX1_partSum_03_49 (38, .getfield 34, 3) (List.mem_of_getElem? (i := 21) rfl)
theorem dX1_partSum_41 : decode cX1_partSum 41 = .ok (.invokevirtual 169, 3) := gd_cX1_partSum_03_49 (41, .invokevirtual 169, 3) (List.mem_of_getElem? (i := 22) rfl)
theorem dX1_partSum_44 : decode cX1_partSum 44 = .ok (.areturn, 1) := gd_cX1_partSum_03_49 (44, .areturn, 1) (List.mem_of_getElem? (i := 23) rfl)
def gl_cX1_nines_03_50 : List (Nat × Instr × Nat) := [(0, .iload_n 1, 1), (1, .invokestatic 110, 3), (4, .iload_n 2, 1), (5, .ldc2_w 173, 3), (8, .ldc2_w 175, 3), (11, .invokestatic 49, 3), (14, .aload_n 0, 1), (15, .iload_n 1, 1), (16, .iload_n 2, 1), (17, .invokevirtual 186, 3), (20, .ireturn, 1)]
theorem gd_cX1_nines_03_50 : ∀ q ∈ gl_cX1_nines_03_50, decode cX1_nines q.1 = .ok q.2 := fdk_of 0 (by decide +kernel)
theorem dX1_nines_0 : decode cX1_nines 0 = .ok (.iload_n 1, 1) := gd_cX1_nines_03_50 (0, .iload_n 1, 1) (List.mem_of_getElem? (i := 0) rfl)
theorem dX1_nines_1 : decode cX1_nines 1 = .ok (.invokestatic 110, 3) := gd_cX1_nines_03_50 (1, .invokestatic 110, 3) (List.mem_of_getElem? (i := 1) rfl)
theorem dX1_nines_4 : decode cX1_nines 4 = .ok (.iload_n 2, 1) := gd_cX1_nines_03_50 (4, .iload_n 2, 1) (List.mem_of_getElem? (i := 2) rfl)
theorem dX1_nines_5 : decode cX1_nines 5 = .ok (.ldc2_w 173, 3) := gd_cX1_nines_03_50 (5, .ldc2_w 173, 3) (List.mem_of_getElem? (i := 3) rfl)
theorem dX1_nines_8 : decode cX1_nines 8 = .ok (.ldc2_w 175, 3) := gd_cX1_nines_03_50 (8, .ldc2_w 175, 3) (List.mem_of_getElem? (i := 4) rfl)
theorem dX1_nines_11 : decode cX1_nines 11 = .ok (.invokestatic 49, 3) := gd_cX1_nines_03_50 (11, .invokestatic 49, 3) (List.mem_of_getElem? (i := 5) rfl)
theorem dX1_nines_14 : decode cX1_nines 14 = .ok (.aload_n 0, 1) := gd_cX1_nines_03_50 (14, .aload_n 0, 1) (List.mem_of_getElem? (i := 6) rfl)
theorem dX1_nines_15 : decode cX1_nines 15 = .ok (.iload_n 1, 1) := gd_cX1_nines_03_50 (15, .iload_n 1, 1) (List.mem_of_getElem? (i := 7) rfl)
theorem dX1_nines_16 : decode cX1_nines 16 = .ok (.iload_n 2, 1) := gd_cX1_nines_03_50 (16, .iload_n 2, 1) (List.mem_of_getElem? (i := 8) rfl)
theorem dX1_nines_17 : decode cX1_nines 17 = .ok (.invokevirtual 186, 3) := gd_cX1_nines_03_50 (17, .invokevirtual 186, 3) (List.mem_of_getElem? (i := 9) rfl)
theorem dX1_nines_20 : decode cX1_nines 20 = .ok (.ireturn, 1) := gd_cX1_nines_03_50 (20, .ireturn, 1) (List.mem_of_getElem? (i := 10) rfl)
def gl_cX1_placeOf_03_51 : List (Nat × Instr × Nat) := [(0, .iload_n 1, 1), (1, .invokestatic 110, 3), (4, .iload_n 2, 1), (5, .invokestatic 110, 3), (8, .aload_n 0, 1), (9, .getfield 16, 3), (12, .iload_n 1, 1), (13, .iaload, 1), (14, .istore_n 3, 1), (15, .iconst 0, 1), (16, .istore 4, 2), (18, .iload 4, 2), (20, .aload_n 0, 1), (21, .getfield 25, 3), (24, .iload_n 1, 1), (25, .iaload, 1), (26, .if_icmp .ge 47, 3), (29, .iload_n 3, 1), (30, .aload_n 0, 1), (31, .getfield 19, 3), (34, .iload_n 2, 1), (35, .iaload, 1), (36, .imul, 1), (37, .aload_n 0, 1), (38, .getfield 16, 3), (41, .iload_n 2, 1), (42, .iaload, 1), (43, .aload_n 0, 1), (44, .getfield 19, 3), (47, .iload_n 1, 1), (48, .iaload, 1), (49, .imul, 1), (50, .if_icmp .ne 6, 3), (53, .iload 4, 2), (55, .ireturn, 1), (56, .iload_n 3, 1), (57, .aload_n 0, 1), (58, .getfield 19, 3), (61, .iload_n 1, 1), (62, .iaload, 1), (63, .invokestatic 189, 3), (66, .istore_n 3, 1), (67, .iinc 4 1, 3), (70, .goto (-52), 3), (73, .iconst (-1), 1), (74, .ireturn, 1)]
theorem gd_cX1_placeOf_03_51 : ∀ q ∈ gl_cX1_placeOf_03_51, decode cX1_placeOf q.1 = .ok q.2 := fdk_of 0 (by decide +kernel)
theorem dX1_placeOf_0 : decode cX1_placeOf 0 = .ok (.iload_n 1, 1) := gd_cX1_placeOf_03_51 (0, .iload_n 1, 1) (List.mem_of_getElem? (i := 0) rfl)
theorem dX1_placeOf_1 : decode cX1_placeOf 1 = .ok (.invokestatic 110, 3) := gd_cX1_placeOf_03_51 (1, .invokestatic 110, 3) (List.mem_of_getElem? (i := 1) rfl)
theorem dX1_placeOf_4 : decode cX1_placeOf 4 = .ok (.iload_n 2, 1) := gd_cX1_placeOf_03_51 (4, .iload_n 2, 1) (List.mem_of_getElem? (i := 2) rfl)
theorem dX1_placeOf_5 : decode cX1_placeOf 5 = .ok (.invokestatic 110, 3) := gd_cX1_placeOf_03_51 (5, .invokestatic 110, 3) (List.mem_of_getElem? (i := 3) rfl)
theorem dX1_placeOf_8 : decode cX1_placeOf 8 = .ok (.aload_n 0, 1) := gd_cX1_placeOf_03_51 (8, .aload_n 0, 1) (List.mem_of_getElem? (i := 4) rfl)
theorem dX1_placeOf_9 : decode cX1_placeOf 9 = .ok (.getfield 16, 3) := gd_cX1_placeOf_03_51 (9, .getfield 16, 3) (List.mem_of_getElem? (i := 5) rfl)
theorem dX1_placeOf_12 : decode cX1_placeOf 12 = .ok (.iload_n 1, 1) := gd_cX1_placeOf_03_51 (12, .iload_n 1, 1) (List.mem_of_getElem? (i := 6) rfl)
theorem dX1_placeOf_13 : decode cX1_placeOf 13 = .ok (.iaload, 1) := gd_cX1_placeOf_03_51 (13, .iaload, 1) (List.mem_of_getElem? (i := 7) rfl)
theorem dX1_placeOf_14 : decode cX1_placeOf 14 = .ok (.istore_n 3, 1) := gd_cX1_placeOf_03_51 (14, .istore_n 3, 1) (List.mem_of_getElem? (i := 8) rfl)
theorem dX1_placeOf_15 : decode cX1_placeOf 15 = .ok (.iconst 0, 1) := gd_cX1_placeOf_03_51 (15, .iconst 0, 1) (List.mem_of_getElem? (i := 9) rfl)
theorem dX1_placeOf_16 : decode cX1_placeOf 16 = .ok (.istore 4, 2) := gd_cX1_placeOf_03_51 (16, .istore 4, 2) (List.mem_of_getElem? (i := 10) rfl)
theorem dX1_placeOf_18 : decode cX1_placeOf 18 = .ok (.iload 4, 2) := gd_cX1_placeOf_03_51 (18, .iload 4, 2) (List.mem_of_getElem? (i := 11) rfl)
theorem dX1_placeOf_20 : decode cX1_placeOf 20 = .ok (.aload_n 0, 1) := gd_cX1_placeOf_03_51 (20, .aload_n 0, 1) (List.mem_of_getElem? (i := 12) rfl)
theorem dX1_placeOf_21 : decode cX1_placeOf 21 = .ok (.getfield 25, 3) := gd_cX1_placeOf_03_51 (21, .getfield 25, 3) (List.mem_of_getElem? (i := 13) rfl)
theorem dX1_placeOf_24 : decode cX1_placeOf 24 = .ok (.iload_n 1, 1) := gd_cX1_placeOf_03_51 (24, .iload_n 1, 1) (List.mem_of_getElem? (i := 14) rfl)
theorem dX1_placeOf_25 : decode cX1_placeOf 25 = .ok (.iaload, 1) := gd_cX1_placeOf_03_51 (25, .iaload, 1) (List.mem_of_getElem? (i := 15) rfl)
theorem dX1_placeOf_26 : decode cX1_placeOf 26 = .ok (.if_icmp .ge 47, 3) := gd_cX1_placeOf_03_51 (26, .if_icmp .ge 47, 3) (List.mem_of_getElem? (i := 16) rfl)
theorem dX1_placeOf_29 : decode cX1_placeOf 29 = .ok (.iload_n 3, 1) := gd_cX1_placeOf_03_51 (29, .iload_n 3, 1) (List.mem_of_getElem? (i := 17) rfl)
theorem dX1_placeOf_30 : decode cX1_placeOf 30 = .ok (.aload_n 0, 1) := gd_cX1_placeOf_03_51 (30, .aload_n 0, 1) (List.mem_of_getElem? (i := 18) rfl)
theorem dX1_placeOf_31 : decode cX1_placeOf 31 = .ok (.getfield 19, 3) := gd_cX1_placeOf_03_51 (31, .getfield 19, 3) (List.mem_of_getElem? (i := 19) rfl)
theorem dX1_placeOf_34 : decode cX1_placeOf 34 = .ok (.iload_n 2, 1) := gd_cX1_placeOf_03_51 (34, .iload_n 2, 1) (List.mem_of_getElem? (i := 20) rfl)
theorem dX1_placeOf_35 : decode cX1_placeOf 35 = .ok (.iaload, 1) := gd_cX1_placeOf_03_51 (35, .iaload, 1) (List.mem_of_getElem? (i := 21) rfl)
theorem dX1_placeOf_36 : decode cX1_placeOf 36 = .ok (.imul, 1) := gd_cX1_placeOf_03_51 (36, .imul, 1) (List.mem_of_getElem? (i := 22) rfl)
theorem dX1_placeOf_37 : decode cX1_placeOf 37 = .ok (.aload_n 0, 1) := gd_cX1_placeOf_03_51 (37, .aload_n 0, 1) (List.mem_of_getElem? (i := 23) rfl)
theorem dX1_placeOf_38 : decode cX1_placeOf 38 = .ok (.getfield 16, 3) := gd_cX1_placeOf_03_51 (38, .getfield 16, 3) (List.mem_of_getElem? (i := 24) rfl)
theorem dX1_placeOf_41 : decode cX1_placeOf 41 = .ok (.iload_n 2, 1) := gd_cX1_placeOf_03_51 (41, .iload_n 2, 1) (List.mem_of_getElem? (i := 25) rfl)
theorem dX1_placeOf_42 : decode cX1_placeOf 42 = .ok (.iaload, 1) := gd_cX1_placeOf_03_51 (42, .iaload, 1) (List.mem_of_getElem? (i := 26) rfl)
theorem dX1_placeOf_43 : decode cX1_placeOf 43 = .ok (.aload_n 0, 1) := gd_cX1_placeOf_03_51 (43, .aload_n 0, 1) (List.mem_of_getElem? (i := 27) rfl)
theorem dX1_placeOf_44 : decode cX1_placeOf 44 = .ok (.getfield 19, 3) := gd_cX1_placeOf_03_51 (44, .getfield 19, 3) (List.mem_of_getElem? (i := 28) rfl)
theorem dX1_placeOf_47 : decode cX1_placeOf 47 = .ok (.iload_n 1, 1) := gd_cX1_placeOf_03_51 (47, .iload_n 1, 1) (List.mem_of_getElem? (i := 29) rfl)
theorem dX1_placeOf_48 : decode cX1_placeOf 48 = .ok (.iaload, 1) := gd_cX1_placeOf_03_51 (48, .iaload, 1) (List.mem_of_getElem? (i := 30) rfl)
theorem dX1_placeOf_49 : decode cX1_placeOf 49 = .ok (.imul, 1) := gd_cX1_placeOf_03_51 (49, .imul, 1) (List.mem_of_getElem? (i := 31) rfl)
theorem dX1_placeOf_50 : decode cX1_placeOf 50 = .ok (.if_icmp .ne 6, 3) := gd_cX1_placeOf_03_51 (50, .if_icmp .ne 6, 3) (List.mem_of_getElem? (i := 32) rfl)
theorem dX1_placeOf_53 : decode cX1_placeOf 53 = .ok (.iload 4, 2) := gd_cX1_placeOf_03_51 (53, .iload 4, 2) (List.mem_of_getElem? (i := 33) rfl)
theorem dX1_placeOf_55 : decode cX1_placeOf 55 = .ok (.ireturn, 1) := gd_cX1_placeOf_03_51 (55, .ireturn, 1) (List.mem_of_getElem? (i := 34) rfl)
theorem dX1_placeOf_56 : decode cX1_placeOf 56 = .ok (.iload_n 3, 1) := gd_cX1_placeOf_03_51 (56, .iload_n 3, 1) (List.mem_of_getElem? (i := 35) rfl)
theorem dX1_placeOf_57 : decode cX1_placeOf 57 = .ok (.aload_n 0, 1) := gd_cX1_placeOf_03_51 (57, .aload_n 0, 1) (List.mem_of_getElem? (i := 36) rfl)
theorem dX1_placeOf_58 : decode cX1_placeOf 58 = .ok (.getfield 19, 3) := gd_cX1_placeOf_03_51 (58, .getfield 19, 3) (List.mem_of_getElem? (i := 37) rfl)
theorem dX1_placeOf_61 : decode cX1_placeOf 61 = .ok (.iload_n 1, 1) := gd_cX1_placeOf_03_51 (61, .iload_n 1, 1) (List.mem_of_getElem? (i := 38) rfl)
theorem dX1_placeOf_62 : decode cX1_placeOf 62 = .ok (.iaload, 1) := gd_cX1_placeOf_03_51 (62, .iaload, 1) (List.mem_of_getElem? (i := 39) rfl)
theorem dX1_placeOf_63 : decode cX1_placeOf 63 = .ok (.invokestatic 189, 3) := gd_cX1_placeOf_03_51 (63, .invokestatic 189, 3) (List.mem_of_getElem? (i := 40) rfl)
theorem dX1_placeOf_66 : decode cX1_placeOf 66 = .ok (.istore_n 3, 1) := gd_cX1_placeOf_03_51 (66, .istore_n 3, 1) (List.mem_of_getElem? (i := 41) rfl)
theorem dX1_placeOf_67 : decode cX1_placeOf 67 = .ok (.iinc 4 1, 3) := gd_cX1_placeOf_03_51 (67, .iinc 4 1, 3) (List.mem_of_getElem? (i := 42) rfl)
theorem dX1_placeOf_70 : decode cX1_placeOf 70 = .ok (.goto (-52), 3) := gd_cX1_placeOf_03_51 (70, .goto (-52), 3) (List.mem_of_getElem? (i := 43) rfl)
theorem dX1_placeOf_73 : decode cX1_placeOf 73 = .ok (.iconst (-1), 1) := gd_cX1_placeOf_03_51 (73, .iconst (-1), 1) (List.mem_of_getElem? (i := 44) rfl)
theorem dX1_placeOf_74 : decode cX1_placeOf 74 = .ok (.ireturn, 1) := gd_cX1_placeOf_03_51 (74, .ireturn, 1) (List.mem_of_getElem? (i := 45) rfl)
def gl_cX1_wheelOrder_03_52 : List (Nat × Instr × Nat) := [(0, .iload_n 1, 1), (1, .invokestatic 110, 3), (4, .iload_n 2, 1), (5, .invokestatic 110, 3), (8, .aload_n 0, 1), (9, .iload_n 1, 1), (10, .iload_n 2, 1), (11, .invokevirtual 192, 3), (14, .ireturn, 1)]
theorem gd_cX1_wheelOrder_03_52 : ∀ q ∈ gl_cX1_wheelOrder_03_52, decode cX1_wheelOrder q.1 = .ok q.2 := fdk_of 0 (by decide +kernel)
theorem dX1_wheelOrder_0 : decode cX1_wheelOrder 0 = .ok (.iload_n 1, 1) := gd_cX1_wheelOrder_03_52 (0, .iload_n 1, 1) (List.mem_of_getElem? (i := 0) rfl)
theorem dX1_wheelOrder_1 : decode cX1_wheelOrder 1 = .ok (.invokestatic 110, 3) := gd_cX1_wheelOrder_03_52 (1, .invokestatic 110, 3) (List.mem_of_getElem? (i := 1) rfl)
theorem dX1_wheelOrder_4 : decode cX1_wheelOrder 4 = .ok (.iload_n 2, 1) := gd_cX1_wheelOrder_03_52 (4, .iload_n 2, 1) (List.mem_of_getElem? (i := 2) rfl)
theorem dX1_wheelOrder_5 : decode cX1_wheelOrder 5 = .ok (.invokestatic 110, 3) := gd_cX1_wheelOrder_03_52 (5, .invokestatic 110, 3) (List.mem_of_getElem? (i := 3) rfl)
theorem dX1_wheelOrder_8 : decode cX1_wheelOrder 8 = .ok (.aload_n 0, 1) := gd_cX1_wheelOrder_03_52 (8, .aload_n 0, 1) (List.mem_of_getElem? (i := 4) rfl)
theorem dX1_wheelOrder_9 : decode cX1_wheelOrder 9 = .ok (.iload_n 1, 1) := gd_cX1_wheelOrder_03_52 (9, .iload_n 1, 1) (List.mem_of_getElem? (i := 5) rfl)
theorem dX1_wheelOrder_10 : decode cX1_wheelOrder 10 = .ok (.iload_n 2, 1) := gd_cX1_wheelOrder_03_52 (10, .iload_n 2, 1) (List.mem_of_getElem? (i := 6) rfl)
theorem dX1_wheelOrder_11 : decode cX1_wheelOrder 11 = .ok (.invokevirtual 192, 3) := gd_cX1_wheelOrder_03_52 (11, .invokevirtual 192, 3) (List.mem_of_getElem? (i := 7) rfl)
theorem dX1_wheelOrder_14 : decode cX1_wheelOrder 14 = .ok (.ireturn, 1) := gd_cX1_wheelOrder_03_52 (14, .ireturn, 1) (List.mem_of_getElem? (i := 8) rfl)
def gl_cX1_against_03_53 : List (Nat × Instr × Nat) := [(0, .iload_n 1, 1), (1, .invokestatic 110, 3), (4, .iload_n 2, 1), (5, .invokestatic 41, 3), (8, .aload_n 0, 1), (9, .iload_n 1, 1), (10, .iload_n 2, 1), (11, .invokevirtual 195, 3), (14, .ireturn, 1)]
theorem gd_cX1_against_03_53 : ∀ q ∈ gl_cX1_against_03_53, decode cX1_against q.1 = .ok q.2 := fdk_of 0 (by decide +kernel)
theorem dX1_against_0 : decode cX1_against 0 = .ok (.iload_n 1, 1) := gd_cX1_against_03_53 (0, .iload_n 1, 1) (List.mem_of_getElem? (i := 0) rfl)
theorem dX1_against_1 : decode cX1_against 1 = .ok (.invokestatic 110, 3) := gd_cX1_against_03_53 (1, .invokestatic 110, 3) (List.mem_of_getElem? (i := 1) rfl)
theorem dX1_against_4 : decode cX1_against 4 = .ok (.iload_n 2, 1) := gd_cX1_against_03_53 (4, .iload_n 2, 1) (List.mem_of_getElem? (i := 2) rfl)
theorem dX1_against_5 : decode cX1_against 5 = .ok (.invokestatic 41, 3) := gd_cX1_against_03_53 (5, .invokestatic 41, 3) (List.mem_of_getElem? (i := 3) rfl)
theorem dX1_against_8 : decode cX1_against 8 = .ok (.aload_n 0, 1) := gd_cX1_against_03_53 (8, .aload_n 0, 1) (List.mem_of_getElem? (i := 4) rfl)
theorem dX1_against_9 : decode cX1_against 9 = .ok (.iload_n 1, 1) := gd_cX1_against_03_53 (9, .iload_n 1, 1) (List.mem_of_getElem? (i := 5) rfl)
theorem dX1_against_10 : decode cX1_against 10 = .ok (.iload_n 2, 1) := gd_cX1_against_03_53 (10, .iload_n 2, 1) (List.mem_of_getElem? (i := 6) rfl)
theorem dX1_against_11 : decode cX1_against 11 = .ok (.invokevirtual 195, 3) := gd_cX1_against_03_53 (11, .invokevirtual 195, 3) (List.mem_of_getElem? (i := 7) rfl)
theorem dX1_against_14 : decode cX1_against 14 = .ok (.ireturn, 1) := gd_cX1_against_03_53 (14, .ireturn, 1) (List.mem_of_getElem? (i := 8) rfl)
def gl_cX1_house_03_54 : List (Nat × Instr × Nat) := [(0, .iload_n 1, 1), (1, .lconst 0, 1), (2, .ldc2_w 53, 3), (5, .invokestatic 49, 3), (8, .aload_n 0, 1), (9, .getfield 28, 3), (12, .iload_n 1, 1), (13, .iaload, 1), (14, .ireturn, 1)]
theorem gd_cX1_house_03_54 : ∀ q ∈ gl_cX1_house_03_54, decode cX1_house q.1 = .ok q.2 := fdk_of 0 (by decide +kernel)
theorem dX1_house_0 : decode cX1_house 0 = .ok (.iload_n 1, 1) := gd_cX1_house_03_54 (0, .iload_n 1, 1) (List.mem_of_getElem? (i := 0) rfl)
theorem dX1_house_1 : decode cX1_house 1 = .ok (.lconst 0, 1) := gd_cX1_house_03_54 (1, .lconst 0, 1) (List.mem_of_getElem? (i := 1) rfl)
theorem dX1_house_2 : decode cX1_house 2 = .ok (.ldc2_w 53, 3) := gd_cX1_house_03_54 (2, .ldc2_w 53, 3) (List.mem_of_getElem? (i := 2) rfl)
theorem dX1_house_5 : decode cX1_house 5 = .ok (.invokestatic 49, 3) := gd_cX1_house_03_54 (5, .invokestatic 49, 3) (List.mem_of_getElem? (i := 3) rfl)
theorem dX1_house_8 : decode cX1_house 8 = .ok (.aload_n 0, 1) := gd_cX1_house_03_54 (8, .aload_n 0, 1) (List.mem_of_getElem? (i := 4) rfl)
theorem dX1_house_9 : decode cX1_house 9 = .ok (.getfield 28, 3) := gd_cX1_house_03_54 (9, .getfield 28, 3) (List.mem_of_getElem? (i := 5) rfl)
theorem dX1_house_12 : decode cX1_house 12 = .ok (.iload_n 1, 1) := gd_cX1_house_03_54 (12, .iload_n 1, 1) (List.mem_of_getElem? (i := 6) rfl)
theorem dX1_house_13 : decode cX1_house 13 = .ok (.iaload, 1) := gd_cX1_house_03_54 (13, .iaload, 1) (List.mem_of_getElem? (i := 7) rfl)
theorem dX1_house_14 : decode cX1_house 14 = .ok (.ireturn, 1) := gd_cX1_house_03_54 (14, .ireturn, 1) (List.mem_of_getElem? (i := 8) rfl)
def gl_cX1_knock_03_55 : List (Nat × Instr × Nat) := [(0, .aload_n 0, 1), (1, .getfield 28, 3), (4, .iconst 3, 1), (5, .dup2, 1), (6, .iaload, 1), (7, .iconst 1, 1), (8, .iadd, 1), (9, .iastore, 1), (10, .aload_n 0, 1), (11, .getfield 28, 3), (14, .iconst 3, 1), (15, .iaload, 1), (16, .ireturn, 1)]
theorem gd_cX1_knock_03_55 : ∀ q ∈ gl_cX1_knock_03_55, decode cX1_knock q.1 = .ok q.2 := fdk_of 0 (by decide +kernel)
theorem dX1_knock_0 : decode cX1_knock 0 = .ok (.aload_n 0, 1) := gd_cX1_knock_03_55 (0, .aload_n 0, 1) (List.mem_of_getElem? (i := 0) rfl)
theorem dX1_knock_1 : decode cX1_knock 1 = .ok (.getfield 28, 3) := gd_cX1_knock_03_55 (1, .getfield 28, 3) (List.mem_of_getElem? (i := 1) rfl)
theorem dX1_knock_4 : decode cX1_knock 4 = .ok (.iconst 3, 1) := gd_cX1_knock_03_55 (4, .iconst 3, 1) (List.mem_of_getElem? (i := 2) rfl)
theorem dX1_knock_5 : decode cX1_knock 5 = .ok (.dup2, 1) := gd_cX1_knock_03_55 (5, .dup2, 1) (List.mem_of_getElem? (i := 3) rfl)
theorem dX1_knock_6 : decode cX1_knock 6 = .ok (.iaload, 1) := gd_cX1_knock_03_55 (6, .iaload, 1) (List.mem_of_getElem? (i := 4) rfl)
theorem dX1_knock_7 : decode cX1_knock 7 = .ok (.iconst 1, 1) := gd_cX1_knock_03_55 (7, .iconst 1, 1) (List.mem_of_getElem? (i := 5) rfl)
theorem dX1_knock_8 : decode cX1_knock 8 = .ok (.iadd, 1) := gd_cX1_knock_03_55 (8, .iadd, 1) (List.mem_of_getElem? (i := 6) rfl)
theorem dX1_knock_9 : decode cX1_knock 9 = .ok (.iastore, 1) := gd_cX1_knock_03_55 (9, .iastore, 1) (List.mem_of_getElem? (i := 7) rfl)
theorem dX1_knock_10 : decode cX1_knock 10 = .ok (.aload_n 0, 1) := gd_cX1_knock_03_55 (10, .aload_n 0, 1) (List.mem_of_getElem? (i := 8) rfl)
theorem dX1_knock_11 : decode cX1_knock 11 = .ok (.getfield 28, 3) := gd_cX1_knock_03_55 (11, .getfield 28, 3) (List.mem_of_getElem? (i := 9) rfl)
theorem dX1_knock_14 : decode cX1_knock 14 = .ok (.iconst 3, 1) := gd_cX1_knock_03_55 (14, .iconst 3, 1) (List.mem_of_getElem? (i := 10) rfl)
theorem dX1_knock_15 : decode cX1_knock 15 = .ok (.iaload, 1) := gd_cX1_knock_03_55 (15, .iaload, 1) (List.mem_of_getElem? (i := 11) rfl)
theorem dX1_knock_16 : decode cX1_knock 16 = .ok (.ireturn, 1) := gd_cX1_knock_03_55 (16, .ireturn, 1) (List.mem_of_getElem? (i := 12) rfl)
def gl_cX1_isSound_03_56 : List (Nat × Instr × Nat) := [(0, .iconst 0, 1), (1, .istore_n 1, 1), (2, .iload_n 1, 1), (3, .iconst 4, 1), (4, .if_icmp .ge 38, 3), (7, .aload_n 0, 1), (8, .getfield 9, 3), (11, .iload_n 1, 1), (12, .iaload, 1), (13, .i2l, 1), (14, .aload_n 0, 1), (15, .getfield 13, 3), (18, .iload_n 1, 1), (19, .iaload, 1), (20, .invokestatic 198, 3), (23, .ifCond .eq 11, 3), (26, .aload_n 0, 1), (27, .iload_n 1, 1), (28, .invokevirtual 202, 3), (31, .ifCond .ne 5, 3), (34, .iconst 0, 1), (35, .ireturn, 1), (36, .iinc 1 1, 3), (39, .goto (-37), 3), (42, .iconst 0, 1), (43, .istore_n 1, 1), (44, .iload_n 1, 1), (45, .iconst 3, 1), (46, .if_icmp .ge 35, 3), (49, .aload_n 0, 1), (50, .iload_n 1, 1), (51, .invokevirtual 206, 3), (54, .ifCond .eq 19, 3), (57, .aload_n 0, 1), (58, .iload_n 1, 1), (59, .invokevirtual 209, 3), (62, .ifCond .eq 11, 3), (65, .aload_n 0, 1), (66, .iload_n 1, 1), (67, .invokevirtual 212, 3), (70, .ifCond .ne 5, 3), (73, .iconst 0, 1), (74, .ireturn, 1), (75, .iinc 1 1, 3), (78, .goto (-34), 3), (81, .iconst 1, 1), (82, .ireturn, 1)]
theorem gd_cX1_isSound_03_56 : ∀ q ∈ gl_cX1_isSound_03_56, decode cX1_isSound q.1 = .ok q.2 := fdk_of 0 (by decide +kernel)
theorem dX1_isSound_0 : decode cX1_isSound 0 = .ok (.iconst 0, 1) := gd_cX1_isSound_03_56 (0, .iconst 0, 1) (List.mem_of_getElem? (i := 0) rfl)
theorem dX1_isSound_1 : decode cX1_isSound 1 = .ok (.istore_n 1, 1) := gd_cX1_isSound_03_56 (1, .istore_n 1, 1) (List.mem_of_getElem? (i := 1) rfl)
theorem dX1_isSound_2 : decode cX1_isSound 2 = .ok (.iload_n 1, 1) := gd_cX1_isSound_03_56 (2, .iload_n 1, 1) (List.mem_of_getElem? (i := 2) rfl)
theorem dX1_isSound_3 : decode cX1_isSound 3 = .ok (.iconst 4, 1) := gd_cX1_isSound_03_56 (3, .iconst 4, 1) (List.mem_of_getElem? (i := 3) rfl)
theorem dX1_isSound_4 : decode cX1_isSound 4 = .ok (.if_icmp .ge 38, 3) := gd_cX1_isSound_03_56 (4, .if_icmp .ge 38, 3) (List.mem_of_getElem? (i := 4) rfl)
theorem dX1_isSound_7 : decode cX1_isSound 7 = .ok (.aload_n 0, 1) := gd_cX1_isSound_03_56 (7, .aload_n 0, 1) (List.mem_of_getElem? (i := 5) rfl)
theorem dX1_isSound_8 : decode cX1_isSound 8 = .ok (.getfield 9, 3) := gd_cX1_isSound_03_56 (8, .getfield 9, 3) (List.mem_of_getElem? (i := 6) rfl)
theorem dX1_isSound_11 : decode cX1_isSound 11 = .ok (.iload_n 1, 1) := gd_cX1_isSound_03_56 (11, .iload_n 1, 1) (List.mem_of_getElem? (i := 7) rfl)
theorem dX1_isSound_12 : decode cX1_isSound 12 = .ok (.iaload, 1) := gd_cX1_isSound_03_56 (12, .iaload, 1) (List.mem_of_getElem? (i := 8) rfl)
theorem dX1_isSound_13 : decode cX1_isSound 13 = .ok (.i2l, 1) := gd_cX1_isSound_03_56 (13, .i2l, 1) (List.mem_of_getElem? (i := 9) rfl)
theorem dX1_isSound_14 : decode cX1_isSound 14 = .ok (.aload_n 0, 1) := gd_cX1_isSound_03_56 (14, .aload_n 0, 1) (List.mem_of_getElem? (i := 10) rfl)
theorem dX1_isSound_15 : decode cX1_isSound 15 = .ok (.getfield 13, 3) := gd_cX1_isSound_03_56 (15, .getfield 13, 3) (List.mem_of_getElem? (i := 11) rfl)
theorem dX1_isSound_18 : decode cX1_isSound 18 = .ok (.iload_n 1, 1) := gd_cX1_isSound_03_56 (18, .iload_n 1, 1) (List.mem_of_getElem? (i := 12) rfl)
theorem dX1_isSound_19 : decode cX1_isSound 19 = .ok (.iaload, 1) := gd_cX1_isSound_03_56 (19, .iaload, 1) (List.mem_of_getElem? (i := 13) rfl)
theorem dX1_isSound_20 : decode cX1_isSound 20 = .ok (.invokestatic 198, 3) := gd_cX1_isSound_03_56 (20, .invokestatic 198, 3) (List.mem_of_getElem? (i := 14) rfl)
theorem dX1_isSound_23 : decode cX1_isSound 23 = .ok (.ifCond .eq 11, 3) := gd_cX1_isSound_03_56 (23, .ifCond .eq 11, 3) (List.mem_of_getElem? (i := 15) rfl)
theorem dX1_isSound_26 : decode cX1_isSound 26 = .ok (.aload_n 0, 1) := gd_cX1_isSound_03_56 (26, .aload_n 0, 1) (List.mem_of_getElem? (i := 16) rfl)
theorem dX1_isSound_27 : decode cX1_isSound 27 = .ok (.iload_n 1, 1) := gd_cX1_isSound_03_56 (27, .iload_n 1, 1) (List.mem_of_getElem? (i := 17) rfl)
theorem dX1_isSound_28 : decode cX1_isSound 28 = .ok (.invokevirtual 202, 3) := gd_cX1_isSound_03_56 (28, .invokevirtual 202, 3) (List.mem_of_getElem? (i := 18) rfl)
theorem dX1_isSound_31 : decode cX1_isSound 31 = .ok (.ifCond .ne 5, 3) := gd_cX1_isSound_03_56 (31, .ifCond .ne 5, 3) (List.mem_of_getElem? (i := 19) rfl)
theorem dX1_isSound_34 : decode cX1_isSound 34 = .ok (.iconst 0, 1) := gd_cX1_isSound_03_56 (34, .iconst 0, 1) (List.mem_of_getElem? (i := 20) rfl)
theorem dX1_isSound_35 : decode cX1_isSound 35 = .ok (.ireturn, 1) := gd_cX1_isSound_03_56 (35, .ireturn, 1) (List.mem_of_getElem? (i := 21) rfl)
theorem dX1_isSound_36 : decode cX1_isSound 36 = .ok (.iinc 1 1, 3) := gd_cX1_isSound_03_56 (36, .iinc 1 1, 3) (List.mem_of_getElem? (i := 22) rfl)
theorem dX1_isSound_39 : decode cX1_isSound 39 = .ok (.goto (-37), 3) := gd_cX1_isSound_03_56 (39, .goto (-37), 3) (List.mem_of_getElem? (i := 23) rfl)
theorem dX1_isSound_42 : decode cX1_isSound 42 = .ok (.iconst 0, 1) := gd_cX1_isSound_03_56 (42, .iconst 0, 1) (List.mem_of_getElem? (i := 24) rfl)
theorem dX1_isSound_43 : decode cX1_isSound 43 = .ok (.istore_n 1, 1) := gd_cX1_isSound_03_56 (43, .istore_n 1, 1) (List.mem_of_getElem? (i := 25) rfl)
theorem dX1_isSound_44 : decode cX1_isSound 44 = .ok (.iload_n 1, 1) := gd_cX1_isSound_03_56 (44, .iload_n 1, 1) (List.mem_of_getElem? (i := 26) rfl)
theorem dX1_isSound_45 : decode cX1_isSound 45 = .ok (.iconst 3, 1) := gd_cX1_isSound_03_56 (45, .iconst 3, 1) (List.mem_of_getElem? (i := 27) rfl)
theorem dX1_isSound_46 : decode cX1_isSound 46 = .ok (.if_icmp .ge 35, 3) := gd_cX1_isSound_03_56 (46, .if_icmp .ge 35, 3) (List.mem_of_getElem? (i := 28) rfl)
theorem dX1_isSound_49 : decode cX1_isSound 49 = .ok (.aload_n 0, 1) := gd_cX1_isSound_03_56 (49, .aload_n 0, 1) (List.mem_of_getElem? (i := 29) rfl)
theorem dX1_isSound_50 : decode cX1_isSound 50 = .ok (.iload_n 1, 1) := gd_cX1_isSound_03_56 (50, .iload_n 1, 1) (List.mem_of_getElem? (i := 30) rfl)
theorem dX1_isSound_51 : decode cX1_isSound 51 = .ok (.invokevirtual 206, 3) := gd_cX1_isSound_03_56 (51, .invokevirtual 206, 3) (List.mem_of_getElem? (i := 31) rfl)
theorem dX1_isSound_54 : decode cX1_isSound 54 = .ok (.ifCond .eq 19, 3) := gd_cX1_isSound_03_56 (54, .ifCond .eq 19, 3) (List.mem_of_getElem? (i := 32) rfl)
theorem dX1_isSound_57 : decode cX1_isSound 57 = .ok (.aload_n 0, 1) := gd_cX1_isSound_03_56 (57, .aload_n 0, 1) (List.mem_of_getElem? (i := 33) rfl)
theorem dX1_isSound_58 : decode cX1_isSound 58 = .ok (.iload_n 1, 1) := gd_cX1_isSound_03_56 (58, .iload_n 1, 1) (List.mem_of_getElem? (i := 34) rfl)
theorem dX1_isSound_59 : decode cX1_isSound 59 = .ok (.invokevirtual 209, 3) := gd_cX1_isSound_03_56 (59, .invokevirtual 209, 3) (List.mem_of_getElem? (i := 35) rfl)
theorem dX1_isSound_62 : decode cX1_isSound 62 = .ok (.ifCond .eq 11, 3) := gd_cX1_isSound_03_56 (62, .ifCond .eq 11, 3) (List.mem_of_getElem? (i := 36) rfl)
theorem dX1_isSound_65 : decode cX1_isSound 65 = .ok (.aload_n 0, 1) := gd_cX1_isSound_03_56 (65, .aload_n 0, 1) (List.mem_of_getElem? (i := 37) rfl)
theorem dX1_isSound_66 : decode cX1_isSound 66 = .ok (.iload_n 1, 1) := gd_cX1_isSound_03_56 (66, .iload_n 1, 1) (List.mem_of_getElem? (i := 38) rfl)
theorem dX1_isSound_67 : decode cX1_isSound 67 = .ok (.invokevirtual 212, 3) := gd_cX1_isSound_03_56 (67, .invokevirtual 212, 3) (List.mem_of_getElem? (i := 39) rfl)
theorem dX1_isSound_70 : decode cX1_isSound 70 = .ok (.ifCond .ne 5, 3) := gd_cX1_isSound_03_56 (70, .ifCond .ne 5, 3) (List.mem_of_getElem? (i := 40) rfl)
theorem dX1_isSound_73 : decode cX1_isSound 73 = .ok (.iconst 0, 1) := gd_cX1_isSound_03_56 (73, .iconst 0, 1) (List.mem_of_getElem? (i := 41) rfl)
theorem dX1_isSound_74 : decode cX1_isSound 74 = .ok (.ireturn, 1) := gd_cX1_isSound_03_56 (74, .ireturn, 1) (List.mem_of_getElem? (i := 42) rfl)
theorem dX1_isSound_75 : decode cX1_isSound 75 = .ok (.iinc 1 1, 3) := gd_cX1_isSound_03_56 (75, .iinc 1 1, 3) (List.mem_of_getElem? (i := 43) rfl)
theorem dX1_isSound_78 : decode cX1_isSound 78 = .ok (.goto (-34), 3) := gd_cX1_isSound_03_56 (78, .goto (-34), 3) (List.mem_of_getElem? (i := 44) rfl)
theorem dX1_isSound_81 : decode cX1_isSound 81 = .ok (.iconst 1, 1) := gd_cX1_isSound_03_56 (81, .iconst 1, 1) (List.mem_of_getElem? (i := 45) rfl)
theorem dX1_isSound_82 : decode cX1_isSound 82 = .ok (.ireturn, 1) := gd_cX1_isSound_03_56 (82, .ireturn, 1) (List.mem_of_getElem? (i := 46) rfl)
def gl_cX1_digest_03_57 : List (Nat × Instr × Nat) := [(0, .aload_n 0, 1), (1, .ldc2_w 215, 3), (4, .invokevirtual 217, 3), (7, .lstore_n 1, 1), (8, .aload_n 0, 1), (9, .lload_n 1, 1), (10, .invokevirtual 221, 3), (13, .lstore_n 1, 1), (14, .iconst 0, 1), (15, .istore_n 3, 1), (16, .iload_n 3, 1), (17, .iconst 4, 1), (18, .if_icmp .ge 21, 3), (21, .lload_n 1, 1), (22, .aload_n 0, 1), (23, .getfield 28, 3), (26, .iload_n 3, 1), (27, .iaload, 1), (28, .i2l, 1), (29, .invokestatic 224, 3), (32, .lstore_n 1, 1), (33, .iinc 3 1, 3), (36, .goto (-20), 3), (39, .lload_n 1, 1), (40, .aload_n 0, 1), (41, .invokevirtual 228, 3), (44, .ifCond .eq 7, 3), (47, .lconst 1, 1), (48, .goto 4, 3), (51, .lconst 0, 1), (52, .invokestatic 224, 3), (55, .lreturn, 1)]
theorem gd_cX1_digest_03_57 : ∀ q ∈ gl_cX1_digest_03_57, decode cX1_digest q.1 = .ok q.2 := fdk_of 0 (by decide +kernel)
theorem dX1_digest_0 : decode cX1_digest 0 = .ok (.aload_n 0, 1) := gd_cX1_digest_03_57 (0, .aload_n 0, 1) (List.mem_of_getElem? (i := 0) rfl)
theorem dX1_digest_1 : decode cX1_digest 1 = .ok (.ldc2_w 215, 3) := gd_cX1_digest_03_57 (1, .ldc2_w 215, 3) (List.mem_of_getElem? (i := 1) rfl)
theorem dX1_digest_4 : decode cX1_digest 4 = .ok (.invokevirtual 217, 3) := gd_cX1_digest_03_57 (4, .invokevirtual 217, 3) (List.mem_of_getElem? (i := 2) rfl)
theorem dX1_digest_7 : decode cX1_digest 7 = .ok (.lstore_n 1, 1) := gd_cX1_digest_03_57 (7, .lstore_n 1, 1) (List.mem_of_getElem? (i := 3) rfl)
theorem dX1_digest_8 : decode cX1_digest 8 = .ok (.aload_n 0, 1) := gd_cX1_digest_03_57 (8, .aload_n 0, 1) (List.mem_of_getElem? (i := 4) rfl)
theorem dX1_digest_9 : decode cX1_digest 9 = .ok (.lload_n 1, 1) := gd_cX1_digest_03_57 (9, .lload_n 1, 1) (List.mem_of_getElem? (i := 5) rfl)
theorem dX1_digest_10 : decode cX1_digest 10 = .ok (.invokevirtual 221, 3) := gd_cX1_digest_03_57 (10, .invokevirtual 221, 3) (List.mem_of_getElem? (i := 6) rfl)
theorem dX1_digest_13 : decode cX1_digest 13 = .ok (.lstore_n 1, 1) := gd_cX1_digest_03_57 (13, .lstore_n 1, 1) (List.mem_of_getElem? (i := 7) rfl)
theorem dX1_digest_14 : decode cX1_digest 14 = .ok (.iconst 0, 1) := gd_cX1_digest_03_57 (14, .iconst 0, 1) (List.mem_of_getElem? (i := 8) rfl)
theorem dX1_digest_15 : decode cX1_digest 15 = .ok (.istore_n 3, 1) := gd_cX1_digest_03_57 (15, .istore_n 3, 1) (List.mem_of_getElem? (i := 9) rfl)
theorem dX1_digest_16 : decode cX1_digest 16 = .ok (.iload_n 3, 1) := gd_cX1_digest_03_57 (16, .iload_n 3, 1) (List.mem_of_getElem? (i := 10) rfl)
theorem dX1_digest_17 : decode cX1_digest 17 = .ok (.iconst 4, 1) := gd_cX1_digest_03_57 (17, .iconst 4, 1) (List.mem_of_getElem? (i := 11) rfl)
theorem dX1_digest_18 : decode cX1_digest 18 = .ok (.if_icmp .ge 21, 3) := gd_cX1_digest_03_57 (18, .if_icmp .ge 21, 3) (List.mem_of_getElem? (i := 12) rfl)
theorem dX1_digest_21 : decode cX1_digest 21 = .ok (.lload_n 1, 1) := gd_cX1_digest_03_57 (21, .lload_n 1, 1) (List.mem_of_getElem? (i := 13) rfl)
theorem dX1_digest_22 : decode cX1_digest 22 = .ok (.aload_n 0, 1) := gd_cX1_digest_03_57 (22, .aload_n 0, 1) (List.mem_of_getElem? (i := 14) rfl)
theorem dX1_digest_23 : decode cX1_digest 23 = .ok (.getfield 28, 3) := gd_cX1_digest_03_57 (23, .getfield 28, 3) (List.mem_of_getElem? (i := 15) rfl)
theorem dX1_digest_26 : decode cX1_digest 26 = .ok (.iload_n 3, 1) := gd_cX1_digest_03_57 (26, .iload_n 3, 1) (List.mem_of_getElem? (i := 16) rfl)
theorem dX1_digest_27 : decode cX1_digest 27 = .ok (.iaload, 1) := gd_cX1_digest_03_57 (27, .iaload, 1) (List.mem_of_getElem? (i := 17) rfl)
theorem dX1_digest_28 : decode cX1_digest 28 = .ok (.i2l, 1) := gd_cX1_digest_03_57 (28, .i2l, 1) (List.mem_of_getElem? (i := 18) rfl)
theorem dX1_digest_29 : decode cX1_digest 29 = .ok (.invokestatic 224, 3) := gd_cX1_digest_03_57 (29, .invokestatic 224, 3) (List.mem_of_getElem? (i := 19) rfl)
theorem dX1_digest_32 : decode cX1_digest 32 = .ok (.lstore_n 1, 1) := gd_cX1_digest_03_57 (32, .lstore_n 1, 1) (List.mem_of_getElem? (i := 20) rfl)
theorem dX1_digest_33 : decode cX1_digest 33 = .ok (.iinc 3 1, 3) := gd_cX1_digest_03_57 (33, .iinc 3 1, 3) (List.mem_of_getElem? (i := 21) rfl)
theorem dX1_digest_36 : decode cX1_digest 36 = .ok (.goto (-20), 3) := gd_cX1_digest_03_57 (36, .goto (-20), 3) (List.mem_of_getElem? (i := 22) rfl)
theorem dX1_digest_39 : decode cX1_digest 39 = .ok (.lload_n 1, 1) := gd_cX1_digest_03_57 (39, .lload_n 1, 1) (List.mem_of_getElem? (i := 23) rfl)
theorem dX1_digest_40 : decode cX1_digest 40 = .ok (.aload_n 0, 1) := gd_cX1_digest_03_57 (40, .aload_n 0, 1) (List.mem_of_getElem? (i := 24) rfl)
theorem dX1_digest_41 : decode cX1_digest 41 = .ok (.invokevirtual 228, 3) := gd_cX1_digest_03_57 (41, .invokevirtual 228, 3) (List.mem_of_getElem? (i := 25) rfl)
theorem dX1_digest_44 : decode cX1_digest 44 = .ok (.ifCond .eq 7, 3) := gd_cX1_digest_03_57 (44, .ifCond .eq 7, 3) (List.mem_of_getElem? (i := 26) rfl)
theorem dX1_digest_47 : decode cX1_digest 47 = .ok (.lconst 1, 1) := gd_cX1_digest_03_57 (47, .lconst 1, 1) (List.mem_of_getElem? (i := 27) rfl)
theorem dX1_digest_48 : decode cX1_digest 48 = .ok (.goto 4, 3) := gd_cX1_digest_03_57 (48, .goto 4, 3) (List.mem_of_getElem? (i := 28) rfl)
theorem dX1_digest_51 : decode cX1_digest 51 = .ok (.lconst 0, 1) := gd_cX1_digest_03_57 (51, .lconst 0, 1) (List.mem_of_getElem? (i := 29) rfl)
theorem dX1_digest_52 : decode cX1_digest 52 = .ok (.invokestatic 224, 3) := gd_cX1_digest_03_57 (52, .invokestatic 224, 3) (List.mem_of_getElem? (i := 30) rfl)
theorem dX1_digest_55 : decode cX1_digest 55 = .ok (.lreturn, 1) := gd_cX1_digest_03_57 (55, .lreturn, 1) (List.mem_of_getElem? (i := 31) rfl)
def gl_cX1_requireCell_03_58 : List (Nat × Instr × Nat) := [(0, .iload_n 0, 1), (1, .ifCond .lt 8, 3), (4, .iload_n 0, 1), (5, .iconst 4, 1), (6, .if_icmp .lt 13, 3), (9, .new 232, 3), (12, .dup, 1), (13, .ldc 234, 2), (15, .invokespecial 236, 3), (18, .athrow, 1), (19, .return_, 1)]
theorem gd_cX1_requireCell_03_58 : ∀ q ∈ gl_cX1_requireCell_03_58, decode cX1_requireCell q.1 = .ok q.2 := fdk_of 0 (by decide +kernel)
theorem dX1_requireCell_0 : decode cX1_requireCell 0 = .ok (.iload_n 0, 1) := gd_cX1_requireCell_03_58 (0, .iload_n 0, 1) (List.mem_of_getElem? (i := 0) rfl)
theorem dX1_requireCell_1 : decode cX1_requireCell 1 = .ok (.ifCond .lt 8, 3) := gd_cX1_requireCell_03_58 (1, .ifCond .lt 8, 3) (List.mem_of_getElem? (i := 1) rfl)
theorem dX1_requireCell_4 : decode cX1_requireCell 4 = .ok (.iload_n 0, 1) := gd_cX1_requireCell_03_58 (4, .iload_n 0, 1) (List.mem_of_getElem? (i := 2) rfl)
theorem dX1_requireCell_5 : decode cX1_requireCell 5 = .ok (.iconst 4, 1) := gd_cX1_requireCell_03_58 (5, .iconst 4, 1) (List.mem_of_getElem? (i := 3) rfl)
theorem dX1_requireCell_6 : decode cX1_requireCell 6 = .ok (.if_icmp .lt 13, 3) := gd_cX1_requireCell_03_58 (6, .if_icmp .lt 13, 3) (List.mem_of_getElem? (i := 4) rfl)
theorem dX1_requireCell_9 : decode cX1_requireCell 9 = .ok (.new 232, 3) := gd_cX1_requireCell_03_58 (9, .new 232, 3) (List.mem_of_getElem? (i := 5) rfl)
theorem dX1_requireCell_12 : decode cX1_requireCell 12 = .ok (.dup, 1) := gd_cX1_requireCell_03_58 (12, .dup, 1) (List.mem_of_getElem? (i := 6) rfl)
theorem dX1_requireCell_13 : decode cX1_requireCell 13 = .ok (.ldc 234, 2) := gd_cX1_requireCell_03_58 (13, .ldc 234, 2) (List.mem_of_getElem? (i := 7) rfl)
theorem dX1_requireCell_15 : decode cX1_requireCell 15 = .ok (.invokespecial 236, 3) := gd_cX1_requireCell_03_58 (15, .invokespecial 236, 3) (List.mem_of_getElem? (i := 8) rfl)
theorem dX1_requireCell_18 : decode cX1_requireCell 18 = .ok (.athrow, 1) := gd_cX1_requireCell_03_58 (18, .athrow, 1) (List.mem_of_getElem? (i := 9) rfl)
theorem dX1_requireCell_19 : decode cX1_requireCell 19 = .ok (.return_, 1) := gd_cX1_requireCell_03_58 (19, .return_, 1) (List.mem_of_getElem? (i := 10) rfl)
def gl_cX1_requireWheel_03_59 : List (Nat × Instr × Nat) := [(0, .iload_n 0, 1), (1, .ifCond .lt 8, 3), (4, .iload_n 0, 1), (5, .iconst 3, 1), (6, .if_icmp .lt 13, 3), (9, .new 232, 3), (12, .dup, 1), (13, .ldc 239, 2), (15, .invokespecial 236, 3), (18, .athrow, 1), (19, .return_, 1)]
theorem gd_cX1_requireWheel_03_59 : ∀ q ∈ gl_cX1_requireWheel_03_59, decode cX1_requireWheel q.1 = .ok q.2 := fdk_of 0 (by decide +kernel)
theorem dX1_requireWheel_0 : decode cX1_requireWheel 0 = .ok (.iload_n 0, 1) := gd_cX1_requireWheel_03_59 (0, .iload_n 0, 1) (List.mem_of_getElem? (i := 0) rfl)
theorem dX1_requireWheel_1 : decode cX1_requireWheel 1 = .ok (.ifCond .lt 8, 3) := gd_cX1_requireWheel_03_59 (1, .ifCond .lt 8, 3) (List.mem_of_getElem? (i := 1) rfl)
theorem dX1_requireWheel_4 : decode cX1_requireWheel 4 = .ok (.iload_n 0, 1) := gd_cX1_requireWheel_03_59 (4, .iload_n 0, 1) (List.mem_of_getElem? (i := 2) rfl)
theorem dX1_requireWheel_5 : decode cX1_requireWheel 5 = .ok (.iconst 3, 1) := gd_cX1_requireWheel_03_59 (5, .iconst 3, 1) (List.mem_of_getElem? (i := 3) rfl)
theorem dX1_requireWheel_6 : decode cX1_requireWheel 6 = .ok (.if_icmp .lt 13, 3) := gd_cX1_requireWheel_03_59 (6, .if_icmp .lt 13, 3) (List.mem_of_getElem? (i := 4) rfl)
theorem dX1_requireWheel_9 : decode cX1_requireWheel 9 = .ok (.new 232, 3) := gd_cX1_requireWheel_03_59 (9, .new 232, 3) (List.mem_of_getElem? (i := 5) rfl)
theorem dX1_requireWheel_12 : decode cX1_requireWheel 12 = .ok (.dup, 1) := gd_cX1_requireWheel_03_59 (12, .dup, 1) (List.mem_of_getElem? (i := 6) rfl)
theorem dX1_requireWheel_13 : decode cX1_requireWheel 13 = .ok (.ldc 239, 2) := gd_cX1_requireWheel_03_59 (13, .ldc 239, 2) (List.mem_of_getElem? (i := 7) rfl)
theorem dX1_requireWheel_15 : decode cX1_requireWheel 15 = .ok (.invokespecial 236, 3) := gd_cX1_requireWheel_03_59 (15, .invokespecial 236, 3) (List.mem_of_getElem? (i := 8) rfl)
theorem dX1_requireWheel_18 : decode cX1_requireWheel 18 = .ok (.athrow, 1) := gd_cX1_requireWheel_03_59 (18, .athrow, 1) (List.mem_of_getElem? (i := 9) rfl)
theorem dX1_requireWheel_19 : decode cX1_requireWheel 19 = .ok (.return_, 1) := gd_cX1_requireWheel_03_59 (19, .return_, 1) (List.mem_of_getElem? (i := 10) rfl)
def gl_cX1_requireBetween_03_60 : List (Nat × Instr × Nat) := [(0, .iload_n 0, 1), (1, .i2l, 1), (2, .lload_n 1, 1), (3, .lcmp, 1), (4, .ifCond .lt 10, 3), (7, .iload_n 0, 1), (8, .i2l, 1), (9, .lload_n 3, 1), (10, .lcmp, 1), (11, .ifCond .le 13, 3), (14, .new 241, 3), (17, .dup, 1), (18, .ldc 243, 2), (20, .invokespecial 245, 3), (23, .athrow, 1), (24, .return_, 1)]
theorem gd_cX1_requireBetween_03_60 : ∀ q ∈ gl_cX1_requireBetween_03_60, decode cX1_requireBetween q.1 = .ok q.2 := fdk_of 0 (by decide +kernel)
theorem dX1_requireBetween_0 : decode cX1_requireBetween 0 = .ok (.iload_n 0, 1) := gd_cX1_requireBetween_03_60 (0, .iload_n 0, 1) (List.mem_of_getElem? (i := 0) rfl)
theorem dX1_requireBetween_1 : decode cX1_requireBetween 1 = .ok (.i2l, 1) := gd_cX1_requireBetween_03_60 (1, .i2l, 1) (List.mem_of_getElem? (i := 1) rfl)
theorem dX1_requireBetween_2 : decode cX1_requireBetween 2 = .ok (.lload_n 1, 1) := gd_cX1_requireBetween_03_60 (2, .lload_n 1, 1) (List.mem_of_getElem? (i := 2) rfl)
theorem dX1_requireBetween_3 : decode cX1_requireBetween 3 = .ok (.lcmp, 1) := gd_cX1_requireBetween_03_60 (3, .lcmp, 1) (List.mem_of_getElem? (i := 3) rfl)
theorem dX1_requireBetween_4 : decode cX1_requireBetween 4 = .ok (.ifCond .lt 10, 3) := gd_cX1_requireBetween_03_60 (4, .ifCond .lt 10, 3) (List.mem_of_getElem? (i := 4) rfl)
theorem dX1_requireBetween_7 : decode cX1_requireBetween 7 = .ok (.iload_n 0, 1) := gd_cX1_requireBetween_03_60 (7, .iload_n 0, 1) (List.mem_of_getElem? (i := 5) rfl)
theorem dX1_requireBetween_8 : decode cX1_requireBetween 8 = .ok (.i2l, 1) := gd_cX1_requireBetween_03_60 (8, .i2l, 1) (List.mem_of_getElem? (i := 6) rfl)
theorem dX1_requireBetween_9 : decode cX1_requireBetween 9 = .ok (.lload_n 3, 1) := gd_cX1_requireBetween_03_60 (9, .lload_n 3, 1) (List.mem_of_getElem? (i := 7) rfl)
theorem dX1_requireBetween_10 : decode cX1_requireBetween 10 = .ok (.lcmp, 1) := gd_cX1_requireBetween_03_60 (10, .lcmp, 1) (List.mem_of_getElem? (i := 8) rfl)
theorem dX1_requireBetween_11 : decode cX1_requireBetween 11 = .ok (.ifCond .le 13, 3) := gd_cX1_requireBetween_03_60 (11, .ifCond .le 13, 3) (List.mem_of_getElem? (i := 9) rfl)
theorem dX1_requireBetween_14 : decode cX1_requireBetween 14 = .ok (.new 241, 3) := gd_cX1_requireBetween_03_60 (14, .new 241, 3) (List.mem_of_getElem? (i := 10) rfl)
theorem dX1_requireBetween_17 : decode cX1_requireBetween 17 = .ok (.dup, 1) := gd_cX1_requireBetween_03_60 (17, .dup, 1) (List.mem_of_getElem? (i := 11) rfl)
theorem dX1_requireBetween_18 : decode cX1_requireBetween 18 = .ok (.ldc 243, 2) := gd_cX1_requireBetween_03_60 (18, .ldc 243, 2) (List.mem_of_getElem? (i := 12) rfl)
theorem dX1_requireBetween_20 : decode cX1_requireBetween 20 = .ok (.invokespecial 245, 3) := gd_cX1_requireBetween_03_60 (20, .invokespecial 245, 3) (List.mem_of_getElem? (i := 13) rfl)
theorem dX1_requireBetween_23 : decode cX1_requireBetween 23 = .ok (.athrow, 1) := gd_cX1_requireBetween_03_60 (23, .athrow, 1) (List.mem_of_getElem? (i := 14) rfl)
theorem dX1_requireBetween_24 : decode cX1_requireBetween 24 = .ok (.return_, 1) := gd_cX1_requireBetween_03_60 (24, .return_, 1) (List.mem_of_getElem? (i := 15) rfl)
def gl_cX1_requireWay_03_61 : List (Nat × Instr × Nat) := [(0, .iload_n 0, 1), (1, .lconst 0, 1), (2, .ldc2_w 246, 3), (5, .invokestatic 49, 3), (8, .return_, 1)]
theorem gd_cX1_requireWay_03_61 : ∀ q ∈ gl_cX1_requireWay_03_61, decode cX1_requireWay q.1 = .ok q.2 := fdk_of 0 (by decide +kernel)
theorem dX1_requireWay_0 : decode cX1_requireWay 0 = .ok (.iload_n 0, 1) := gd_cX1_requireWay_03_61 (0, .iload_n 0, 1) (List.mem_of_getElem? (i := 0) rfl)
theorem dX1_requireWay_1 : decode cX1_requireWay 1 = .ok (.lconst 0, 1) := gd_cX1_requireWay_03_61 (1, .lconst 0, 1) (List.mem_of_getElem? (i := 1) rfl)
theorem dX1_requireWay_2 : decode cX1_requireWay 2 = .ok (.ldc2_w 246, 3) := gd_cX1_requireWay_03_61 (2, .ldc2_w 246, 3) (List.mem_of_getElem? (i := 2) rfl)
theorem dX1_requireWay_5 : decode cX1_requireWay 5 = .ok (.invokestatic 49, 3) := gd_cX1_requireWay_03_61 (5, .invokestatic 49, 3) (List.mem_of_getElem? (i := 3) rfl)
theorem dX1_requireWay_8 : decode cX1_requireWay 8 = .ok (.return_, 1) := gd_cX1_requireWay_03_61 (8, .return_, 1) (List.mem_of_getElem? (i := 4) rfl)
def gl_cX1_requireBottom_03_62 : List (Nat × Instr × Nat) := [(0, .iload_n 0, 1), (1, .lconst 1, 1), (2, .ldc2_w 90, 3), (5, .invokestatic 49, 3), (8, .iload_n 0, 1), (9, .iconst 2, 1), (10, .irem, 1), (11, .ifCond .eq 9, 3), (14, .iload_n 0, 1), (15, .iconst 5, 1), (16, .irem, 1), (17, .ifCond .ne 13, 3), (20, .new 241, 3), (23, .dup, 1), (24, .ldc 248, 2), (26, .invokespecial 245, 3), (29, .athrow, 1), (30, .return_, 1)]
theorem gd_cX1_requireBottom_03_62 : ∀ q ∈ gl_cX1_requireBottom_03_62, decode cX1_requireBottom q.1 = .ok q.2 := fdk_of 0 (by decide +kernel)
theorem dX1_requireBottom_0 : decode cX1_requireBottom 0 = .ok (.iload_n 0, 1) := gd_cX1_requireBottom_03_62 (0, .iload_n 0, 1) (List.mem_of_getElem? (i := 0) rfl)
theorem dX1_requireBottom_1 : decode cX1_requireBottom 1 = .ok (.lconst 1, 1) := gd_cX1_requireBottom_03_62 (1, .lconst 1, 1) (List.mem_of_getElem? (i := 1) rfl)
theorem dX1_requireBottom_2 : decode cX1_requireBottom 2 = .ok (.ldc2_w 90, 3) := gd_cX1_requireBottom_03_62 (2, .ldc2_w 90, 3) (List.mem_of_getElem? (i := 2) rfl)
theorem dX1_requireBottom_5 : decode cX1_requireBottom 5 = .ok (.invokestatic 49, 3) := gd_cX1_requireBottom_03_62 (5, .invokestatic 49, 3) (List.mem_of_getElem? (i := 3) rfl)
theorem dX1_requireBottom_8 : decode cX1_requireBottom 8 = .ok (.iload_n 0, 1) := gd_cX1_requireBottom_03_62 (8, .iload_n 0, 1) (List.mem_of_getElem? (i := 4) rfl)
theorem dX1_requireBottom_9 : decode cX1_requireBottom 9 = .ok (.iconst 2, 1) := gd_cX1_requireBottom_03_62 (9, .iconst 2, 1) (List.mem_of_getElem? (i := 5) rfl)
theorem dX1_requireBottom_10 : decode cX1_requireBottom 10 = .ok (.irem, 1) := gd_cX1_requireBottom_03_62 (10, .irem, 1) (List.mem_of_getElem? (i := 6) rfl)
theorem dX1_requireBottom_11 : decode cX1_requireBottom 11 = .ok (.ifCond .eq 9, 3) := gd_cX1_requireBottom_03_62 (11, .ifCond .eq 9, 3) (List.mem_of_getElem? (i := 7) rfl)
theorem dX1_requireBottom_14 : decode cX1_requireBottom 14 = .ok (.iload_n 0, 1) := gd_cX1_requireBottom_03_62 (14, .iload_n 0, 1) (List.mem_of_getElem? (i := 8) rfl)
theorem dX1_requireBottom_15 : decode cX1_requireBottom 15 = .ok (.iconst 5, 1) := gd_cX1_requireBottom_03_62 (15, .iconst 5, 1) (List.mem_of_getElem? (i := 9) rfl)
theorem dX1_requireBottom_16 : decode cX1_requireBottom 16 = .ok (.irem, 1) := gd_cX1_requireBottom_03_62 (16, .irem, 1) (List.mem_of_getElem? (i := 10) rfl)
theorem dX1_requireBottom_17 : decode cX1_requireBottom 17 = .ok (.ifCond .ne 13, 3) := gd_cX1_requireBottom_03_62 (17, .ifCond .ne 13, 3) (List.mem_of_getElem? (i := 11) rfl)
theorem dX1_requireBottom_20 : decode cX1_requireBottom 20 = .ok (.new 241, 3) := gd_cX1_requireBottom_03_62 (20, .new 241, 3) (List.mem_of_getElem? (i := 12) rfl)
theorem dX1_requireBottom_23 : decode cX1_requireBottom 23 = .ok (.dup, 1) := gd_cX1_requireBottom_03_62 (23, .dup, 1) (List.mem_of_getElem? (i := 13) rfl)
theorem dX1_requireBottom_24 : decode cX1_requireBottom 24 = .ok (.ldc 248, 2) := gd_cX1_requireBottom_03_62 (24, .ldc 248, 2) (List.mem_of_getElem? (i := 14) rfl)
theorem dX1_requireBottom_26 : decode cX1_requireBottom 26 = .ok (.invokespecial 245, 3) := gd_cX1_requireBottom_03_62 (26, .invokespecial 245, 3) (List.mem_of_getElem? (i := 15) rfl)
theorem dX1_requireBottom_29 : decode cX1_requireBottom 29 = .ok (.athrow, 1) := gd_cX1_requireBottom_03_62 (29, .athrow, 1) (List.mem_of_getElem? (i := 16) rfl)
theorem dX1_requireBottom_30 : decode cX1_requireBottom 30 = .ok (.return_, 1) := gd_cX1_requireBottom_03_62 (30, .return_, 1) (List.mem_of_getElem? (i := 17) rfl)
def gl_cX1_fits_03_63 : List (Nat × Instr × Nat) := [(0, .lload_n 0, 1), (1, .ldc2_w 45, 3), (4, .lcmp, 1), (5, .ifCond .lt 24, 3), (8, .lload_n 0, 1), (9, .ldc2_w 47, 3), (12, .lcmp, 1), (13, .ifCond .gt 16, 3), (16, .iload_n 2, 1), (17, .ifCond .lt 12, 3), (20, .iload_n 2, 1), (21, .iconst 3, 1), (22, .if_icmp .gt 7, 3), (25, .iconst 1, 1), (26, .goto 4, 3), (29, .iconst 0, 1), (30, .ireturn, 1)]
theorem gd_cX1_fits_03_63 : ∀ q ∈ gl_cX1_fits_03_63, decode cX1_fits q.1 = .ok q.2 := fdk_of 0 (by decide +kernel)
theorem dX1_fits_0 : decode cX1_fits 0 = .ok (.lload_n 0, 1) := gd_cX1_fits_03_63 (0, .lload_n 0, 1) (List.mem_of_getElem? (i := 0) rfl)
theorem dX1_fits_1 : decode cX1_fits 1 = .ok (.ldc2_w 45, 3) := gd_cX1_fits_03_63 (1, .ldc2_w 45, 3) (List.mem_of_getElem? (i := 1) rfl)
theorem dX1_fits_4 : decode cX1_fits 4 = .ok (.lcmp, 1) := gd_cX1_fits_03_63 (4, .lcmp, 1) (List.mem_of_getElem? (i := 2) rfl)
theorem dX1_fits_5 : decode cX1_fits 5 = .ok (.ifCond .lt 24, 3) := gd_cX1_fits_03_63 (5, .ifCond .lt 24, 3) (List.mem_of_getElem? (i := 3) rfl)
theorem dX1_fits_8 : decode cX1_fits 8 = .ok (.lload_n 0, 1) := gd_cX1_fits_03_63 (8, .lload_n 0, 1) (List.mem_of_getElem? (i := 4) rfl)
theorem dX1_fits_9 : decode cX1_fits 9 = .ok (.ldc2_w 47, 3) := gd_cX1_fits_03_63 (9, .ldc2_w 47, 3) (List.mem_of_getElem? (i := 5) rfl)
theorem dX1_fits_12 : decode cX1_fits 12 = .ok (.lcmp, 1) := gd_cX1_fits_03_63 (12, .lcmp, 1) (List.mem_of_getElem? (i := 6) rfl)
theorem dX1_fits_13 : decode cX1_fits 13 = .ok (.ifCond .gt 16, 3) := gd_cX1_fits_03_63 (13, .ifCond .gt 16, 3) (List.mem_of_getElem? (i := 7) rfl)
theorem dX1_fits_16 : decode cX1_fits 16 = .ok (.iload_n 2, 1) := gd_cX1_fits_03_63 (16, .iload_n 2, 1) (List.mem_of_getElem? (i := 8) rfl)
theorem dX1_fits_17 : decode cX1_fits 17 = .ok (.ifCond .lt 12, 3) := gd_cX1_fits_03_63 (17, .ifCond .lt 12, 3) (List.mem_of_getElem? (i := 9) rfl)
theorem dX1_fits_20 : decode cX1_fits 20 = .ok (.iload_n 2, 1) := gd_cX1_fits_03_63 (20, .iload_n 2, 1) (List.mem_of_getElem? (i := 10) rfl)
theorem dX1_fits_21 : decode cX1_fits 21 = .ok (.iconst 3, 1) := gd_cX1_fits_03_63 (21, .iconst 3, 1) (List.mem_of_getElem? (i := 11) rfl)
theorem dX1_fits_22 : decode cX1_fits 22 = .ok (.if_icmp .gt 7, 3) := gd_cX1_fits_03_63 (22, .if_icmp .gt 7, 3) (List.mem_of_getElem? (i := 12) rfl)
theorem dX1_fits_25 : decode cX1_fits 25 = .ok (.iconst 1, 1) := gd_cX1_fits_03_63 (25, .iconst 1, 1) (List.mem_of_getElem? (i := 13) rfl)
theorem dX1_fits_26 : decode cX1_fits 26 = .ok (.goto 4, 3) := gd_cX1_fits_03_63 (26, .goto 4, 3) (List.mem_of_getElem? (i := 14) rfl)
theorem dX1_fits_29 : decode cX1_fits 29 = .ok (.iconst 0, 1) := gd_cX1_fits_03_63 (29, .iconst 0, 1) (List.mem_of_getElem? (i := 15) rfl)
theorem dX1_fits_30 : decode cX1_fits 30 = .ok (.ireturn, 1) := gd_cX1_fits_03_63 (30, .ireturn, 1) (List.mem_of_getElem? (i := 16) rfl)
def gl_cX1_bring_03_64 : List (Nat × Instr × Nat) := [(0, .lload_n 2, 1), (1, .iload 4, 2), (3, .invokestatic 198, 3), (6, .ifCond .ne 8, 3), (9, .aload_n 0, 1), (10, .invokevirtual 80, 3), (13, .ireturn, 1), (14, .aload_n 0, 1), (15, .getfield 28, 3), (18, .iconst 0, 1), (19, .dup2, 1), (20, .iaload, 1), (21, .iconst 1, 1), (22, .iadd, 1), (23, .iastore, 1), (24, .aload_n 0, 1), (25, .getfield 9, 3), (28, .iload_n 1, 1), (29, .iaload, 1), (30, .i2l, 1), (31, .lload_n 2, 1), (32, .lcmp, 1), (33, .ifCond .ne 16, 3), (36, .aload_n 0, 1), (37, .getfield 13, 3), (40, .iload_n 1, 1), (41, .iaload, 1), (42, .iload 4, 2), (44, .if_icmp .ne 5, 3), (47, .iconst 0, 1), (48, .ireturn, 1), (49, .aload_n 0, 1), (50, .getfield 9, 3), (53, .iload_n 1, 1), (54, .lload_n 2, 1), (55, .l2i, 1), (56, .iastore, 1), (57, .aload_n 0, 1), (58, .getfield 13, 3), (61, .iload_n 1, 1), (62, .iload 4, 2), (64, .iastore, 1), (65, .iconst 1, 1), (66, .ireturn, 1)]
theorem gd_cX1_bring_03_64 : ∀ q ∈ gl_cX1_bring_03_64, decode cX1_bring q.1 = .ok q.2 := fdk_of 0 (by decide +kernel)
theorem dX1_bring_0 : decode cX1_bring 0 = .ok (.lload_n 2, 1) := gd_cX1_bring_03_64 (0, .lload_n 2, 1) (List.mem_of_getElem? (i := 0) rfl)
theorem dX1_bring_1 : decode cX1_bring 1 = .ok (.iload 4, 2) := gd_cX1_bring_03_64 (1, .iload 4, 2) (List.mem_of_getElem? (i := 1) rfl)
theorem dX1_bring_3 : decode cX1_bring 3 = .ok (.invokestatic 198, 3) := gd_cX1_bring_03_64 (3, .invokestatic 198, 3) (List.mem_of_getElem? (i := 2) rfl)
theorem dX1_bring_6 : decode cX1_bring 6 = .ok (.ifCond .ne 8, 3) := gd_cX1_bring_03_64 (6, .ifCond .ne 8, 3) (List.mem_of_getElem? (i := 3) rfl)
theorem dX1_bring_9 : decode cX1_bring 9 = .ok (.aload_n 0, 1) := gd_cX1_bring_03_64 (9, .aload_n 0, 1) (List.mem_of_getElem? (i := 4) rfl)
theorem dX1_bring_10 : decode cX1_bring 10 = .ok (.invokevirtual 80, 3) := gd_cX1_bring_03_64 (10, .invokevirtual 80, 3) (List.mem_of_getElem? (i := 5) rfl)
theorem dX1_bring_13 : decode cX1_bring 13 = .ok (.ireturn, 1) := gd_cX1_bring_03_64 (13, .ireturn, 1) (List.mem_of_getElem? (i := 6) rfl)
theorem dX1_bring_14 : decode cX1_bring 14 = .ok (.aload_n 0, 1) := gd_cX1_bring_03_64 (14, .aload_n 0, 1) (List.mem_of_getElem? (i := 7) rfl)
theorem dX1_bring_15 : decode cX1_bring 15 = .ok (.getfield 28, 3) := gd_cX1_bring_03_64 (15, .getfield 28, 3) (List.mem_of_getElem? (i := 8) rfl)
theorem dX1_bring_18 : decode cX1_bring 18 = .ok (.iconst 0, 1) := gd_cX1_bring_03_64 (18, .iconst 0, 1) (List.mem_of_getElem? (i := 9) rfl)
theorem dX1_bring_19 : decode cX1_bring 19 = .ok (.dup2, 1) := gd_cX1_bring_03_64 (19, .dup2, 1) (List.mem_of_getElem? (i := 10) rfl)
theorem dX1_bring_20 : decode cX1_bring 20 = .ok (.iaload, 1) := gd_cX1_bring_03_64 (20, .iaload, 1) (List.mem_of_getElem? (i := 11) rfl)
theorem dX1_bring_21 : decode cX1_bring 21 = .ok (.iconst 1, 1) := gd_cX1_bring_03_64 (21, .iconst 1, 1) (List.mem_of_getElem? (i := 12) rfl)
theorem dX1_bring_22 : decode cX1_bring 22 = .ok (.iadd, 1) := gd_cX1_bring_03_64 (22, .iadd, 1) (List.mem_of_getElem? (i := 13) rfl)
theorem dX1_bring_23 : decode cX1_bring 23 = .ok (.iastore, 1) := gd_cX1_bring_03_64 (23, .iastore, 1) (List.mem_of_getElem? (i := 14) rfl)
theorem dX1_bring_24 : decode cX1_bring 24 = .ok (.aload_n 0, 1) := gd_cX1_bring_03_64 (24, .aload_n 0, 1) (List.mem_of_getElem? (i := 15) rfl)
theorem dX1_bring_25 : decode cX1_bring 25 = .ok (.getfield 9, 3) := gd_cX1_bring_03_64 (25, .getfield 9, 3) (List.mem_of_getElem? (i := 16) rfl)
theorem dX1_bring_28 : decode cX1_bring 28 = .ok (.iload_n 1, 1) := gd_cX1_bring_03_64 (28, .iload_n 1, 1) (List.mem_of_getElem? (i := 17) rfl)
theorem dX1_bring_29 : decode cX1_bring 29 = .ok (.iaload, 1) := gd_cX1_bring_03_64 (29, .iaload, 1) (List.mem_of_getElem? (i := 18) rfl)
theorem dX1_bring_30 : decode cX1_bring 30 = .ok (.i2l, 1) := gd_cX1_bring_03_64 (30, .i2l, 1) (List.mem_of_getElem? (i := 19) rfl)
theorem dX1_bring_31 : decode cX1_bring 31 = .ok (.lload_n 2, 1) := gd_cX1_bring_03_64 (31, .lload_n 2, 1) (List.mem_of_getElem? (i := 20) rfl)
theorem dX1_bring_32 : decode cX1_bring 32 = .ok (.lcmp, 1) := gd_cX1_bring_03_64 (32, .lcmp, 1) (List.mem_of_getElem? (i := 21) rfl)
theorem dX1_bring_33 : decode cX1_bring 33 = .ok (.ifCond .ne 16, 3) := gd_cX1_bring_03_64 (33, .ifCond .ne 16, 3) (List.mem_of_getElem? (i := 22) rfl)
theorem dX1_bring_36 : decode cX1_bring 36 = .ok (.aload_n 0, 1) := gd_cX1_bring_03_64 (36, .aload_n 0, 1) (List.mem_of_getElem? (i := 23) rfl)
theorem dX1_bring_37 : decode cX1_bring 37 = .ok (.getfield 13, 3) := gd_cX1_bring_03_64 (37, .getfield 13, 3) (List.mem_of_getElem? (i := 24) rfl)
theorem dX1_bring_40 : decode cX1_bring 40 = .ok (.iload_n 1, 1) := gd_cX1_bring_03_64 (40, .iload_n 1, 1) (List.mem_of_getElem? (i := 25) rfl)
theorem dX1_bring_41 : decode cX1_bring 41 = .ok (.iaload, 1) := gd_cX1_bring_03_64 (41, .iaload, 1) (List.mem_of_getElem? (i := 26) rfl)
theorem dX1_bring_42 : decode cX1_bring 42 = .ok (.iload 4, 2) := gd_cX1_bring_03_64 (42, .iload 4, 2) (List.mem_of_getElem? (i := 27) rfl)
theorem dX1_bring_44 : decode cX1_bring 44 = .ok (.if_icmp .ne 5, 3) := gd_cX1_bring_03_64 (44, .if_icmp .ne 5, 3) (List.mem_of_getElem? (i := 28) rfl)
theorem dX1_bring_47 : decode cX1_bring 47 = .ok (.iconst 0, 1) := gd_cX1_bring_03_64 (47, .iconst 0, 1) (List.mem_of_getElem? (i := 29) rfl)
theorem dX1_bring_48 : decode cX1_bring 48 = .ok (.ireturn, 1) := gd_cX1_bring_03_64 (48, .ireturn, 1) (List.mem_of_getElem? (i := 30) rfl)
theorem dX1_bring_49 : decode cX1_bring 49 = .ok (.aload_n 0, 1) := gd_cX1_bring_03_64 (49, .aload_n 0, 1) (List.mem_of_getElem? (i := 31) rfl)
theorem dX1_bring_50 : decode cX1_bring 50 = .ok (.getfield 9, 3) := gd_cX1_bring_03_64 (50, .getfield 9, 3) (List.mem_of_getElem? (i := 32) rfl)
theorem dX1_bring_53 : decode cX1_bring 53 = .ok (.iload_n 1, 1) := gd_cX1_bring_03_64 (53, .iload_n 1, 1) (List.mem_of_getElem? (i := 33) rfl)
theorem dX1_bring_54 : decode cX1_bring 54 = .ok (.lload_n 2, 1) := gd_cX1_bring_03_64 (54, .lload_n 2, 1) (List.mem_of_getElem? (i := 34) rfl)
theorem dX1_bring_55 : decode cX1_bring 55 = .ok (.l2i, 1) := gd_cX1_bring_03_64 (55, .l2i, 1) (List.mem_of_getElem? (i := 35) rfl)
theorem dX1_bring_56 : decode cX1_bring 56 = .ok (.iastore, 1) := gd_cX1_bring_03_64 (56, .iastore, 1) (List.mem_of_getElem? (i := 36) rfl)
theorem dX1_bring_57 : decode cX1_bring 57 = .ok (.aload_n 0, 1) := gd_cX1_bring_03_64 (57, .aload_n 0, 1) (List.mem_of_getElem? (i := 37) rfl)
theorem dX1_bring_58 : decode cX1_bring 58 = .ok (.getfield 13, 3) := gd_cX1_bring_03_64 (58, .getfield 13, 3) (List.mem_of_getElem? (i := 38) rfl)
theorem dX1_bring_61 : decode cX1_bring 61 = .ok (.iload_n 1, 1) := gd_cX1_bring_03_64 (61, .iload_n 1, 1) (List.mem_of_getElem? (i := 39) rfl)
theorem dX1_bring_62 : decode cX1_bring 62 = .ok (.iload 4, 2) := gd_cX1_bring_03_64 (62, .iload 4, 2) (List.mem_of_getElem? (i := 40) rfl)
theorem dX1_bring_64 : decode cX1_bring 64 = .ok (.iastore, 1) := gd_cX1_bring_03_64 (64, .iastore, 1) (List.mem_of_getElem? (i := 41) rfl)
theorem dX1_bring_65 : decode cX1_bring 65 = .ok (.iconst 1, 1) := gd_cX1_bring_03_64 (65, .iconst 1, 1) (List.mem_of_getElem? (i := 42) rfl)
theorem dX1_bring_66 : decode cX1_bring 66 = .ok (.ireturn, 1) := gd_cX1_bring_03_64 (66, .ireturn, 1) (List.mem_of_getElem? (i := 43) rfl)
def gl_cX1_bringAt_03_65 : List (Nat × Instr × Nat) := [(0, .iload 4, 2), (2, .ifCond .ge 20, 3), (5, .aload_n 0, 1), (6, .iload_n 1, 1), (7, .lload_n 2, 1), (8, .iload 4, 2), (10, .ineg, 1), (11, .invokestatic 59, 3), (14, .lmul, 1), (15, .iconst 0, 1), (16, .invokevirtual 55, 3), (19, .goto 11, 3), (22, .aload_n 0, 1), (23, .iload_n 1, 1), (24, .lload_n 2, 1), (25, .iload 4, 2), (27, .invokevirtual 55, 3), (30, .ireturn, 1)]
theorem gd_cX1_bringAt_03_65 : ∀ q ∈ gl_cX1_bringAt_03_65, decode cX1_bringAt q.1 = .ok q.2 := fdk_of 0 (by decide +kernel)
theorem dX1_bringAt_0 : decode cX1_bringAt 0 = .ok (.iload 4, 2) := gd_cX1_bringAt_03_65 (0, .iload 4, 2) (List.mem_of_getElem? (i := 0) rfl)
theorem dX1_bringAt_2 : decode cX1_bringAt 2 = .ok (.ifCond .ge 20, 3) := gd_cX1_bringAt_03_65 (2, .ifCond .ge 20, 3) (List.mem_of_getElem? (i := 1) rfl)
theorem dX1_bringAt_5 : decode cX1_bringAt 5 = .ok (.aload_n 0, 1) := gd_cX1_bringAt_03_65 (5, .aload_n 0, 1) (List.mem_of_getElem? (i := 2) rfl)
theorem dX1_bringAt_6 : decode cX1_bringAt 6 = .ok (.iload_n 1, 1) := gd_cX1_bringAt_03_65 (6, .iload_n 1, 1) (List.mem_of_getElem? (i := 3) rfl)
theorem dX1_bringAt_7 : decode cX1_bringAt 7 = .ok (.lload_n 2, 1) := gd_cX1_bringAt_03_65 (7, .lload_n 2, 1) (List.mem_of_getElem? (i := 4) rfl)
theorem dX1_bringAt_8 : decode cX1_bringAt 8 = .ok (.iload 4, 2) := gd_cX1_bringAt_03_65 (8, .iload 4, 2) (List.mem_of_getElem? (i := 5) rfl)
theorem dX1_bringAt_10 : decode cX1_bringAt 10 = .ok (.ineg, 1) := gd_cX1_bringAt_03_65 (10, .ineg, 1) (List.mem_of_getElem? (i := 6) rfl)
theorem dX1_bringAt_11 : decode cX1_bringAt 11 = .ok (.invokestatic 59, 3) := gd_cX1_bringAt_03_65 (11, .invokestatic 59, 3) (List.mem_of_getElem? (i := 7) rfl)
theorem dX1_bringAt_14 : decode cX1_bringAt 14 = .ok (.lmul, 1) := gd_cX1_bringAt_03_65 (14, .lmul, 1) (List.mem_of_getElem? (i := 8) rfl)
theorem dX1_bringAt_15 : decode cX1_bringAt 15 = .ok (.iconst 0, 1) := gd_cX1_bringAt_03_65 (15, .iconst 0, 1) (List.mem_of_getElem? (i := 9) rfl)
theorem dX1_bringAt_16 : decode cX1_bringAt 16 = .ok (.invokevirtual 55, 3) := gd_cX1_bringAt_03_65 (16, .invokevirtual 55, 3) (List.mem_of_getElem? (i := 10) rfl)
theorem dX1_bringAt_19 : decode cX1_bringAt 19 = .ok (.goto 11, 3) := gd_cX1_bringAt_03_65 (19, .goto 11, 3) (List.mem_of_getElem? (i := 11) rfl)
theorem dX1_bringAt_22 : decode cX1_bringAt 22 = .ok (.aload_n 0, 1) := gd_cX1_bringAt_03_65 (22, .aload_n 0, 1) (List.mem_of_getElem? (i := 12) rfl)
theorem dX1_bringAt_23 : decode cX1_bringAt 23 = .ok (.iload_n 1, 1) := gd_cX1_bringAt_03_65 (23, .iload_n 1, 1) (List.mem_of_getElem? (i := 13) rfl)
theorem dX1_bringAt_24 : decode cX1_bringAt 24 = .ok (.lload_n 2, 1) := gd_cX1_bringAt_03_65 (24, .lload_n 2, 1) (List.mem_of_getElem? (i := 14) rfl)
theorem dX1_bringAt_25 : decode cX1_bringAt 25 = .ok (.iload 4, 2) := gd_cX1_bringAt_03_65 (25, .iload 4, 2) (List.mem_of_getElem? (i := 15) rfl)
theorem dX1_bringAt_27 : decode cX1_bringAt 27 = .ok (.invokevirtual 55, 3) := gd_cX1_bringAt_03_65 (27, .invokevirtual 55, 3) (List.mem_of_getElem? (i := 16) rfl)
theorem dX1_bringAt_30 : decode cX1_bringAt 30 = .ok (.ireturn, 1) := gd_cX1_bringAt_03_65 (30, .ireturn, 1) (List.mem_of_getElem? (i := 17) rfl)
def gl_cX1_decline_03_66 : List (Nat × Instr × Nat) := [(0, .aload_n 0, 1), (1, .getfield 28, 3), (4, .iconst 2, 1), (5, .dup2, 1), (6, .iaload, 1), (7, .iconst 1, 1), (8, .iadd, 1), (9, .iastore, 1), (10, .bipush (-9), 2), (12, .ireturn, 1)]
theorem gd_cX1_decline_03_66 : ∀ q ∈ gl_cX1_decline_03_66, decode cX1_decline q.1 = .ok q.2 := fdk_of 0 (by decide +kernel)
theorem dX1_decline_0 : decode cX1_decline 0 = .ok (.aload_n 0, 1) := gd_cX1_decline_03_66 (0, .aload_n 0, 1) (List.mem_of_getElem? (i := 0) rfl)
theorem dX1_decline_1 : decode cX1_decline 1 = .ok (.getfield 28, 3) := gd_cX1_decline_03_66 (1, .getfield 28, 3) (List.mem_of_getElem? (i := 1) rfl)
theorem dX1_decline_4 : decode cX1_decline 4 = .ok (.iconst 2, 1) := gd_cX1_decline_03_66 (4, .iconst 2, 1) (List.mem_of_getElem? (i := 2) rfl)
theorem dX1_decline_5 : decode cX1_decline 5 = .ok (.dup2, 1) := gd_cX1_decline_03_66 (5, .dup2, 1) (List.mem_of_getElem? (i := 3) rfl)
theorem dX1_decline_6 : decode cX1_decline 6 = .ok (.iaload, 1) := gd_cX1_decline_03_66 (6, .iaload, 1) (List.mem_of_getElem? (i := 4) rfl)
theorem dX1_decline_7 : decode cX1_decline 7 = .ok (.iconst 1, 1) := gd_cX1_decline_03_66 (7, .iconst 1, 1) (List.mem_of_getElem? (i := 5) rfl)
theorem dX1_decline_8 : decode cX1_decline 8 = .ok (.iadd, 1) := gd_cX1_decline_03_66 (8, .iadd, 1) (List.mem_of_getElem? (i := 6) rfl)
theorem dX1_decline_9 : decode cX1_decline 9 = .ok (.iastore, 1) := gd_cX1_decline_03_66 (9, .iastore, 1) (List.mem_of_getElem? (i := 7) rfl)
theorem dX1_decline_10 : decode cX1_decline 10 = .ok (.bipush (-9), 2) := gd_cX1_decline_03_66 (10, .bipush (-9), 2) (List.mem_of_getElem? (i := 8) rfl)
theorem dX1_decline_12 : decode cX1_decline 12 = .ok (.ireturn, 1) := gd_cX1_decline_03_66 (12, .ireturn, 1) (List.mem_of_getElem? (i := 9) rfl)
def gl_cX1_countAt_03_67 : List (Nat × Instr × Nat) := [(0, .aload_n 0, 1), (1, .getfield 9, 3), (4, .iload_n 1, 1), (5, .iaload, 1), (6, .i2l, 1), (7, .iload_n 2, 1), (8, .aload_n 0, 1), (9, .getfield 13, 3), (12, .iload_n 1, 1), (13, .iaload, 1), (14, .isub, 1), (15, .invokestatic 59, 3), (18, .lmul, 1), (19, .lreturn, 1)]
theorem gd_cX1_countAt_03_67 : ∀ q ∈ gl_cX1_countAt_03_67, decode cX1_countAt q.1 = .ok q.2 := fdk_of 0 (by decide +kernel)
theorem dX1_countAt_0 : decode cX1_countAt 0 = .ok (.aload_n 0, 1) := gd_cX1_countAt_03_67 (0, .aload_n 0, 1) (List.mem_of_getElem? (i := 0) rfl)
theorem dX1_countAt_1 : decode cX1_countAt 1 = .ok (.getfield 9, 3) := gd_cX1_countAt_03_67 (1, .getfield 9, 3) (List.mem_of_getElem? (i := 1) rfl)
theorem dX1_countAt_4 : decode cX1_countAt 4 = .ok (.iload_n 1, 1) := gd_cX1_countAt_03_67 (4, .iload_n 1, 1) (List.mem_of_getElem? (i := 2) rfl)
theorem dX1_countAt_5 : decode cX1_countAt 5 = .ok (.iaload, 1) := gd_cX1_countAt_03_67 (5, .iaload, 1) (List.mem_of_getElem? (i := 3) rfl)
theorem dX1_countAt_6 : decode cX1_countAt 6 = .ok (.i2l, 1) := gd_cX1_countAt_03_67 (6, .i2l, 1) (List.mem_of_getElem? (i := 4) rfl)
theorem dX1_countAt_7 : decode cX1_countAt 7 = .ok (.iload_n 2, 1) := gd_cX1_countAt_03_67 (7, .iload_n 2, 1) (List.mem_of_getElem? (i := 5) rfl)
theorem dX1_countAt_8 : decode cX1_countAt 8 = .ok (.aload_n 0, 1) := gd_cX1_countAt_03_67 (8, .aload_n 0, 1) (List.mem_of_getElem? (i := 6) rfl)
theorem dX1_countAt_9 : decode cX1_countAt 9 = .ok (.getfield 13, 3) := gd_cX1_countAt_03_67 (9, .getfield 13, 3) (List.mem_of_getElem? (i := 7) rfl)
theorem dX1_countAt_12 : decode cX1_countAt 12 = .ok (.iload_n 1, 1) := gd_cX1_countAt_03_67 (12, .iload_n 1, 1) (List.mem_of_getElem? (i := 8) rfl)
theorem dX1_countAt_13 : decode cX1_countAt 13 = .ok (.iaload, 1) := gd_cX1_countAt_03_67 (13, .iaload, 1) (List.mem_of_getElem? (i := 9) rfl)
theorem dX1_countAt_14 : decode cX1_countAt 14 = .ok (.isub, 1) := gd_cX1_countAt_03_67 (14, .isub, 1) (List.mem_of_getElem? (i := 10) rfl)
theorem dX1_countAt_15 : decode cX1_countAt 15 = .ok (.invokestatic 59, 3) := gd_cX1_countAt_03_67 (15, .invokestatic 59, 3) (List.mem_of_getElem? (i := 11) rfl)
theorem dX1_countAt_18 : decode cX1_countAt 18 = .ok (.lmul, 1) := gd_cX1_countAt_03_67 (18, .lmul, 1) (List.mem_of_getElem? (i := 12) rfl)
theorem dX1_countAt_19 : decode cX1_countAt 19 = .ok (.lreturn, 1) := gd_cX1_countAt_03_67 (19, .lreturn, 1) (List.mem_of_getElem? (i := 13) rfl)
def gl_cX1_orderOfCells_03_68 : List (Nat × Instr × Nat) := [(0, .aload_n 0, 1), (1, .iload_n 1, 1), (2, .iconst 3, 1), (3, .invokevirtual 73, 3), (6, .aload_n 0, 1), (7, .iload_n 2, 1), (8, .iconst 3, 1), (9, .invokevirtual 73, 3), (12, .lsub, 1), (13, .invokestatic 117, 3), (16, .ireturn, 1)]
theorem gd_cX1_orderOfCells_03_68 : ∀ q ∈ gl_cX1_orderOfCells_03_68, decode cX1_orderOfCells q.1 = .ok q.2 := fdk_of 0 (by decide +kernel)
theorem dX1_orderOfCells_0 : decode cX1_orderOfCells 0 = .ok (.aload_n 0, 1) := gd_cX1_orderOfCells_03_68 (0, .aload_n 0, 1) (List.mem_of_getElem? (i := 0) rfl)
theorem dX1_orderOfCells_1 : decode cX1_orderOfCells 1 = .ok (.iload_n 1, 1) := gd_cX1_orderOfCells_03_68 (1, .iload_n 1, 1) (List.mem_of_getElem? (i := 1) rfl)
theorem dX1_orderOfCells_2 : decode cX1_orderOfCells 2 = .ok (.iconst 3, 1) := gd_cX1_orderOfCells_03_68 (2, .iconst 3, 1) (List.mem_of_getElem? (i := 2) rfl)
theorem dX1_orderOfCells_3 : decode cX1_orderOfCells 3 = .ok (.invokevirtual 73, 3) := gd_cX1_orderOfCells_03_68 (3, .invokevirtual 73, 3) (List.mem_of_getElem? (i := 3) rfl)
theorem dX1_orderOfCells_6 : decode cX1_orderOfCells 6 = .ok (.aload_n 0, 1) := gd_cX1_orderOfCells_03_68 (6, .aload_n 0, 1) (List.mem_of_getElem? (i := 4) rfl)
theorem dX1_orderOfCells_7 : decode cX1_orderOfCells 7 = .ok (.iload_n 2, 1) := gd_cX1_orderOfCells_03_68 (7, .iload_n 2, 1) (List.mem_of_getElem? (i := 5) rfl)
theorem dX1_orderOfCells_8 : decode cX1_orderOfCells 8 = .ok (.iconst 3, 1) := gd_cX1_orderOfCells_03_68 (8, .iconst 3, 1) (List.mem_of_getElem? (i := 6) rfl)
theorem dX1_orderOfCells_9 : decode cX1_orderOfCells 9 = .ok (.invokevirtual 73, 3) := gd_cX1_orderOfCells_03_68 (9, .invokevirtual 73, 3) (List.mem_of_getElem? (i := 7) rfl)
theorem dX1_orderOfCells_12 : decode cX1_orderOfCells 12 = .ok (.lsub, 1) := gd_cX1_orderOfCells_03_68 (12, .lsub, 1) (List.mem_of_getElem? (i := 8) rfl)
theorem dX1_orderOfCells_13 : decode cX1_orderOfCells 13 = .ok (.invokestatic 117, 3) := gd_cX1_orderOfCells_03_68 (13, .invokestatic 117, 3) (List.mem_of_getElem? (i := 9) rfl)
theorem dX1_orderOfCells_16 : decode cX1_orderOfCells 16 = .ok (.ireturn, 1) := gd_cX1_orderOfCells_03_68 (16, .ireturn, 1) (List.mem_of_getElem? (i := 10) rfl)
def gl_cX1_areSame_03_69 : List (Nat × Instr × Nat) := [(0, .aload_n 0, 1), (1, .getfield 9, 3), (4, .iload_n 1, 1), (5, .iaload, 1), (6, .aload_n 0, 1), (7, .getfield 9, 3), (10, .iload_n 2, 1), (11, .iaload, 1), (12, .if_icmp .ne 22, 3), (15, .aload_n 0, 1), (16, .getfield 13, 3), (19, .iload_n 1, 1), (20, .iaload, 1), (21, .aload_n 0, 1), (22, .getfield 13, 3), (25, .iload_n 2, 1), (26, .iaload, 1), (27, .if_icmp .ne 7, 3), (30, .iconst 1, 1), (31, .goto 4, 3), (34, .iconst 0, 1), (35, .ireturn, 1)]
theorem gd_cX1_areSame_03_69 : ∀ q ∈ gl_cX1_areSame_03_69, decode cX1_areSame q.1 = .ok q.2 := fdk_of 0 (by decide +kernel)
theorem dX1_areSame_0 : decode cX1_areSame 0 = .ok (.aload_n 0, 1) := gd_cX1_areSame_03_69 (0, .aload_n 0, 1) (List.mem_of_getElem? (i := 0) rfl)
theorem dX1_areSame_1 : decode cX1_areSame 1 = .ok (.getfield 9, 3) := gd_cX1_areSame_03_69 (1, .getfield 9, 3) (List.mem_of_getElem? (i := 1) rfl)
theorem dX1_areSame_4 : decode cX1_areSame 4 = .ok (.iload_n 1, 1) := gd_cX1_areSame_03_69 (4, .iload_n 1, 1) (List.mem_of_getElem? (i := 2) rfl)
theorem dX1_areSame_5 : decode cX1_areSame 5 = .ok (.iaload, 1) := gd_cX1_areSame_03_69 (5, .iaload, 1) (List.mem_of_getElem? (i := 3) rfl)
theorem dX1_areSame_6 : decode cX1_areSame 6 = .ok (.aload_n 0, 1) := gd_cX1_areSame_03_69 (6, .aload_n 0, 1) (List.mem_of_getElem? (i := 4) rfl)
theorem dX1_areSame_7 : decode cX1_areSame 7 = .ok (.getfield 9, 3) := gd_cX1_areSame_03_69 (7, .getfield 9, 3) (List.mem_of_getElem? (i := 5) rfl)
theorem dX1_areSame_10 : decode cX1_areSame 10 = .ok (.iload_n 2, 1) := gd_cX1_areSame_03_69 (10, .iload_n 2, 1) (List.mem_of_getElem? (i := 6) rfl)
theorem dX1_areSame_11 : decode cX1_areSame 11 = .ok (.iaload, 1) := gd_cX1_areSame_03_69 (11, .iaload, 1) (List.mem_of_getElem? (i := 7) rfl)
theorem dX1_areSame_12 : decode cX1_areSame 12 = .ok (.if_icmp .ne 22, 3) := gd_cX1_areSame_03_69 (12, .if_icmp .ne 22, 3) (List.mem_of_getElem? (i := 8) rfl)
theorem dX1_areSame_15 : decode cX1_areSame 15 = .ok (.aload_n 0, 1) := gd_cX1_areSame_03_69 (15, .aload_n 0, 1) (List.mem_of_getElem? (i := 9) rfl)
theorem dX1_areSame_16 : decode cX1_areSame 16 = .ok (.getfield 13, 3) := gd_cX1_areSame_03_69 (16, .getfield 13, 3) (List.mem_of_getElem? (i := 10) rfl)
theorem dX1_areSame_19 : decode cX1_areSame 19 = .ok (.iload_n 1, 1) := gd_cX1_areSame_03_69 (19, .iload_n 1, 1) (List.mem_of_getElem? (i := 11) rfl)
theorem dX1_areSame_20 : decode cX1_areSame 20 = .ok (.iaload, 1) := gd_cX1_areSame_03_69 (20, .iaload, 1) (List.mem_of_getElem? (i := 12) rfl)
theorem dX1_areSame_21 : decode cX1_areSame 21 = .ok (.aload_n 0, 1) := gd_cX1_areSame_03_69 (21, .aload_n 0, 1) (List.mem_of_getElem? (i := 13) rfl)
theorem dX1_areSame_22 : decode cX1_areSame 22 = .ok (.getfield 13, 3) := gd_cX1_areSame_03_69 (22, .getfield 13, 3) (List.mem_of_getElem? (i := 14) rfl)
theorem dX1_areSame_25 : decode cX1_areSame 25 = .ok (.iload_n 2, 1) := gd_cX1_areSame_03_69 (25, .iload_n 2, 1) (List.mem_of_getElem? (i := 15) rfl)
theorem dX1_areSame_26 : decode cX1_areSame 26 = .ok (.iaload, 1) := gd_cX1_areSame_03_69 (26, .iaload, 1) (List.mem_of_getElem? (i := 16) rfl)
theorem dX1_areSame_27 : decode cX1_areSame 27 = .ok (.if_icmp .ne 7, 3) := gd_cX1_areSame_03_69 (27, .if_icmp .ne 7, 3) (List.mem_of_getElem? (i := 17) rfl)
theorem dX1_areSame_30 : decode cX1_areSame 30 = .ok (.iconst 1, 1) := gd_cX1_areSame_03_69 (30, .iconst 1, 1) (List.mem_of_getElem? (i := 18) rfl)
theorem dX1_areSame_31 : decode cX1_areSame 31 = .ok (.goto 4, 3) := gd_cX1_areSame_03_69 (31, .goto 4, 3) (List.mem_of_getElem? (i := 19) rfl)
theorem dX1_areSame_34 : decode cX1_areSame 34 = .ok (.iconst 0, 1) := gd_cX1_areSame_03_69 (34, .iconst 0, 1) (List.mem_of_getElem? (i := 20) rfl)
theorem dX1_areSame_35 : decode cX1_areSame 35 = .ok (.ireturn, 1) := gd_cX1_areSame_03_69 (35, .ireturn, 1) (List.mem_of_getElem? (i := 21) rfl)
def gl_cX1_signOf_03_70 : List (Nat × Instr × Nat) := [(0, .lload_n 0, 1), (1, .lconst 0, 1), (2, .lcmp, 1), (3, .ifCond .ne 5, 3), (6, .iconst 0, 1), (7, .ireturn, 1), (8, .lload_n 0, 1), (9, .lconst 0, 1), (10, .lcmp, 1), (11, .ifCond .ge 7, 3), (14, .iconst (-1), 1), (15, .goto 4, 3), (18, .iconst 1, 1), (19, .ireturn, 1)]
theorem gd_cX1_signOf_03_70 : ∀ q ∈ gl_cX1_signOf_03_70, decode cX1_signOf q.1 = .ok q.2 := fdk_of 0 (by decide +kernel)
theorem dX1_signOf_0 : decode cX1_signOf 0 = .ok (.lload_n 0, 1) := gd_cX1_signOf_03_70 (0, .lload_n 0, 1) (List.mem_of_getElem? (i := 0) rfl)
theorem dX1_signOf_1 : decode cX1_signOf 1 = .ok (.lconst 0, 1) := gd_cX1_signOf_03_70 (1, .lconst 0, 1) (List.mem_of_getElem? (i := 1) rfl)
theorem dX1_signOf_2 : decode cX1_signOf 2 = .ok (.lcmp, 1) := gd_cX1_signOf_03_70 (2, .lcmp, 1) (List.mem_of_getElem? (i := 2) rfl)
theorem dX1_signOf_3 : decode cX1_signOf 3 = .ok (.ifCond .ne 5, 3) := gd_cX1_signOf_03_70 (3, .ifCond .ne 5, 3) (List.mem_of_getElem? (i := 3) rfl)
theorem dX1_signOf_6 : decode cX1_signOf 6 = .ok (.iconst 0, 1) := gd_cX1_signOf_03_70 (6, .iconst 0, 1) (List.mem_of_getElem? (i := 4) rfl)
theorem dX1_signOf_7 : decode cX1_signOf 7 = .ok (.ireturn, 1) := gd_cX1_signOf_03_70 (7, .ireturn, 1) (List.mem_of_getElem? (i := 5) rfl)
theorem dX1_signOf_8 : decode cX1_signOf 8 = .ok (.lload_n 0, 1) := gd_cX1_signOf_03_70 (8, .lload_n 0, 1) (List.mem_of_getElem? (i := 6) rfl)
theorem dX1_signOf_9 : decode cX1_signOf 9 = .ok (.lconst 0, 1) := gd_cX1_signOf_03_70 (9, .lconst 0, 1) (List.mem_of_getElem? (i := 7) rfl)
theorem dX1_signOf_10 : decode cX1_signOf 10 = .ok (.lcmp, 1) := gd_cX1_signOf_03_70 (10, .lcmp, 1) (List.mem_of_getElem? (i := 8) rfl)
theorem dX1_signOf_11 : decode cX1_signOf 11 = .ok (.ifCond .ge 7, 3) := gd_cX1_signOf_03_70 (11, .ifCond .ge 7, 3) (List.mem_of_getElem? (i := 9) rfl)
theorem dX1_signOf_14 : decode cX1_signOf 14 = .ok (.iconst (-1), 1) := gd_cX1_signOf_03_70 (14, .iconst (-1), 1) (List.mem_of_getElem? (i := 10) rfl)
theorem dX1_signOf_15 : decode cX1_signOf 15 = .ok (.goto 4, 3) := gd_cX1_signOf_03_70 (15, .goto 4, 3) (List.mem_of_getElem? (i := 11) rfl)
theorem dX1_signOf_18 : decode cX1_signOf 18 = .ok (.iconst 1, 1) := gd_cX1_signOf_03_70 (18, .iconst 1, 1) (List.mem_of_getElem? (i := 12) rfl)
theorem dX1_signOf_19 : decode cX1_signOf 19 = .ok (.ireturn, 1) := gd_cX1_signOf_03_70 (19, .ireturn, 1) (List.mem_of_getElem? (i := 13) rfl)
def gl_cX1_tenTo_03_71 : List (Nat × Instr × Nat) := [(0, .lconst 1, 1), (1, .lstore_n 1, 1), (2, .iconst 0, 1), (3, .istore_n 3, 1), (4, .iload_n 3, 1), (5, .iload_n 0, 1), (6, .if_icmp .ge 21, 3), (9, .iload_n 3, 1), (10, .bipush 18, 2), (12, .if_icmp .ge 15, 3), (15, .lload_n 1, 1), (16, .ldc2_w 92, 3), (19, .lmul, 1), (20, .lstore_n 1, 1), (21, .iinc 3 1, 3), (24, .goto (-20), 3), (27, .lload_n 1, 1), (28, .lreturn, 1)]
theorem gd_cX1_tenTo_03_71 : ∀ q ∈ gl_cX1_tenTo_03_71, decode cX1_tenTo q.1 = .ok q.2 := fdk_of 0 (by decide +kernel)
theorem dX1_tenTo_0 : decode cX1_tenTo 0 = .ok (.lconst 1, 1) := gd_cX1_tenTo_03_71 (0, .lconst 1, 1) (List.mem_of_getElem? (i := 0) rfl)
theorem dX1_tenTo_1 : decode cX1_tenTo 1 = .ok (.lstore_n 1, 1) := gd_cX1_tenTo_03_71 (1, .lstore_n 1, 1) (List.mem_of_getElem? (i := 1) rfl)
theorem dX1_tenTo_2 : decode cX1_tenTo 2 = .ok (.iconst 0, 1) := gd_cX1_tenTo_03_71 (2, .iconst 0, 1) (List.mem_of_getElem? (i := 2) rfl)
theorem dX1_tenTo_3 : decode cX1_tenTo 3 = .ok (.istore_n 3, 1) := gd_cX1_tenTo_03_71 (3, .istore_n 3, 1) (List.mem_of_getElem? (i := 3) rfl)
theorem dX1_tenTo_4 : decode cX1_tenTo 4 = .ok (.iload_n 3, 1) := gd_cX1_tenTo_03_71 (4, .iload_n 3, 1) (List.mem_of_getElem? (i := 4) rfl)
theorem dX1_tenTo_5 : decode cX1_tenTo 5 = .ok (.iload_n 0, 1) := gd_cX1_tenTo_03_71 (5, .iload_n 0, 1) (List.mem_of_getElem? (i := 5) rfl)
theorem dX1_tenTo_6 : decode cX1_tenTo 6 = .ok (.if_icmp .ge 21, 3) := gd_cX1_tenTo_03_71 (6, .if_icmp .ge 21, 3) (List.mem_of_getElem? (i := 6) rfl)
theorem dX1_tenTo_9 : decode cX1_tenTo 9 = .ok (.iload_n 3, 1) := gd_cX1_tenTo_03_71 (9, .iload_n 3, 1) (List.mem_of_getElem? (i := 7) rfl)
theorem dX1_tenTo_10 : decode cX1_tenTo 10 = .ok (.bipush 18, 2) := gd_cX1_tenTo_03_71 (10, .bipush 18, 2) (List.mem_of_getElem? (i := 8) rfl)
theorem dX1_tenTo_12 : decode cX1_tenTo 12 = .ok (.if_icmp .ge 15, 3) := gd_cX1_tenTo_03_71 (12, .if_icmp .ge 15, 3) (List.mem_of_getElem? (i := 9) rfl)
theorem dX1_tenTo_15 : decode cX1_tenTo 15 = .ok (.lload_n 1, 1) := gd_cX1_tenTo_03_71 (15, .lload_n 1, 1) (List.mem_of_getElem? (i := 10) rfl)
theorem dX1_tenTo_16 : decode cX1_tenTo 16 = .ok (.ldc2_w 92, 3) := gd_cX1_tenTo_03_71 (16, .ldc2_w 92, 3) (List.mem_of_getElem? (i := 11) rfl)
theorem dX1_tenTo_19 : decode cX1_tenTo 19 = .ok (.lmul, 1) := gd_cX1_tenTo_03_71 (19, .lmul, 1) (List.mem_of_getElem? (i := 12) rfl)
theorem dX1_tenTo_20 : decode cX1_tenTo 20 = .ok (.lstore_n 1, 1) := gd_cX1_tenTo_03_71 (20, .lstore_n 1, 1) (List.mem_of_getElem? (i := 13) rfl)
theorem dX1_tenTo_21 : decode cX1_tenTo 21 = .ok (.iinc 3 1, 3) := gd_cX1_tenTo_03_71 (21, .iinc 3 1, 3) (List.mem_of_getElem? (i := 14) rfl)
theorem dX1_tenTo_24 : decode cX1_tenTo 24 = .ok (.goto (-20), 3) := gd_cX1_tenTo_03_71 (24, .goto (-20), 3) (List.mem_of_getElem? (i := 15) rfl)
theorem dX1_tenTo_27 : decode cX1_tenTo 27 = .ok (.lload_n 1, 1) := gd_cX1_tenTo_03_71 (27, .lload_n 1, 1) (List.mem_of_getElem? (i := 16) rfl)
theorem dX1_tenTo_28 : decode cX1_tenTo 28 = .ok (.lreturn, 1) := gd_cX1_tenTo_03_71 (28, .lreturn, 1) (List.mem_of_getElem? (i := 17) rfl)
def gl_cX1_digitsIn_03_72 : List (Nat × Instr × Nat) := [(0, .iconst 1, 1), (1, .istore_n 2, 1), (2, .lload_n 0, 1), (3, .invokestatic 250, 3), (6, .ldc2_w 92, 3), (9, .ldiv, 1), (10, .lstore_n 3, 1), (11, .lload_n 3, 1), (12, .lconst 0, 1), (13, .lcmp, 1), (14, .ifCond .le 21, 3), (17, .iload_n 2, 1), (18, .bipush 19, 2), (20, .if_icmp .ge 15, 3), (23, .iinc 2 1, 3), (26, .lload_n 3, 1), (27, .ldc2_w 92, 3), (30, .ldiv, 1), (31, .lstore_n 3, 1), (32, .goto (-21), 3), (35, .iload_n 2, 1), (36, .ireturn, 1)]
theorem gd_cX1_digitsIn_03_72 : ∀ q ∈ gl_cX1_digitsIn_03_72, decode cX1_digitsIn q.1 = .ok q.2 := fdk_of 0 (by decide +kernel)
theorem dX1_digitsIn_0 : decode cX1_digitsIn 0 = .ok (.iconst 1, 1) := gd_cX1_digitsIn_03_72 (0, .iconst 1, 1) (List.mem_of_getElem? (i := 0) rfl)
theorem dX1_digitsIn_1 : decode cX1_digitsIn 1 = .ok (.istore_n 2, 1) := gd_cX1_digitsIn_03_72 (1, .istore_n 2, 1) (List.mem_of_getElem? (i := 1) rfl)
theorem dX1_digitsIn_2 : decode cX1_digitsIn 2 = .ok (.lload_n 0, 1) := gd_cX1_digitsIn_03_72 (2, .lload_n 0, 1) (List.mem_of_getElem? (i := 2) rfl)
theorem dX1_digitsIn_3 : decode cX1_digitsIn 3 = .ok (.invokestatic 250, 3) := gd_cX1_digitsIn_03_72 (3, .invokestatic 250, 3) (List.mem_of_getElem? (i := 3) rfl)
theorem dX1_digitsIn_6 : decode cX1_digitsIn 6 = .ok (.ldc2_w 92, 3) := gd_cX1_digitsIn_03_72 (6, .ldc2_w 92, 3) (List.mem_of_getElem? (i := 4) rfl)
theorem dX1_digitsIn_9 : decode cX1_digitsIn 9 = .ok (.ldiv, 1) := gd_cX1_digitsIn_03_72 (9, .ldiv, 1) (List.mem_of_getElem? (i := 5) rfl)
theorem dX1_digitsIn_10 : decode cX1_digitsIn 10 = .ok (.lstore_n 3, 1) := gd_cX1_digitsIn_03_72 (10, .lstore_n 3, 1) (List.mem_of_getElem? (i := 6) rfl)
theorem dX1_digitsIn_11 : decode cX1_digitsIn 11 = .ok (.lload_n 3, 1) := gd_cX1_digitsIn_03_72 (11, .lload_n 3, 1) (List.mem_of_getElem? (i := 7) rfl)
theorem dX1_digitsIn_12 : decode cX1_digitsIn 12 = .ok (.lconst 0, 1) := gd_cX1_digitsIn_03_72 (12, .lconst 0, 1) (List.mem_of_getElem? (i := 8) rfl)
theorem dX1_digitsIn_13 : decode cX1_digitsIn 13 = .ok (.lcmp, 1) := gd_cX1_digitsIn_03_72 (13, .lcmp, 1) (List.mem_of_getElem? (i := 9) rfl)
theorem dX1_digitsIn_14 : decode cX1_digitsIn 14 = .ok (.ifCond .le 21, 3) := gd_cX1_digitsIn_03_72 (14, .ifCond .le 21, 3) (List.mem_of_getElem? (i := 10) rfl)
theorem dX1_digitsIn_17 : decode cX1_digitsIn 17 = .ok (.iload_n 2, 1) := gd_cX1_digitsIn_03_72 (17, .iload_n 2, 1) (List.mem_of_getElem? (i := 11) rfl)
theorem dX1_digitsIn_18 : decode cX1_digitsIn 18 = .ok (.bipush 19, 2) := gd_cX1_digitsIn_03_72 (18, .bipush 19, 2) (List.mem_of_getElem? (i := 12) rfl)
theorem dX1_digitsIn_20 : decode cX1_digitsIn 20 = .ok (.if_icmp .ge 15, 3) := gd_cX1_digitsIn_03_72 (20, .if_icmp .ge 15, 3) (List.mem_of_getElem? (i := 13) rfl)
theorem dX1_digitsIn_23 : decode cX1_digitsIn 23 = .ok (.iinc 2 1, 3) := gd_cX1_digitsIn_03_72 (23, .iinc 2 1, 3) (List.mem_of_getElem? (i := 14) rfl)
theorem dX1_digitsIn_26 : decode cX1_digitsIn 26 = .ok (.lload_n 3, 1) := gd_cX1_digitsIn_03_72 (26, .lload_n 3, 1) (List.mem_of_getElem? (i := 15) rfl)
theorem dX1_digitsIn_27 : decode cX1_digitsIn 27 = .ok (.ldc2_w 92, 3) := gd_cX1_digitsIn_03_72 (27, .ldc2_w 92, 3) (List.mem_of_getElem? (i := 16) rfl)
theorem dX1_digitsIn_30 : decode cX1_digitsIn 30 = .ok (.ldiv, 1) := gd_cX1_digitsIn_03_72 (30, .ldiv, 1) (List.mem_of_getElem? (i := 17) rfl)
theorem dX1_digitsIn_31 : decode cX1_digitsIn 31 = .ok (.lstore_n 3, 1) := gd_cX1_digitsIn_03_72 (31, .lstore_n 3, 1) (List.mem_of_getElem? (i := 18) rfl)
theorem dX1_digitsIn_32 : decode cX1_digitsIn 32 = .ok (.goto (-21), 3) := gd_cX1_digitsIn_03_72 (32, .goto (-21), 3) (List.mem_of_getElem? (i := 19) rfl)
theorem dX1_digitsIn_35 : decode cX1_digitsIn 35 = .ok (.iload_n 2, 1) := gd_cX1_digitsIn_03_72 (35, .iload_n 2, 1) (List.mem_of_getElem? (i := 20) rfl)
theorem dX1_digitsIn_36 : decode cX1_digitsIn 36 = .ok (.ireturn, 1) := gd_cX1_digitsIn_03_72 (36, .ireturn, 1) (List.mem_of_getElem? (i := 21) rfl)
def gl_cX1_decimalText_03_73 : List (Nat × Instr × Nat) := [(0, .new 252, 3), (3, .dup, 1), (4, .invokespecial 254, 3), (7, .astore_n 3, 1), (8, .lload_n 0, 1), (9, .invokestatic 101, 3), (12, .iload_n 2, 1), (13, .iconst 1, 1), (14, .iadd, 1), (15, .invokestatic 69, 3), (18, .istore 4, 2), (20, .lload_n 0, 1), (21, .invokestatic 250, 3), (24, .lstore 5, 2), (26, .iconst 0, 1), (27, .istore 7, 2), (29, .iload 7, 2), (31, .iload 4, 2), (33, .if_icmp .ge 49, 3), (36, .iload 7, 2), (38, .iload_n 2, 1), (39, .if_icmp .ne 14, 3), (42, .iload_n 2, 1), (43, .ifCond .le 10, 3), (46, .aload_n 3, 1), (47, .bipush 46, 2), (49, .invokevirtual 255, 3), (52, .pop, 1), (53, .aload_n 3, 1), (54, .lload 5, 2), (56, .ldc2_w 92, 3), (59, .lrem, 1), (60, .l2i, 1), (61, .invokestatic 259, 3), (64, .invokevirtual 255, 3), (67, .pop, 1), (68, .lload 5, 2), (70, .ldc2_w 92, 3), (73, .ldiv, 1), (74, .lstore 5, 2), (76, .iinc 7 1, 3), (79, .goto (-50), 3), (82, .lload_n 0, 1), (83, .lconst 0, 1), (84, .lcmp, 1), (85, .ifCond .ge 10, 3), (88, .aload_n 3, 1), (89, .bipush 45, 2), (91, .invokevirtual 255, 3), (94, .pop, 1), (95, .aload_n 3, 1), (96, .invokevirtual 263, 3), (99, .invokevirtual 267, 3), (102, .areturn, 1)]
theorem gd_cX1_decimalText_03_73 : ∀ q ∈ gl_cX1_decimalText_03_73, decode cX1_decimalText q.1 = .ok q.2 := fdk_of 0 (by decide +kernel)
theorem dX1_decimalText_0 : decode cX1_decimalText 0 = .ok (.new 252, 3) := gd_cX1_decimalText_03_73 (0, .new 252, 3) (List.mem_of_getElem? (i := 0) rfl)
theorem dX1_decimalText_3 : decode cX1_decimalText 3 = .ok (.dup, 1) := gd_cX1_decimalText_03_73 (3, .dup, 1) (List.mem_of_getElem? (i := 1) rfl)
theorem dX1_decimalText_4 : decode cX1_decimalText 4 = .ok (.invokespecial 254, 3) := gd_cX1_decimalText_03_73 (4, .invokespecial 254, 3) (List.mem_of_getElem? (i := 2) rfl)
theorem dX1_decimalText_7 : decode cX1_decimalText 7 = .ok (.astore_n 3, 1) := gd_cX1_decimalText_03_73 (7, .astore_n 3, 1) (List.mem_of_getElem? (i := 3) rfl)
theorem dX1_decimalText_8 : decode cX1_decimalText 8 = .ok (.lload_n 0, 1) := gd_cX1_decimalText_03_73 (8, .lload_n 0, 1) (List.mem_of_getElem? (i := 4) rfl)
theorem dX1_decimalText_9 : decode cX1_decimalText 9 = .ok (.invokestatic 101, 3) := gd_cX1_decimalText_03_73 (9, .invokestatic 101, 3) (List.mem_of_getElem? (i := 5) rfl)
theorem dX1_decimalText_12 : decode cX1_decimalText 12 = .ok (.iload_n 2, 1) := gd_cX1_decimalText_03_73 (12, .iload_n 2, 1) (List.mem_of_getElem? (i := 6) rfl)
theorem dX1_decimalText_13 : decode cX1_decimalText 13 = .ok (.iconst 1, 1) := gd_cX1_decimalText_03_73 (13, .iconst 1, 1) (List.mem_of_getElem? (i := 7) rfl)
theorem dX1_decimalText_14 : decode cX1_decimalText 14 = .ok (.iadd, 1) := gd_cX1_decimalText_03_73 (14, .iadd, 1) (List.mem_of_getElem? (i := 8) rfl)
theorem dX1_decimalText_15 : decode cX1_decimalText 15 = .ok (.invokestatic 69, 3) := gd_cX1_decimalText_03_73 (15, .invokestatic 69, 3) (List.mem_of_getElem? (i := 9) rfl)
theorem dX1_decimalText_18 : decode cX1_decimalText 18 = .ok (.istore 4, 2) := gd_cX1_decimalText_03_73 (18, .istore 4, 2) (List.mem_of_getElem? (i := 10) rfl)
theorem dX1_decimalText_20 : decode cX1_decimalText 20 = .ok (.lload_n 0, 1) := gd_cX1_decimalText_03_73 (20, .lload_n 0, 1) (List.mem_of_getElem? (i := 11) rfl)
theorem dX1_decimalText_21 : decode cX1_decimalText 21 = .ok (.invokestatic 250, 3) := gd_cX1_decimalText_03_73 (21, .invokestatic 250, 3) (List.mem_of_getElem? (i := 12) rfl)
theorem dX1_decimalText_24 : decode cX1_decimalText 24 = .ok (.lstore 5, 2) := gd_cX1_decimalText_03_73 (24, .lstore 5, 2) (List.mem_of_getElem? (i := 13) rfl)
theorem dX1_decimalText_26 : decode cX1_decimalText 26 = .ok (.iconst 0, 1) := gd_cX1_decimalText_03_73 (26, .iconst 0, 1) (List.mem_of_getElem? (i := 14) rfl)
theorem dX1_decimalText_27 : decode cX1_decimalText 27 = .ok (.istore 7, 2) := gd_cX1_decimalText_03_73 (27, .istore 7, 2) (List.mem_of_getElem? (i := 15) rfl)
theorem dX1_decimalText_29 : decode cX1_decimalText 29 = .ok (.iload 7, 2) := gd_cX1_decimalText_03_73 (29, .iload 7, 2) (List.mem_of_getElem? (i := 16) rfl)
theorem dX1_decimalText_31 : decode cX1_decimalText 31 = .ok (.iload 4, 2) := gd_cX1_decimalText_03_73 (31, .iload 4, 2) (List.mem_of_getElem? (i := 17) rfl)
theorem dX1_decimalText_33 : decode cX1_decimalText 33 = .ok (.if_icmp .ge 49, 3) := gd_cX1_decimalText_03_73 (33, .if_icmp .ge 49, 3) (List.mem_of_getElem? (i := 18) rfl)
theorem dX1_decimalText_36 : decode cX1_decimalText 36 = .ok (.iload 7, 2) := gd_cX1_decimalText_03_73 (36, .iload 7, 2) (List.mem_of_getElem? (i := 19) rfl)
theorem dX1_decimalText_38 : decode cX1_decimalText 38 = .ok (.iload_n 2, 1) := gd_cX1_decimalText_03_73 (38, .iload_n 2, 1) (List.mem_of_getElem? (i := 20) rfl)
theorem dX1_decimalText_39 : decode cX1_decimalText 39 = .ok (.if_icmp .ne 14, 3) := gd_cX1_decimalText_03_73 (39, .if_icmp .ne 14, 3) (List.mem_of_getElem? (i := 21) rfl)
theorem dX1_decimalText_42 : decode cX1_decimalText 42 = .ok (.iload_n 2, 1) := gd_cX1_decimalText_03_73 (42, .iload_n 2, 1) (List.mem_of_getElem? (i := 22) rfl)
theorem dX1_decimalText_43 : decode cX1_decimalText 43 = .ok (.ifCond .le 10, 3) := gd_cX1_decimalText_03_73 (43, .ifCond .le 10, 3) (List.mem_of_getElem? (i := 23) rfl)
theorem dX1_decimalText_46 : decode cX1_decimalText 46 = .ok (.aload_n 3, 1) := gd_cX1_decimalText_03_73 (46, .aload_n 3, 1) (List.mem_of_getElem? (i := 24) rfl)
theorem dX1_decimalText_47 : decode cX1_decimalText 47 = .ok (.bipush 46, 2) := gd_cX1_decimalText_03_73 (47, .bipush 46, 2) (List.mem_of_getElem? (i := 25) rfl)
theorem dX1_decimalText_49 : decode cX1_decimalText 49 = .ok (.invokevirtual 255, 3) := gd_cX1_decimalText_03_73 (49, .invokevirtual 255, 3) (List.mem_of_getElem? (i := 26) rfl)
theorem dX1_decimalText_52 : decode cX1_decimalText 52 = .ok (.pop, 1) := gd_cX1_decimalText_03_73 (52, .pop, 1) (List.mem_of_getElem? (i := 27) rfl)
theorem dX1_decimalText_53 : decode cX1_decimalText 53 = .ok (.aload_n 3, 1) := gd_cX1_decimalText_03_73 (53, .aload_n 3, 1) (List.mem_of_getElem? (i := 28) rfl)
theorem dX1_decimalText_54 : decode cX1_decimalText 54 = .ok (.lload 5, 2) := gd_cX1_decimalText_03_73 (54, .lload 5, 2) (List.mem_of_getElem? (i := 29) rfl)
theorem dX1_decimalText_56 : decode cX1_decimalText 56 = .ok (.ldc2_w 92, 3) := gd_cX1_decimalText_03_73 (56, .ldc2_w 92, 3) (List.mem_of_getElem? (i := 30) rfl)
theorem dX1_decimalText_59 : decode cX1_decimalText 59 = .ok (.lrem, 1) := gd_cX1_decimalText_03_73 (59, .lrem, 1) (List.mem_of_getElem? (i := 31) rfl)
theorem dX1_decimalText_60 : decode cX1_decimalText 60 = .ok (.l2i, 1) := gd_cX1_decimalText_03_73 (60, .l2i, 1) (List.mem_of_getElem? (i := 32) rfl)
theorem dX1_decimalText_61 : decode cX1_decimalText 61 = .ok (.invokestatic 259, 3) := gd_cX1_decimalText_03_73 (61, .invokestatic 259, 3) (List.mem_of_getElem? (i := 33) rfl)
theorem dX1_decimalText_64 : decode cX1_decimalText 64 = .ok (.invokevirtual 255, 3) := gd_cX1_decimalText_03_73 (64, .invokevirtual 255, 3) (List.mem_of_getElem? (i := 34) rfl)
theorem dX1_decimalText_67 : decode cX1_decimalText 67 = .ok (.pop, 1) := gd_cX1_decimalText_03_73 (67, .pop, 1) (List.mem_of_getElem? (i := 35) rfl)
theorem dX1_decimalText_68 : decode cX1_decimalText 68 = .ok (.lload 5, 2) := gd_cX1_decimalText_03_73 (68, .lload 5, 2) (List.mem_of_getElem? (i := 36) rfl)
theorem dX1_decimalText_70 : decode cX1_decimalText 70 = .ok (.ldc2_w 92, 3) := gd_cX1_decimalText_03_73 (70, .ldc2_w 92, 3) (List.mem_of_getElem? (i := 37) rfl)
theorem dX1_decimalText_73 : decode cX1_decimalText 73 = .ok (.ldiv, 1) := gd_cX1_decimalText_03_73 (73, .ldiv, 1) (List.mem_of_getElem? (i := 38) rfl)
theorem dX1_decimalText_74 : decode cX1_decimalText 74 = .ok (.lstore 5, 2) := gd_cX1_decimalText_03_73 (74, .lstore 5, 2) (List.mem_of_getElem? (i := 39) rfl)
theorem dX1_decimalText_76 : decode cX1_decimalText 76 = .ok (.iinc 7 1, 3) := gd_cX1_decimalText_03_73 (76, .iinc 7 1, 3) (List.mem_of_getElem? (i := 40) rfl)
theorem dX1_decimalText_79 : decode cX1_decimalText 79 = .ok (.goto (-50), 3) := gd_cX1_decimalText_03_73 (79, .goto (-50), 3) (List.mem_of_getElem? (i := 41) rfl)
theorem dX1_decimalText_82 : decode cX1_decimalText 82 = .ok (.lload_n 0, 1) := gd_cX1_decimalText_03_73 (82, .lload_n 0, 1) (List.mem_of_getElem? (i := 42) rfl)
theorem dX1_decimalText_83 : decode cX1_decimalText 83 = .ok (.lconst 0, 1) := gd_cX1_decimalText_03_73 (83, .lconst 0, 1) (List.mem_of_getElem? (i := 43) rfl)
theorem dX1_decimalText_84 : decode cX1_decimalText 84 = .ok (.lcmp, 1) := gd_cX1_decimalText_03_73 (84, .lcmp, 1) (List.mem_of_getElem? (i := 44) rfl)
theorem dX1_decimalText_85 : decode cX1_decimalText 85 = .ok (.ifCond .ge 10, 3) := gd_cX1_decimalText_03_73 (85, .ifCond .ge 10, 3) (List.mem_of_getElem? (i := 45) rfl)
theorem dX1_decimalText_88 : decode cX1_decimalText 88 = .ok (.aload_n 3, 1) := gd_cX1_decimalText_03_73 (88, .aload_n 3, 1) (List.mem_of_getElem? (i := 46) rfl)
theorem dX1_decimalText_89 : decode cX1_decimalText 89 = .ok (.bipush 45, 2) := gd_cX1_decimalText_03_73 (89, .bipush 45, 2) (List.mem_of_getElem? (i := 47) rfl)
theorem dX1_decimalText_91 : decode cX1_decimalText 91 = .ok (.invokevirtual 255, 3) := gd_cX1_decimalText_03_73 (91, .invokevirtual 255, 3) (List.mem_of_getElem? (i := 48) rfl)
theorem dX1_decimalText_94 : decode cX1_decimalText 94 = .ok (.pop, 1) := gd_cX1_decimalText_03_73 (94, .pop, 1) (List.mem_of_getElem? (i := 49) rfl)
theorem dX1_decimalText_95 : decode cX1_decimalText 95 = .ok (.aload_n 3, 1) := gd_cX1_decimalText_03_73 (95, .aload_n 3, 1) (List.mem_of_getElem? (i := 50) rfl)
theorem dX1_decimalText_96 : decode cX1_decimalText 96 = .ok (.invokevirtual 263, 3) := gd_cX1_decimalText_03_73 (96, .invokevirtual 263, 3) (List.mem_of_getElem? (i := 51) rfl)
theorem dX1_decimalText_99 : decode cX1_decimalText 99 = .ok (.invokevirtual 267, 3) := gd_cX1_decimalText_03_73 (99, .invokevirtual 267, 3) (List.mem_of_getElem? (i := 52) rfl)
theorem dX1_decimalText_102 : decode cX1_decimalText 102 = .ok (.areturn, 1) := gd_cX1_decimalText_03_73 (102, .areturn, 1) (List.mem_of_getElem? (i := 53) rfl)
def gl_cX1_signOfDigit_03_74 : List (Nat × Instr × Nat) := [(0, .bipush 48, 2), (2, .iload_n 0, 1), (3, .iadd, 1), (4, .i2c, 1), (5, .ireturn, 1)]
theorem gd_cX1_signOfDigit_03_74 : ∀ q ∈ gl_cX1_signOfDigit_03_74, decode cX1_signOfDigit q.1 = .ok q.2 := fdk_of 0 (by decide +kernel)
theorem dX1_signOfDigit_0 : decode cX1_signOfDigit 0 = .ok (.bipush 48, 2) := gd_cX1_signOfDigit_03_74 (0, .bipush 48, 2) (List.mem_of_getElem? (i := 0) rfl)
theorem dX1_signOfDigit_2 : decode cX1_signOfDigit 2 = .ok (.iload_n 0, 1) := gd_cX1_signOfDigit_03_74 (2, .iload_n 0, 1) (List.mem_of_getElem? (i := 1) rfl)
theorem dX1_signOfDigit_3 : decode cX1_signOfDigit 3 = .ok (.iadd, 1) := gd_cX1_signOfDigit_03_74 (3, .iadd, 1) (List.mem_of_getElem? (i := 2) rfl)
theorem dX1_signOfDigit_4 : decode cX1_signOfDigit 4 = .ok (.i2c, 1) := gd_cX1_signOfDigit_03_74 (4, .i2c, 1) (List.mem_of_getElem? (i := 3) rfl)
theorem dX1_signOfDigit_5 : decode cX1_signOfDigit 5 = .ok (.ireturn, 1) := gd_cX1_signOfDigit_03_74 (5, .ireturn, 1) (List.mem_of_getElem? (i := 4) rfl)
def gl_cX1_rounded_03_75 : List (Nat × Instr × Nat) := [(0, .lload_n 2, 1), (1, .lconst 1, 1), (2, .lcmp, 1), (3, .ifCond .ge 7, 3), (6, .ldc2_w 105, 3), (9, .lreturn, 1), (10, .lload_n 0, 1), (11, .lload_n 2, 1), (12, .ldiv, 1), (13, .lstore 5, 2), (15, .lload_n 0, 1), (16, .lload_n 2, 1), (17, .lrem, 1), (18, .invokestatic 250, 3), (21, .lstore 7, 2), (23, .lload 7, 2), (25, .lconst 0, 1), (26, .lcmp, 1), (27, .ifCond .ne 6, 3), (30, .lload 5, 2), (32, .lreturn, 1), (33, .iload 4, 2), (35, .bipush 7, 2), (37, .if_icmp .ne 7, 3), (40, .ldc2_w 105, 3), (43, .lreturn, 1), (44, .lload_n 0, 1), (45, .lload 5, 2), (47, .ldc2_w 173, 3), (50, .lload 7, 2), (52, .lmul, 1), (53, .lload_n 2, 1), (54, .lsub, 1), (55, .invokestatic 117, 3), (58, .iload 4, 2), (60, .invokestatic 270, 3), (63, .ifCond .eq 14, 3), (66, .lload 5, 2), (68, .lload_n 0, 1), (69, .invokestatic 117, 3), (72, .i2l, 1), (73, .ladd, 1), (74, .goto 5, 3), (77, .lload 5, 2), (79, .lreturn, 1)]
theorem gd_cX1_rounded_03_75 : ∀ q ∈ gl_cX1_rounded_03_75, decode cX1_rounded q.1 = .ok q.2 := fdk_of 0 (by decide +kernel)
theorem dX1_rounded_0 : decode cX1_rounded 0 = .ok (.lload_n 2, 1) := gd_cX1_rounded_03_75 (0, .lload_n 2, 1) (List.mem_of_getElem? (i := 0) rfl)
theorem dX1_rounded_1 : decode cX1_rounded 1 = .ok (.lconst 1, 1) := gd_cX1_rounded_03_75 (1, .lconst 1, 1) (List.mem_of_getElem? (i := 1) rfl)
theorem dX1_rounded_2 : decode cX1_rounded 2 = .ok (.lcmp, 1) := gd_cX1_rounded_03_75 (2, .lcmp, 1) (List.mem_of_getElem? (i := 2) rfl)
theorem dX1_rounded_3 : decode cX1_rounded 3 = .ok (.ifCond .ge 7, 3) := gd_cX1_rounded_03_75 (3, .ifCond .ge 7, 3) (List.mem_of_getElem? (i := 3) rfl)
theorem dX1_rounded_6 : decode cX1_rounded 6 = .ok (.ldc2_w 105, 3) := gd_cX1_rounded_03_75 (6, .ldc2_w 105, 3) (List.mem_of_getElem? (i := 4) rfl)
theorem dX1_rounded_9 : decode cX1_rounded 9 = .ok (.lreturn, 1) := gd_cX1_rounded_03_75 (9, .lreturn, 1) (List.mem_of_getElem? (i := 5) rfl)
theorem dX1_rounded_10 : decode cX1_rounded 10 = .ok (.lload_n 0, 1) := gd_cX1_rounded_03_75 (10, .lload_n 0, 1) (List.mem_of_getElem? (i := 6) rfl)
theorem dX1_rounded_11 : decode cX1_rounded 11 = .ok (.lload_n 2, 1) := gd_cX1_rounded_03_75 (11, .lload_n 2, 1) (List.mem_of_getElem? (i := 7) rfl)
theorem dX1_rounded_12 : decode cX1_rounded 12 = .ok (.ldiv, 1) := gd_cX1_rounded_03_75 (12, .ldiv, 1) (List.mem_of_getElem? (i := 8) rfl)
theorem dX1_rounded_13 : decode cX1_rounded 13 = .ok (.lstore 5, 2) := gd_cX1_rounded_03_75 (13, .lstore 5, 2) (List.mem_of_getElem? (i := 9) rfl)
theorem dX1_rounded_15 : decode cX1_rounded 15 = .ok (.lload_n 0, 1) := gd_cX1_rounded_03_75 (15, .lload_n 0, 1) (List.mem_of_getElem? (i := 10) rfl)
theorem dX1_rounded_16 : decode cX1_rounded 16 = .ok (.lload_n 2, 1) := gd_cX1_rounded_03_75 (16, .lload_n 2, 1) (List.mem_of_getElem? (i := 11) rfl)
theorem dX1_rounded_17 : decode cX1_rounded 17 = .ok (.lrem, 1) := gd_cX1_rounded_03_75 (17, .lrem, 1) (List.mem_of_getElem? (i := 12) rfl)
theorem dX1_rounded_18 : decode cX1_rounded 18 = .ok (.invokestatic 250, 3) := gd_cX1_rounded_03_75 (18, .invokestatic 250, 3) (List.mem_of_getElem? (i := 13) rfl)
theorem dX1_rounded_21 : decode cX1_rounded 21 = .ok (.lstore 7, 2) := gd_cX1_rounded_03_75 (21, .lstore 7, 2) (List.mem_of_getElem? (i := 14) rfl)
theorem dX1_rounded_23 : decode cX1_rounded 23 = .ok (.lload 7, 2) := gd_cX1_rounded_03_75 (23, .lload 7, 2) (List.mem_of_getElem? (i := 15) rfl)
theorem dX1_rounded_25 : decode cX1_rounded 25 = .ok (.lconst 0, 1) := gd_cX1_rounded_03_75 (25, .lconst 0, 1) (List.mem_of_getElem? (i := 16) rfl)
theorem dX1_rounded_26 : decode cX1_rounded 26 = .ok (.lcmp, 1) := gd_cX1_rounded_03_75 (26, .lcmp, 1) (List.mem_of_getElem? (i := 17) rfl)
theorem dX1_rounded_27 : decode cX1_rounded 27 = .ok (.ifCond .ne 6, 3) := gd_cX1_rounded_03_75 (27, .ifCond .ne 6, 3) (List.mem_of_getElem? (i := 18) rfl)
theorem dX1_rounded_30 : decode cX1_rounded 30 = .ok (.lload 5, 2) := gd_cX1_rounded_03_75 (30, .lload 5, 2) (List.mem_of_getElem? (i := 19) rfl)
theorem dX1_rounded_32 : decode cX1_rounded 32 = .ok (.lreturn, 1) := gd_cX1_rounded_03_75 (32, .lreturn, 1) (List.mem_of_getElem? (i := 20) rfl)
theorem dX1_rounded_33 : decode cX1_rounded 33 = .ok (.iload 4, 2) := gd_cX1_rounded_03_75 (33, .iload 4, 2) (List.mem_of_getElem? (i := 21) rfl)
theorem dX1_rounded_35 : decode cX1_rounded 35 = .ok (.bipush 7, 2) := gd_cX1_rounded_03_75 (35, .bipush 7, 2) (List.mem_of_getElem? (i := 22) rfl)
theorem dX1_rounded_37 : decode cX1_rounded 37 = .ok (.if_icmp .ne 7, 3) := gd_cX1_rounded_03_75 (37, .if_icmp .ne 7, 3) (List.mem_of_getElem? (i := 23) rfl)
theorem dX1_rounded_40 : decode cX1_rounded 40 = .ok (.ldc2_w 105, 3) := gd_cX1_rounded_03_75 (40, .ldc2_w 105, 3) (List.mem_of_getElem? (i := 24) rfl)
theorem dX1_rounded_43 : decode cX1_rounded 43 = .ok (.lreturn, 1) := gd_cX1_rounded_03_75 (43, .lreturn, 1) (List.mem_of_getElem? (i := 25) rfl)
theorem dX1_rounded_44 : decode cX1_rounded 44 = .ok (.lload_n 0, 1) := gd_cX1_rounded_03_75 (44, .lload_n 0, 1) (List.mem_of_getElem? (i := 26) rfl)
theorem dX1_rounded_45 : decode cX1_rounded 45 = .ok (.lload 5, 2) := gd_cX1_rounded_03_75 (45, .lload 5, 2) (List.mem_of_getElem? (i := 27) rfl)
theorem dX1_rounded_47 : decode cX1_rounded 47 = .ok (.ldc2_w 173, 3) := gd_cX1_rounded_03_75 (47, .ldc2_w 173, 3) (List.mem_of_getElem? (i := 28) rfl)
theorem dX1_rounded_50 : decode cX1_rounded 50 = .ok (.lload 7, 2) := gd_cX1_rounded_03_75 (50, .lload 7, 2) (List.mem_of_getElem? (i := 29) rfl)
theorem dX1_rounded_52 : decode cX1_rounded 52 = .ok (.lmul, 1) := gd_cX1_rounded_03_75 (52, .lmul, 1) (List.mem_of_getElem? (i := 30) rfl)
theorem dX1_rounded_53 : decode cX1_rounded 53 = .ok (.lload_n 2, 1) := gd_cX1_rounded_03_75 (53, .lload_n 2, 1) (List.mem_of_getElem? (i := 31) rfl)
theorem dX1_rounded_54 : decode cX1_rounded 54 = .ok (.lsub, 1) := gd_cX1_rounded_03_75 (54, .lsub, 1) (List.mem_of_getElem? (i := 32) rfl)
theorem dX1_rounded_55 : decode cX1_rounded 55 = .ok (.invokestatic 117, 3) := gd_cX1_rounded_03_75 (55, .invokestatic 117, 3) (List.mem_of_getElem? (i := 33) rfl)
theorem dX1_rounded_58 : decode cX1_rounded 58 = .ok (.iload 4, 2) := gd_cX1_rounded_03_75 (58, .iload 4, 2) (List.mem_of_getElem? (i := 34) rfl)
theorem dX1_rounded_60 : decode cX1_rounded 60 = .ok (.invokestatic 270, 3) := gd_cX1_rounded_03_75 (60, .invokestatic 270, 3) (List.mem_of_getElem? (i := 35) rfl)
theorem dX1_rounded_63 : decode cX1_rounded 63 = .ok (.ifCond .eq 14, 3) := gd_cX1_rounded_03_75 (63, .ifCond .eq 14, 3) (List.mem_of_getElem? (i := 36) rfl)
theorem dX1_rounded_66 : decode cX1_rounded 66 = .ok (.lload 5, 2) := gd_cX1_rounded_03_75 (66, .lload 5, 2) (List.mem_of_getElem? (i := 37) rfl)
theorem dX1_rounded_68 : decode cX1_rounded 68 = .ok (.lload_n 0, 1) := gd_cX1_rounded_03_75 (68, .lload_n 0, 1) (List.mem_of_getElem? (i := 38) rfl)
theorem dX1_rounded_69 : decode cX1_rounded 69 = .ok (.invokestatic 117, 3) := gd_cX1_rounded_03_75 (69, .invokestatic 117, 3) (List.mem_of_getElem? (i := 39) rfl)
theorem dX1_rounded_72 : decode cX1_rounded 72 = .ok (.i2l, 1) := gd_cX1_rounded_03_75 (72, .i2l, 1) (List.mem_of_getElem? (i := 40) rfl)
theorem dX1_rounded_73 : decode cX1_rounded 73 = .ok (.ladd, 1) := gd_cX1_rounded_03_75 (73, .ladd, 1) (List.mem_of_getElem? (i := 41) rfl)
theorem dX1_rounded_74 : decode cX1_rounded 74 = .ok (.goto 5, 3) := gd_cX1_rounded_03_75 (74, .goto 5, 3) (List.mem_of_getElem? (i := 42) rfl)
theorem dX1_rounded_77 : decode cX1_rounded 77 = .ok (.lload 5, 2) := gd_cX1_rounded_03_75 (77, .lload 5, 2) (List.mem_of_getElem? (i := 43) rfl)
theorem dX1_rounded_79 : decode cX1_rounded 79 = .ok (.lreturn, 1) := gd_cX1_rounded_03_75 (79, .lreturn, 1) (List.mem_of_getElem? (i := 44) rfl)
theorem dX1_isFartherTaken_2 : decode cX1_isFartherTaken 2 = .ok (.tableswitch 88 0 5 #[38, 40, 42, 54, 66, 77], 38) := by decide +kernel
def gl_cX1_isFartherTaken_03_76 : List (Nat × Instr × Nat) := [(0, .iload 5, 2)]
theorem gd_cX1_isFartherTaken_03_76 : ∀ q ∈ gl_cX1_isFartherTaken_03_76, decode cX1_isFartherTaken q.1 = .ok q.2 := fdk_of 0 (by decide +kernel)
theorem dX1_isFartherTaken_0 : decode cX1_isFartherTaken 0 = .ok (.iload 5, 2) := gd_cX1_isFartherTaken_03_76 (0, .iload 5, 2) (List.mem_of_getElem? (i := 0) rfl)
def gl_cX1_isFartherTaken_03_77 : List (Nat × Instr × Nat) := [(40, .iconst 1, 1), (41, .ireturn, 1), (42, .iconst 0, 1), (43, .ireturn, 1), (44, .lload_n 0, 1), (45, .lconst 0, 1), (46, .lcmp, 1), (47, .ifCond .le 7, 3), (50, .iconst 1, 1), (51, .goto 4, 3), (54, .iconst 0, 1), (55, .ireturn, 1), (56, .lload_n 0, 1), (57, .lconst 0, 1), (58, .lcmp, 1), (59, .ifCond .ge 7, 3), (62, .iconst 1, 1), (63, .goto 4, 3), (66, .iconst 0, 1), (67, .ireturn, 1), (68, .iload 4, 2), (70, .ifCond .lt 7, 3), (73, .iconst 1, 1), (74, .goto 4, 3), (77, .iconst 0, 1), (78, .ireturn, 1), (79, .iload 4, 2), (81, .ifCond .le 7, 3), (84, .iconst 1, 1), (85, .goto 4, 3), (88, .iconst 0, 1), (89, .ireturn, 1), (90, .iload 4, 2), (92, .ifCond .gt 18, 3), (95, .iload 4, 2), (97, .ifCond .ne 17, 3), (100, .lload_n 2, 1), (101, .ldc2_w 173, 3), (104, .lrem, 1), (105, .lconst 0, 1), (106, .lcmp, 1), (107, .ifCond .eq 7, 3), (110, .iconst 1, 1), (111, .goto 4, 3), (114, .iconst 0, 1), (115, .ireturn, 1)]
theorem gd_cX1_isFartherTaken_03_77 : ∀ q ∈ gl_cX1_isFartherTaken_03_77, decode cX1_isFartherTaken q.1 = .ok q.2 := fdk_of 40 (by decide +kernel)
theorem dX1_isFartherTaken_40 : decode cX1_isFartherTaken 40 = .ok (.iconst 1, 1) := gd_cX1_isFartherTaken_03_77 (40, .iconst 1, 1) (List.mem_of_getElem? (i := 0) rfl)
theorem dX1_isFartherTaken_41 : decode cX1_isFartherTaken 41 = .ok (.ireturn, 1) := gd_cX1_isFartherTaken_03_77 (41, .ireturn, 1) (List.mem_of_getElem? (i := 1) rfl)
theorem dX1_isFartherTaken_42 : decode cX1_isFartherTaken 42 = .ok (.iconst 0, 1) := gd_cX1_isFartherTaken_03_77 (42, .iconst 0, 1) (List.mem_of_getElem? (i := 2) rfl)
theorem dX1_isFartherTaken_43 : decode cX1_isFartherTaken 43 = .ok (.ireturn, 1) := gd_cX1_isFartherTaken_03_77 (43, .ireturn, 1) (List.mem_of_getElem? (i := 3) rfl)
theorem dX1_isFartherTaken_44 : decode cX1_isFartherTaken 44 = .ok (.lload_n 0, 1) := gd_cX1_isFartherTaken_03_77 (44, .lload_n 0, 1) (List.mem_of_getElem? (i := 4) rfl)
theorem dX1_isFartherTaken_45 : decode cX1_isFartherTaken 45 = .ok (.lconst 0, 1) := gd_cX1_isFartherTaken_03_77 (45, .lconst 0, 1) (List.mem_of_getElem? (i := 5) rfl)
theorem dX1_isFartherTaken_46 : decode cX1_isFartherTaken 46 = .ok (.lcmp, 1) := gd_cX1_isFartherTaken_03_77 (46, .lcmp, 1) (List.mem_of_getElem? (i := 6) rfl)
theorem dX1_isFartherTaken_47 : decode cX1_isFartherTaken 47 = .ok (.ifCond .le 7, 3) := gd_cX1_isFartherTaken_03_77 (47, .ifCond .le 7, 3) (List.mem_of_getElem? (i := 7) rfl)
theorem dX1_isFartherTaken_50 : decode cX1_isFartherTaken 50 = .ok (.iconst 1, 1) := gd_cX1_isFartherTaken_03_77 (50, .iconst 1, 1) (List.mem_of_getElem? (i := 8) rfl)
theorem dX1_isFartherTaken_51 : decode cX1_isFartherTaken 51 = .ok (.goto 4, 3) := gd_cX1_isFartherTaken_03_77 (51, .goto 4, 3) (List.mem_of_getElem? (i := 9) rfl)
theorem dX1_isFartherTaken_54 : decode cX1_isFartherTaken 54 = .ok (.iconst 0, 1) := gd_cX1_isFartherTaken_03_77 (54, .iconst 0, 1) (List.mem_of_getElem? (i := 10) rfl)
theorem dX1_isFartherTaken_55 : decode cX1_isFartherTaken 55 = .ok (.ireturn, 1) := gd_cX1_isFartherTaken_03_77 (55, .ireturn, 1) (List.mem_of_getElem? (i := 11) rfl)
theorem dX1_isFartherTaken_56 : decode cX1_isFartherTaken 56 = .ok (.lload_n 0, 1) := gd_cX1_isFartherTaken_03_77 (56, .lload_n 0, 1) (List.mem_of_getElem? (i := 12) rfl)
theorem dX1_isFartherTaken_57 : decode cX1_isFartherTaken 57 = .ok (.lconst 0, 1) := gd_cX1_isFartherTaken_03_77 (57, .lconst 0, 1) (List.mem_of_getElem? (i := 13) rfl)
theorem dX1_isFartherTaken_58 : decode cX1_isFartherTaken 58 = .ok (.lcmp, 1) := gd_cX1_isFartherTaken_03_77 (58, .lcmp, 1) (List.mem_of_getElem? (i := 14) rfl)
theorem dX1_isFartherTaken_59 : decode cX1_isFartherTaken 59 = .ok (.ifCond .ge 7, 3) := gd_cX1_isFartherTaken_03_77 (59, .ifCond .ge 7, 3) (List.mem_of_getElem? (i := 15) rfl)
theorem dX1_isFartherTaken_62 : decode cX1_isFartherTaken 62 = .ok (.iconst 1, 1) := gd_cX1_isFartherTaken_03_77 (62, .iconst 1, 1) (List.mem_of_getElem? (i := 16) rfl)
theorem dX1_isFartherTaken_63 : decode cX1_isFartherTaken 63 = .ok (.goto 4, 3) := gd_cX1_isFartherTaken_03_77 (63, .goto 4, 3) (List.mem_of_getElem? (i := 17) rfl)
theorem dX1_isFartherTaken_66 : decode cX1_isFartherTaken 66 = .ok (.iconst 0, 1) := gd_cX1_isFartherTaken_03_77 (66, .iconst 0, 1) (List.mem_of_getElem? (i := 18) rfl)
theorem dX1_isFartherTaken_67 : decode cX1_isFartherTaken 67 = .ok (.ireturn, 1) := gd_cX1_isFartherTaken_03_77 (67, .ireturn, 1) (List.mem_of_getElem? (i := 19) rfl)
theorem dX1_isFartherTaken_68 : decode cX1_isFartherTaken 68 = .ok (.iload 4, 2) := gd_cX1_isFartherTaken_03_77 (68, .iload 4, 2) (List.mem_of_getElem? (i := 20) rfl)
theorem dX1_isFartherTaken_70 : decode cX1_isFartherTaken 70 = .ok (.ifCond .lt 7, 3) := gd_cX1_isFartherTaken_03_77 (70, .ifCond .lt 7, 3) (List.mem_of_getElem? (i := 21) rfl)
theorem dX1_isFartherTaken_73 : decode cX1_isFartherTaken 73 = .ok (.iconst 1, 1) := gd_cX1_isFartherTaken_03_77 (73, .iconst 1, 1) (List.mem_of_getElem? (i := 22) rfl)
theorem dX1_isFartherTaken_74 : decode cX1_isFartherTaken 74 = .ok (.goto 4, 3) := gd_cX1_isFartherTaken_03_77 (74, .goto 4, 3) (List.mem_of_getElem? (i := 23) rfl)
theorem dX1_isFartherTaken_77 : decode cX1_isFartherTaken 77 = .ok (.iconst 0, 1) := gd_cX1_isFartherTaken_03_77 (77, .iconst 0, 1) (List.mem_of_getElem? (i := 24) rfl)
theorem dX1_isFartherTaken_78 : decode cX1_isFartherTaken 78 = .ok (.ireturn, 1) := gd_cX1_isFartherTaken_03_77 (78, .ireturn, 1) (List.mem_of_getElem? (i := 25) rfl)
theorem dX1_isFartherTaken_79 : decode cX1_isFartherTaken 79 = .ok (.iload 4, 2) := gd_cX1_isFartherTaken_03_77 (79, .iload 4, 2) (List.mem_of_getElem? (i := 26) rfl)
theorem dX1_isFartherTaken_81 : decode cX1_isFartherTaken 81 = .ok (.ifCond .le 7, 3) := gd_cX1_isFartherTaken_03_77 (81, .ifCond .le 7, 3) (List.mem_of_getElem? (i := 27) rfl)
theorem dX1_isFartherTaken_84 : decode cX1_isFartherTaken 84 = .ok (.iconst 1, 1) := gd_cX1_isFartherTaken_03_77 (84, .iconst 1, 1) (List.mem_of_getElem? (i := 28) rfl)
theorem dX1_isFartherTaken_85 : decode cX1_isFartherTaken 85 = .ok (.goto 4, 3) := gd_cX1_isFartherTaken_03_77 (85, .goto 4, 3) (List.mem_of_getElem? (i := 29) rfl)
theorem dX1_isFartherTaken_88 : decode cX1_isFartherTaken 88 = .ok (.iconst 0, 1) := gd_cX1_isFartherTaken_03_77 (88, .iconst 0, 1) (List.mem_of_getElem? (i := 30) rfl)
theorem dX1_isFartherTaken_89 : decode cX1_isFartherTaken 89 = .ok (.ireturn, 1) := gd_cX1_isFartherTaken_03_77 (89, .ireturn, 1) (List.mem_of_getElem? (i := 31) rfl)
theorem dX1_isFartherTaken_90 : decode cX1_isFartherTaken 90 = .ok (.iload 4, 2) := gd_cX1_isFartherTaken_03_77 (90, .iload 4, 2) (List.mem_of_getElem? (i := 32) rfl)
theorem dX1_isFartherTaken_92 : decode cX1_isFartherTaken 92 = .ok (.ifCond .gt 18, 3) := gd_cX1_isFartherTaken_03_77 (92, .ifCond .gt 18, 3) (List.mem_of_getElem? (i := 33) rfl)
theorem dX1_isFartherTaken_95 : decode cX1_isFartherTaken 95 = .ok (.iload 4, 2) := gd_cX1_isFartherTaken_03_77 (95, .iload 4, 2) (List.mem_of_getElem? (i := 34) rfl)
theorem dX1_isFartherTaken_97 : decode cX1_isFartherTaken 97 = .ok (.ifCond .ne 17, 3) := gd_cX1_isFartherTaken_03_77 (97, .ifCond .ne 17, 3) (List.mem_of_getElem? (i := 35) rfl)
theorem dX1_isFartherTaken_100 : decode cX1_isFartherTaken 100 = .ok (.lload_n 2, 1) := gd_cX1_isFartherTaken_03_77 (100, .lload_n 2, 1) (List.mem_of_getElem? (i := 36) rfl)
theorem dX1_isFartherTaken_101 : decode cX1_isFartherTaken 101 = .ok (.ldc2_w 173, 3) := gd_cX1_isFartherTaken_03_77 (101, .ldc2_w 173, 3) (List.mem_of_getElem? (i := 37) rfl)
theorem dX1_isFartherTaken_104 : decode cX1_isFartherTaken 104 = .ok (.lrem, 1) := gd_cX1_isFartherTaken_03_77 (104, .lrem, 1) (List.mem_of_getElem? (i := 38) rfl)
theorem dX1_isFartherTaken_105 : decode cX1_isFartherTaken 105 = .ok (.lconst 0, 1) := gd_cX1_isFartherTaken_03_77 (105, .lconst 0, 1) (List.mem_of_getElem? (i := 39) rfl)
theorem dX1_isFartherTaken_106 : decode cX1_isFartherTaken 106 = .ok (.lcmp, 1) := gd_cX1_isFartherTaken_03_77 (106, .lcmp, 1) (List.mem_of_getElem? (i := 40) rfl)
theorem dX1_isFartherTaken_107 : decode cX1_isFartherTaken 107 = .ok (.ifCond .eq 7, 3) := gd_cX1_isFartherTaken_03_77 (107, .ifCond .eq 7, 3) (List.mem_of_getElem? (i := 41) rfl)
theorem dX1_isFartherTaken_110 : decode cX1_isFartherTaken 110 = .ok (.iconst 1, 1) := gd_cX1_isFartherTaken_03_77 (110, .iconst 1, 1) (List.mem_of_getElem? (i := 42) rfl)
theorem dX1_isFartherTaken_111 : decode cX1_isFartherTaken 111 = .ok (.goto 4, 3) := gd_cX1_isFartherTaken_03_77 (111, .goto 4, 3) (List.mem_of_getElem? (i := 43) rfl)
theorem dX1_isFartherTaken_114 : decode cX1_isFartherTaken 114 = .ok (.iconst 0, 1) := gd_cX1_isFartherTaken_03_77 (114, .iconst 0, 1) (List.mem_of_getElem? (i := 44) rfl)
theorem dX1_isFartherTaken_115 : decode cX1_isFartherTaken 115 = .ok (.ireturn, 1) := gd_cX1_isFartherTaken_03_77 (115, .ireturn, 1) (List.mem_of_getElem? (i := 45) rfl)
def gl_cX1_cutCount_03_78 : List (Nat × Instr × Nat) := [(0, .aload_n 0, 1), (1, .getfield 16, 3), (4, .iload_n 1, 1), (5, .iaload, 1), (6, .i2l, 1), (7, .iload_n 3, 1), (8, .invokestatic 59, 3), (11, .lmul, 1), (12, .lstore 5, 2), (14, .iload_n 2, 1), (15, .ifCond .eq 9, 3), (18, .lload 5, 2), (20, .lneg, 1), (21, .goto 5, 3), (24, .lload 5, 2), (26, .aload_n 0, 1), (27, .getfield 19, 3), (30, .iload_n 1, 1), (31, .iaload, 1), (32, .i2l, 1), (33, .iload 4, 2), (35, .invokestatic 84, 3), (38, .lreturn, 1)]
theorem gd_cX1_cutCount_03_78 : ∀ q ∈ gl_cX1_cutCount_03_78, decode cX1_cutCount q.1 = .ok q.2 := fdk_of 0 (by decide +kernel)
theorem dX1_cutCount_0 : decode cX1_cutCount 0 = .ok (.aload_n 0, 1) := gd_cX1_cutCount_03_78 (0, .aload_n 0, 1) (List.mem_of_getElem? (i := 0) rfl)
theorem dX1_cutCount_1 : decode cX1_cutCount 1 = .ok (.getfield 16, 3) := gd_cX1_cutCount_03_78 (1, .getfield 16, 3) (List.mem_of_getElem? (i := 1) rfl)
theorem dX1_cutCount_4 : decode cX1_cutCount 4 = .ok (.iload_n 1, 1) := gd_cX1_cutCount_03_78 (4, .iload_n 1, 1) (List.mem_of_getElem? (i := 2) rfl)
theorem dX1_cutCount_5 : decode cX1_cutCount 5 = .ok (.iaload, 1) := gd_cX1_cutCount_03_78 (5, .iaload, 1) (List.mem_of_getElem? (i := 3) rfl)
theorem dX1_cutCount_6 : decode cX1_cutCount 6 = .ok (.i2l, 1) := gd_cX1_cutCount_03_78 (6, .i2l, 1) (List.mem_of_getElem? (i := 4) rfl)
theorem dX1_cutCount_7 : decode cX1_cutCount 7 = .ok (.iload_n 3, 1) := gd_cX1_cutCount_03_78 (7, .iload_n 3, 1) (List.mem_of_getElem? (i := 5) rfl)
theorem dX1_cutCount_8 : decode cX1_cutCount 8 = .ok (.invokestatic 59, 3) := gd_cX1_cutCount_03_78 (8, .invokestatic 59, 3) (List.mem_of_getElem? (i := 6) rfl)
theorem dX1_cutCount_11 : decode cX1_cutCount 11 = .ok (.lmul, 1) := gd_cX1_cutCount_03_78 (11, .lmul, 1) (List.mem_of_getElem? (i := 7) rfl)
theorem dX1_cutCount_12 : decode cX1_cutCount 12 = .ok (.lstore 5, 2) := gd_cX1_cutCount_03_78 (12, .lstore 5, 2) (List.mem_of_getElem? (i := 8) rfl)
theorem dX1_cutCount_14 : decode cX1_cutCount 14 = .ok (.iload_n 2, 1) := gd_cX1_cutCount_03_78 (14, .iload_n 2, 1) (List.mem_of_getElem? (i := 9) rfl)
theorem dX1_cutCount_15 : decode cX1_cutCount 15 = .ok (.ifCond .eq 9, 3) := gd_cX1_cutCount_03_78 (15, .ifCond .eq 9, 3) (List.mem_of_getElem? (i := 10) rfl)
theorem dX1_cutCount_18 : decode cX1_cutCount 18 = .ok (.lload 5, 2) := gd_cX1_cutCount_03_78 (18, .lload 5, 2) (List.mem_of_getElem? (i := 11) rfl)
theorem dX1_cutCount_20 : decode cX1_cutCount 20 = .ok (.lneg, 1) := gd_cX1_cutCount_03_78 (20, .lneg, 1) (List.mem_of_getElem? (i := 12) rfl)
theorem dX1_cutCount_21 : decode cX1_cutCount 21 = .ok (.goto 5, 3) := gd_cX1_cutCount_03_78 (21, .goto 5, 3) (List.mem_of_getElem? (i := 13) rfl)
theorem dX1_cutCount_24 : decode cX1_cutCount 24 = .ok (.lload 5, 2) := gd_cX1_cutCount_03_78 (24, .lload 5, 2) (List.mem_of_getElem? (i := 14) rfl)
theorem dX1_cutCount_26 : decode cX1_cutCount 26 = .ok (.aload_n 0, 1) := gd_cX1_cutCount_03_78 (26, .aload_n 0, 1) (List.mem_of_getElem? (i := 15) rfl)
theorem dX1_cutCount_27 : decode cX1_cutCount 27 = .ok (.getfield 19, 3) := gd_cX1_cutCount_03_78 (27, .getfield 19, 3) (List.mem_of_getElem? (i := 16) rfl)
theorem dX1_cutCount_30 : decode cX1_cutCount 30 = .ok (.iload_n 1, 1) := gd_cX1_cutCount_03_78 (30, .iload_n 1, 1) (List.mem_of_getElem? (i := 17) rfl)
theorem dX1_cutCount_31 : decode cX1_cutCount 31 = .ok (.iaload, 1) := gd_cX1_cutCount_03_78 (31, .iaload, 1) (List.mem_of_getElem? (i := 18) rfl)
theorem dX1_cutCount_32 : decode cX1_cutCount 32 = .ok (.i2l, 1) := gd_cX1_cutCount_03_78 (32, .i2l, 1) (List.mem_of_getElem? (i := 19) rfl)
theorem dX1_cutCount_33 : decode cX1_cutCount 33 = .ok (.iload 4, 2) := gd_cX1_cutCount_03_78 (33, .iload 4, 2) (List.mem_of_getElem? (i := 20) rfl)
theorem dX1_cutCount_35 : decode cX1_cutCount 35 = .ok (.invokestatic 84, 3) := gd_cX1_cutCount_03_78 (35, .invokestatic 84, 3) (List.mem_of_getElem? (i := 21) rfl)
theorem dX1_cutCount_38 : decode cX1_cutCount 38 = .ok (.lreturn, 1) := gd_cX1_cutCount_03_78 (38, .lreturn, 1) (List.mem_of_getElem? (i := 22) rfl)
def gl_cX1_leftover_03_79 : List (Nat × Instr × Nat) := [(0, .iload_n 1, 1), (1, .iconst 1, 1), (2, .if_icmp .ge 7, 3), (5, .iconst 0, 1), (6, .goto 6, 3), (9, .iload_n 0, 1), (10, .iload_n 1, 1), (11, .irem, 1), (12, .ireturn, 1)]
theorem gd_cX1_leftover_03_79 : ∀ q ∈ gl_cX1_leftover_03_79, decode cX1_leftover q.1 = .ok q.2 := fdk_of 0 (by decide +kernel)
theorem dX1_leftover_0 : decode cX1_leftover 0 = .ok (.iload_n 1, 1) := gd_cX1_leftover_03_79 (0, .iload_n 1, 1) (List.mem_of_getElem? (i := 0) rfl)
theorem dX1_leftover_1 : decode cX1_leftover 1 = .ok (.iconst 1, 1) := gd_cX1_leftover_03_79 (1, .iconst 1, 1) (List.mem_of_getElem? (i := 1) rfl)
theorem dX1_leftover_2 : decode cX1_leftover 2 = .ok (.if_icmp .ge 7, 3) := gd_cX1_leftover_03_79 (2, .if_icmp .ge 7, 3) (List.mem_of_getElem? (i := 2) rfl)
theorem dX1_leftover_5 : decode cX1_leftover 5 = .ok (.iconst 0, 1) := gd_cX1_leftover_03_79 (5, .iconst 0, 1) (List.mem_of_getElem? (i := 3) rfl)
theorem dX1_leftover_6 : decode cX1_leftover 6 = .ok (.goto 6, 3) := gd_cX1_leftover_03_79 (6, .goto 6, 3) (List.mem_of_getElem? (i := 4) rfl)
theorem dX1_leftover_9 : decode cX1_leftover 9 = .ok (.iload_n 0, 1) := gd_cX1_leftover_03_79 (9, .iload_n 0, 1) (List.mem_of_getElem? (i := 5) rfl)
theorem dX1_leftover_10 : decode cX1_leftover 10 = .ok (.iload_n 1, 1) := gd_cX1_leftover_03_79 (10, .iload_n 1, 1) (List.mem_of_getElem? (i := 6) rfl)
theorem dX1_leftover_11 : decode cX1_leftover 11 = .ok (.irem, 1) := gd_cX1_leftover_03_79 (11, .irem, 1) (List.mem_of_getElem? (i := 7) rfl)
theorem dX1_leftover_12 : decode cX1_leftover 12 = .ok (.ireturn, 1) := gd_cX1_leftover_03_79 (12, .ireturn, 1) (List.mem_of_getElem? (i := 8) rfl)
def gl_cX1_restAfter_03_80 : List (Nat × Instr × Nat) := [(0, .bipush 10, 2), (2, .iload_n 0, 1), (3, .imul, 1), (4, .iload_n 1, 1), (5, .invokestatic 147, 3), (8, .ireturn, 1)]
theorem gd_cX1_restAfter_03_80 : ∀ q ∈ gl_cX1_restAfter_03_80, decode cX1_restAfter q.1 = .ok q.2 := fdk_of 0 (by decide +kernel)
theorem dX1_restAfter_0 : decode cX1_restAfter 0 = .ok (.bipush 10, 2) := gd_cX1_restAfter_03_80 (0, .bipush 10, 2) (List.mem_of_getElem? (i := 0) rfl)
theorem dX1_restAfter_2 : decode cX1_restAfter 2 = .ok (.iload_n 0, 1) := gd_cX1_restAfter_03_80 (2, .iload_n 0, 1) (List.mem_of_getElem? (i := 1) rfl)
theorem dX1_restAfter_3 : decode cX1_restAfter 3 = .ok (.imul, 1) := gd_cX1_restAfter_03_80 (3, .imul, 1) (List.mem_of_getElem? (i := 2) rfl)
theorem dX1_restAfter_4 : decode cX1_restAfter 4 = .ok (.iload_n 1, 1) := gd_cX1_restAfter_03_80 (4, .iload_n 1, 1) (List.mem_of_getElem? (i := 3) rfl)
theorem dX1_restAfter_5 : decode cX1_restAfter 5 = .ok (.invokestatic 147, 3) := gd_cX1_restAfter_03_80 (5, .invokestatic 147, 3) (List.mem_of_getElem? (i := 4) rfl)
theorem dX1_restAfter_8 : decode cX1_restAfter 8 = .ok (.ireturn, 1) := gd_cX1_restAfter_03_80 (8, .ireturn, 1) (List.mem_of_getElem? (i := 5) rfl)
def gl_cX1_digitAfter_03_81 : List (Nat × Instr × Nat) := [(0, .iload_n 1, 1), (1, .iconst 1, 1), (2, .if_icmp .ge 7, 3), (5, .iconst 0, 1), (6, .goto 9, 3), (9, .bipush 10, 2), (11, .iload_n 0, 1), (12, .imul, 1), (13, .iload_n 1, 1), (14, .idiv, 1), (15, .ireturn, 1)]
theorem gd_cX1_digitAfter_03_81 : ∀ q ∈ gl_cX1_digitAfter_03_81, decode cX1_digitAfter q.1 = .ok q.2 := fdk_of 0 (by decide +kernel)
theorem dX1_digitAfter_0 : decode cX1_digitAfter 0 = .ok (.iload_n 1, 1) := gd_cX1_digitAfter_03_81 (0, .iload_n 1, 1) (List.mem_of_getElem? (i := 0) rfl)
theorem dX1_digitAfter_1 : decode cX1_digitAfter 1 = .ok (.iconst 1, 1) := gd_cX1_digitAfter_03_81 (1, .iconst 1, 1) (List.mem_of_getElem? (i := 1) rfl)
theorem dX1_digitAfter_2 : decode cX1_digitAfter 2 = .ok (.if_icmp .ge 7, 3) := gd_cX1_digitAfter_03_81 (2, .if_icmp .ge 7, 3) (List.mem_of_getElem? (i := 2) rfl)
theorem dX1_digitAfter_5 : decode cX1_digitAfter 5 = .ok (.iconst 0, 1) := gd_cX1_digitAfter_03_81 (5, .iconst 0, 1) (List.mem_of_getElem? (i := 3) rfl)
theorem dX1_digitAfter_6 : decode cX1_digitAfter 6 = .ok (.goto 9, 3) := gd_cX1_digitAfter_03_81 (6, .goto 9, 3) (List.mem_of_getElem? (i := 4) rfl)
theorem dX1_digitAfter_9 : decode cX1_digitAfter 9 = .ok (.bipush 10, 2) := gd_cX1_digitAfter_03_81 (9, .bipush 10, 2) (List.mem_of_getElem? (i := 5) rfl)
theorem dX1_digitAfter_11 : decode cX1_digitAfter 11 = .ok (.iload_n 0, 1) := gd_cX1_digitAfter_03_81 (11, .iload_n 0, 1) (List.mem_of_getElem? (i := 6) rfl)
theorem dX1_digitAfter_12 : decode cX1_digitAfter 12 = .ok (.imul, 1) := gd_cX1_digitAfter_03_81 (12, .imul, 1) (List.mem_of_getElem? (i := 7) rfl)
theorem dX1_digitAfter_13 : decode cX1_digitAfter 13 = .ok (.iload_n 1, 1) := gd_cX1_digitAfter_03_81 (13, .iload_n 1, 1) (List.mem_of_getElem? (i := 8) rfl)
theorem dX1_digitAfter_14 : decode cX1_digitAfter 14 = .ok (.idiv, 1) := gd_cX1_digitAfter_03_81 (14, .idiv, 1) (List.mem_of_getElem? (i := 9) rfl)
theorem dX1_digitAfter_15 : decode cX1_digitAfter 15 = .ok (.ireturn, 1) := gd_cX1_digitAfter_03_81 (15, .ireturn, 1) (List.mem_of_getElem? (i := 10) rfl)
def gl_cX1_lengthOf_03_82 : List (Nat × Instr × Nat) := [(0, .iload_n 0, 1), (1, .iload_n 1, 1), (2, .invokestatic 189, 3), (5, .istore_n 2, 1), (6, .iconst 1, 1), (7, .istore_n 3, 1), (8, .iload_n 2, 1), (9, .iload_n 0, 1), (10, .if_icmp .eq 21, 3), (13, .iload_n 3, 1), (14, .bipush 96, 2), (16, .if_icmp .ge 15, 3), (19, .iload_n 2, 1), (20, .iload_n 1, 1), (21, .invokestatic 189, 3), (24, .istore_n 2, 1), (25, .iinc 3 1, 3), (28, .goto (-20), 3), (31, .iload_n 3, 1), (32, .ireturn, 1)]
theorem gd_cX1_lengthOf_03_82 : ∀ q ∈ gl_cX1_lengthOf_03_82, decode cX1_lengthOf q.1 = .ok q.2 := fdk_of 0 (by decide +kernel)
theorem dX1_lengthOf_0 : decode cX1_lengthOf 0 = .ok (.iload_n 0, 1) := gd_cX1_lengthOf_03_82 (0, .iload_n 0, 1) (List.mem_of_getElem? (i := 0) rfl)
theorem dX1_lengthOf_1 : decode cX1_lengthOf 1 = .ok (.iload_n 1, 1) := gd_cX1_lengthOf_03_82 (1, .iload_n 1, 1) (List.mem_of_getElem? (i := 1) rfl)
theorem dX1_lengthOf_2 : decode cX1_lengthOf 2 = .ok (.invokestatic 189, 3) := gd_cX1_lengthOf_03_82 (2, .invokestatic 189, 3) (List.mem_of_getElem? (i := 2) rfl)
theorem dX1_lengthOf_5 : decode cX1_lengthOf 5 = .ok (.istore_n 2, 1) := gd_cX1_lengthOf_03_82 (5, .istore_n 2, 1) (List.mem_of_getElem? (i := 3) rfl)
theorem dX1_lengthOf_6 : decode cX1_lengthOf 6 = .ok (.iconst 1, 1) := gd_cX1_lengthOf_03_82 (6, .iconst 1, 1) (List.mem_of_getElem? (i := 4) rfl)
theorem dX1_lengthOf_7 : decode cX1_lengthOf 7 = .ok (.istore_n 3, 1) := gd_cX1_lengthOf_03_82 (7, .istore_n 3, 1) (List.mem_of_getElem? (i := 5) rfl)
theorem dX1_lengthOf_8 : decode cX1_lengthOf 8 = .ok (.iload_n 2, 1) := gd_cX1_lengthOf_03_82 (8, .iload_n 2, 1) (List.mem_of_getElem? (i := 6) rfl)
theorem dX1_lengthOf_9 : decode cX1_lengthOf 9 = .ok (.iload_n 0, 1) := gd_cX1_lengthOf_03_82 (9, .iload_n 0, 1) (List.mem_of_getElem? (i := 7) rfl)
theorem dX1_lengthOf_10 : decode cX1_lengthOf 10 = .ok (.if_icmp .eq 21, 3) := gd_cX1_lengthOf_03_82 (10, .if_icmp .eq 21, 3) (List.mem_of_getElem? (i := 8) rfl)
theorem dX1_lengthOf_13 : decode cX1_lengthOf 13 = .ok (.iload_n 3, 1) := gd_cX1_lengthOf_03_82 (13, .iload_n 3, 1) (List.mem_of_getElem? (i := 9) rfl)
theorem dX1_lengthOf_14 : decode cX1_lengthOf 14 = .ok (.bipush 96, 2) := gd_cX1_lengthOf_03_82 (14, .bipush 96, 2) (List.mem_of_getElem? (i := 10) rfl)
theorem dX1_lengthOf_16 : decode cX1_lengthOf 16 = .ok (.if_icmp .ge 15, 3) := gd_cX1_lengthOf_03_82 (16, .if_icmp .ge 15, 3) (List.mem_of_getElem? (i := 11) rfl)
theorem dX1_lengthOf_19 : decode cX1_lengthOf 19 = .ok (.iload_n 2, 1) := gd_cX1_lengthOf_03_82 (19, .iload_n 2, 1) (List.mem_of_getElem? (i := 12) rfl)
theorem dX1_lengthOf_20 : decode cX1_lengthOf 20 = .ok (.iload_n 1, 1) := gd_cX1_lengthOf_03_82 (20, .iload_n 1, 1) (List.mem_of_getElem? (i := 13) rfl)
theorem dX1_lengthOf_21 : decode cX1_lengthOf 21 = .ok (.invokestatic 189, 3) := gd_cX1_lengthOf_03_82 (21, .invokestatic 189, 3) (List.mem_of_getElem? (i := 14) rfl)
theorem dX1_lengthOf_24 : decode cX1_lengthOf 24 = .ok (.istore_n 2, 1) := gd_cX1_lengthOf_03_82 (24, .istore_n 2, 1) (List.mem_of_getElem? (i := 15) rfl)
theorem dX1_lengthOf_25 : decode cX1_lengthOf 25 = .ok (.iinc 3 1, 3) := gd_cX1_lengthOf_03_82 (25, .iinc 3 1, 3) (List.mem_of_getElem? (i := 16) rfl)
theorem dX1_lengthOf_28 : decode cX1_lengthOf 28 = .ok (.goto (-20), 3) := gd_cX1_lengthOf_03_82 (28, .goto (-20), 3) (List.mem_of_getElem? (i := 17) rfl)
theorem dX1_lengthOf_31 : decode cX1_lengthOf 31 = .ok (.iload_n 3, 1) := gd_cX1_lengthOf_03_82 (31, .iload_n 3, 1) (List.mem_of_getElem? (i := 18) rfl)
theorem dX1_lengthOf_32 : decode cX1_lengthOf 32 = .ok (.ireturn, 1) := gd_cX1_lengthOf_03_82 (32, .ireturn, 1) (List.mem_of_getElem? (i := 19) rfl)
def gl_cX1_restOfPlace_03_83 : List (Nat × Instr × Nat) := [(0, .aload_n 0, 1), (1, .getfield 16, 3), (4, .iload_n 1, 1), (5, .iaload, 1), (6, .istore_n 3, 1), (7, .iconst 0, 1), (8, .istore 4, 2), (10, .iload 4, 2), (12, .iload_n 2, 1), (13, .if_icmp .ge 20, 3), (16, .iload_n 3, 1), (17, .aload_n 0, 1), (18, .getfield 19, 3), (21, .iload_n 1, 1), (22, .iaload, 1), (23, .invokestatic 189, 3), (26, .istore_n 3, 1), (27, .iinc 4 1, 3), (30, .goto (-20), 3), (33, .iload_n 3, 1), (34, .ireturn, 1)]
theorem gd_cX1_restOfPlace_03_83 : ∀ q ∈ gl_cX1_restOfPlace_03_83, decode cX1_restOfPlace q.1 = .ok q.2 := fdk_of 0 (by decide +kernel)
theorem dX1_restOfPlace_0 : decode cX1_restOfPlace 0 = .ok (.aload_n 0, 1) := gd_cX1_restOfPlace_03_83 (0, .aload_n 0, 1) (List.mem_of_getElem? (i := 0) rfl)
theorem dX1_restOfPlace_1 : decode cX1_restOfPlace 1 = .ok (.getfield 16, 3) := gd_cX1_restOfPlace_03_83 (1, .getfield 16, 3) (List.mem_of_getElem? (i := 1) rfl)
theorem dX1_restOfPlace_4 : decode cX1_restOfPlace 4 = .ok (.iload_n 1, 1) := gd_cX1_restOfPlace_03_83 (4, .iload_n 1, 1) (List.mem_of_getElem? (i := 2) rfl)
theorem dX1_restOfPlace_5 : decode cX1_restOfPlace 5 = .ok (.iaload, 1) := gd_cX1_restOfPlace_03_83 (5, .iaload, 1) (List.mem_of_getElem? (i := 3) rfl)
theorem dX1_restOfPlace_6 : decode cX1_restOfPlace 6 = .ok (.istore_n 3, 1) := gd_cX1_restOfPlace_03_83 (6, .istore_n 3, 1) (List.mem_of_getElem? (i := 4) rfl)
theorem dX1_restOfPlace_7 : decode cX1_restOfPlace 7 = .ok (.iconst 0, 1) := gd_cX1_restOfPlace_03_83 (7, .iconst 0, 1) (List.mem_of_getElem? (i := 5) rfl)
theorem dX1_restOfPlace_8 : decode cX1_restOfPlace 8 = .ok (.istore 4, 2) := gd_cX1_restOfPlace_03_83 (8, .istore 4, 2) (List.mem_of_getElem? (i := 6) rfl)
theorem dX1_restOfPlace_10 : decode cX1_restOfPlace 10 = .ok (.iload 4, 2) := gd_cX1_restOfPlace_03_83 (10, .iload 4, 2) (List.mem_of_getElem? (i := 7) rfl)
theorem dX1_restOfPlace_12 : decode cX1_restOfPlace 12 = .ok (.iload_n 2, 1) := gd_cX1_restOfPlace_03_83 (12, .iload_n 2, 1) (List.mem_of_getElem? (i := 8) rfl)
theorem dX1_restOfPlace_13 : decode cX1_restOfPlace 13 = .ok (.if_icmp .ge 20, 3) := gd_cX1_restOfPlace_03_83 (13, .if_icmp .ge 20, 3) (List.mem_of_getElem? (i := 9) rfl)
theorem dX1_restOfPlace_16 : decode cX1_restOfPlace 16 = .ok (.iload_n 3, 1) := gd_cX1_restOfPlace_03_83 (16, .iload_n 3, 1) (List.mem_of_getElem? (i := 10) rfl)
theorem dX1_restOfPlace_17 : decode cX1_restOfPlace 17 = .ok (.aload_n 0, 1) := gd_cX1_restOfPlace_03_83 (17, .aload_n 0, 1) (List.mem_of_getElem? (i := 11) rfl)
theorem dX1_restOfPlace_18 : decode cX1_restOfPlace 18 = .ok (.getfield 19, 3) := gd_cX1_restOfPlace_03_83 (18, .getfield 19, 3) (List.mem_of_getElem? (i := 12) rfl)
theorem dX1_restOfPlace_21 : decode cX1_restOfPlace 21 = .ok (.iload_n 1, 1) := gd_cX1_restOfPlace_03_83 (21, .iload_n 1, 1) (List.mem_of_getElem? (i := 13) rfl)
theorem dX1_restOfPlace_22 : decode cX1_restOfPlace 22 = .ok (.iaload, 1) := gd_cX1_restOfPlace_03_83 (22, .iaload, 1) (List.mem_of_getElem? (i := 14) rfl)
theorem dX1_restOfPlace_23 : decode cX1_restOfPlace 23 = .ok (.invokestatic 189, 3) := gd_cX1_restOfPlace_03_83 (23, .invokestatic 189, 3) (List.mem_of_getElem? (i := 15) rfl)
theorem dX1_restOfPlace_26 : decode cX1_restOfPlace 26 = .ok (.istore_n 3, 1) := gd_cX1_restOfPlace_03_83 (26, .istore_n 3, 1) (List.mem_of_getElem? (i := 16) rfl)
theorem dX1_restOfPlace_27 : decode cX1_restOfPlace 27 = .ok (.iinc 4 1, 3) := gd_cX1_restOfPlace_03_83 (27, .iinc 4 1, 3) (List.mem_of_getElem? (i := 17) rfl)
theorem dX1_restOfPlace_30 : decode cX1_restOfPlace 30 = .ok (.goto (-20), 3) := gd_cX1_restOfPlace_03_83 (30, .goto (-20), 3) (List.mem_of_getElem? (i := 18) rfl)
theorem dX1_restOfPlace_33 : decode cX1_restOfPlace 33 = .ok (.iload_n 3, 1) := gd_cX1_restOfPlace_03_83 (33, .iload_n 3, 1) (List.mem_of_getElem? (i := 19) rfl)
theorem dX1_restOfPlace_34 : decode cX1_restOfPlace 34 = .ok (.ireturn, 1) := gd_cX1_restOfPlace_03_83 (34, .ireturn, 1) (List.mem_of_getElem? (i := 20) rfl)
def gl_cX1_bringWheel_03_84 : List (Nat × Instr × Nat) := [(0, .aload_n 0, 1), (1, .getfield 16, 3), (4, .iload_n 1, 1), (5, .iload_n 2, 1), (6, .iastore, 1), (7, .aload_n 0, 1), (8, .getfield 19, 3), (11, .iload_n 1, 1), (12, .iload_n 3, 1), (13, .iastore, 1), (14, .aload_n 0, 1), (15, .getfield 22, 3), (18, .iload_n 1, 1), (19, .iconst 0, 1), (20, .iastore, 1), (21, .aload_n 0, 1), (22, .getfield 25, 3), (25, .iload_n 1, 1), (26, .iload_n 2, 1), (27, .iload_n 3, 1), (28, .invokestatic 155, 3), (31, .iastore, 1), (32, .aload_n 0, 1), (33, .getfield 28, 3), (36, .iconst 1, 1), (37, .dup2, 1), (38, .iaload, 1), (39, .iconst 1, 1), (40, .iadd, 1), (41, .iastore, 1), (42, .return_, 1)]
theorem gd_cX1_bringWheel_03_84 : ∀ q ∈ gl_cX1_bringWheel_03_84, decode cX1_bringWheel q.1 = .ok q.2 := fdk_of 0 (by decide +kernel)
theorem dX1_bringWheel_0 : decode cX1_bringWheel 0 = .ok (.aload_n 0, 1) := gd_cX1_bringWheel_03_84 (0, .aload_n 0, 1) (List.mem_of_getElem? (i := 0) rfl)
theorem dX1_bringWheel_1 : decode cX1_bringWheel 1 = .ok (.getfield 16, 3) := gd_cX1_bringWheel_03_84 (1, .getfield 16, 3) (List.mem_of_getElem? (i := 1) rfl)
theorem dX1_bringWheel_4 : decode cX1_bringWheel 4 = .ok (.iload_n 1, 1) := gd_cX1_bringWheel_03_84 (4, .iload_n 1, 1) (List.mem_of_getElem? (i := 2) rfl)
theorem dX1_bringWheel_5 : decode cX1_bringWheel 5 = .ok (.iload_n 2, 1) := gd_cX1_bringWheel_03_84 (5, .iload_n 2, 1) (List.mem_of_getElem? (i := 3) rfl)
theorem dX1_bringWheel_6 : decode cX1_bringWheel 6 = .ok (.iastore, 1) := gd_cX1_bringWheel_03_84 (6, .iastore, 1) (List.mem_of_getElem? (i := 4) rfl)
theorem dX1_bringWheel_7 : decode cX1_bringWheel 7 = .ok (.aload_n 0, 1) := gd_cX1_bringWheel_03_84 (7, .aload_n 0, 1) (List.mem_of_getElem? (i := 5) rfl)
theorem dX1_bringWheel_8 : decode cX1_bringWheel 8 = .ok (.getfield 19, 3) := gd_cX1_bringWheel_03_84 (8, .getfield 19, 3) (List.mem_of_getElem? (i := 6) rfl)
theorem dX1_bringWheel_11 : decode cX1_bringWheel 11 = .ok (.iload_n 1, 1) := gd_cX1_bringWheel_03_84 (11, .iload_n 1, 1) (List.mem_of_getElem? (i := 7) rfl)
theorem dX1_bringWheel_12 : decode cX1_bringWheel 12 = .ok (.iload_n 3, 1) := gd_cX1_bringWheel_03_84 (12, .iload_n 3, 1) (List.mem_of_getElem? (i := 8) rfl)
theorem dX1_bringWheel_13 : decode cX1_bringWheel 13 = .ok (.iastore, 1) := gd_cX1_bringWheel_03_84 (13, .iastore, 1) (List.mem_of_getElem? (i := 9) rfl)
theorem dX1_bringWheel_14 : decode cX1_bringWheel 14 = .ok (.aload_n 0, 1) := gd_cX1_bringWheel_03_84 (14, .aload_n 0, 1) (List.mem_of_getElem? (i := 10) rfl)
theorem dX1_bringWheel_15 : decode cX1_bringWheel 15 = .ok (.getfield 22, 3) := gd_cX1_bringWheel_03_84 (15, .getfield 22, 3) (List.mem_of_getElem? (i := 11) rfl)
theorem dX1_bringWheel_18 : decode cX1_bringWheel 18 = .ok (.iload_n 1, 1) := gd_cX1_bringWheel_03_84 (18, .iload_n 1, 1) (List.mem_of_getElem? (i := 12) rfl)
theorem dX1_bringWheel_19 : decode cX1_bringWheel 19 = .ok (.iconst 0, 1) := gd_cX1_bringWheel_03_84 (19, .iconst 0, 1) (List.mem_of_getElem? (i := 13) rfl)
theorem dX1_bringWheel_20 : decode cX1_bringWheel 20 = .ok (.iastore, 1) := gd_cX1_bringWheel_03_84 (20, .iastore, 1) (List.mem_of_getElem? (i := 14) rfl)
theorem dX1_bringWheel_21 : decode cX1_bringWheel 21 = .ok (.aload_n 0, 1) := gd_cX1_bringWheel_03_84 (21, .aload_n 0, 1) (List.mem_of_getElem? (i := 15) rfl)
theorem dX1_bringWheel_22 : decode cX1_bringWheel 22 = .ok (.getfield 25, 3) := gd_cX1_bringWheel_03_84 (22, .getfield 25, 3) (List.mem_of_getElem? (i := 16) rfl)
theorem dX1_bringWheel_25 : decode cX1_bringWheel 25 = .ok (.iload_n 1, 1) := gd_cX1_bringWheel_03_84 (25, .iload_n 1, 1) (List.mem_of_getElem? (i := 17) rfl)
theorem dX1_bringWheel_26 : decode cX1_bringWheel 26 = .ok (.iload_n 2, 1) := gd_cX1_bringWheel_03_84 (26, .iload_n 2, 1) (List.mem_of_getElem? (i := 18) rfl)
theorem dX1_bringWheel_27 : decode cX1_bringWheel 27 = .ok (.iload_n 3, 1) := gd_cX1_bringWheel_03_84 (27, .iload_n 3, 1) (List.mem_of_getElem? (i := 19) rfl)
theorem dX1_bringWheel_28 : decode cX1_bringWheel 28 = .ok (.invokestatic 155, 3) := gd_cX1_bringWheel_03_84 (28, .invokestatic 155, 3) (List.mem_of_getElem? (i := 20) rfl)
theorem dX1_bringWheel_31 : decode cX1_bringWheel 31 = .ok (.iastore, 1) := gd_cX1_bringWheel_03_84 (31, .iastore, 1) (List.mem_of_getElem? (i := 21) rfl)
theorem dX1_bringWheel_32 : decode cX1_bringWheel 32 = .ok (.aload_n 0, 1) := gd_cX1_bringWheel_03_84 (32, .aload_n 0, 1) (List.mem_of_getElem? (i := 22) rfl)
theorem dX1_bringWheel_33 : decode cX1_bringWheel 33 = .ok (.getfield 28, 3) := gd_cX1_bringWheel_03_84 (33, .getfield 28, 3) (List.mem_of_getElem? (i := 23) rfl)
theorem dX1_bringWheel_36 : decode cX1_bringWheel 36 = .ok (.iconst 1, 1) := gd_cX1_bringWheel_03_84 (36, .iconst 1, 1) (List.mem_of_getElem? (i := 24) rfl)
theorem dX1_bringWheel_37 : decode cX1_bringWheel 37 = .ok (.dup2, 1) := gd_cX1_bringWheel_03_84 (37, .dup2, 1) (List.mem_of_getElem? (i := 25) rfl)
theorem dX1_bringWheel_38 : decode cX1_bringWheel 38 = .ok (.iaload, 1) := gd_cX1_bringWheel_03_84 (38, .iaload, 1) (List.mem_of_getElem? (i := 26) rfl)
theorem dX1_bringWheel_39 : decode cX1_bringWheel 39 = .ok (.iconst 1, 1) := gd_cX1_bringWheel_03_84 (39, .iconst 1, 1) (List.mem_of_getElem? (i := 27) rfl)
theorem dX1_bringWheel_40 : decode cX1_bringWheel 40 = .ok (.iadd, 1) := gd_cX1_bringWheel_03_84 (40, .iadd, 1) (List.mem_of_getElem? (i := 28) rfl)
theorem dX1_bringWheel_41 : decode cX1_bringWheel 41 = .ok (.iastore, 1) := gd_cX1_bringWheel_03_84 (41, .iastore, 1) (List.mem_of_getElem? (i := 29) rfl)
theorem dX1_bringWheel_42 : decode cX1_bringWheel 42 = .ok (.return_, 1) := gd_cX1_bringWheel_03_84 (42, .return_, 1) (List.mem_of_getElem? (i := 30) rfl)
def gl_cX1_turnBy_03_85 : List (Nat × Instr × Nat) := [(0, .aload_n 0, 1), (1, .getfield 22, 3), (4, .iload_n 1, 1), (5, .aload_n 0, 1), (6, .getfield 22, 3), (9, .iload_n 1, 1), (10, .iaload, 1), (11, .iload_n 2, 1), (12, .iadd, 1), (13, .aload_n 0, 1), (14, .getfield 25, 3), (17, .iload_n 1, 1), (18, .iaload, 1), (19, .invokestatic 147, 3), (22, .iastore, 1), (23, .aload_n 0, 1), (24, .getfield 28, 3), (27, .iconst 1, 1), (28, .dup2, 1), (29, .iaload, 1), (30, .iconst 1, 1), (31, .iadd, 1), (32, .iastore, 1), (33, .return_, 1)]
theorem gd_cX1_turnBy_03_85 : ∀ q ∈ gl_cX1_turnBy_03_85, decode cX1_turnBy q.1 = .ok q.2 := fdk_of 0 (by decide +kernel)
theorem dX1_turnBy_0 : decode cX1_turnBy 0 = .ok (.aload_n 0, 1) := gd_cX1_turnBy_03_85 (0, .aload_n 0, 1) (List.mem_of_getElem? (i := 0) rfl)
theorem dX1_turnBy_1 : decode cX1_turnBy 1 = .ok (.getfield 22, 3) := gd_cX1_turnBy_03_85 (1, .getfield 22, 3) (List.mem_of_getElem? (i := 1) rfl)
theorem dX1_turnBy_4 : decode cX1_turnBy 4 = .ok (.iload_n 1, 1) := gd_cX1_turnBy_03_85 (4, .iload_n 1, 1) (List.mem_of_getElem? (i := 2) rfl)
theorem dX1_turnBy_5 : decode cX1_turnBy 5 = .ok (.aload_n 0, 1) := gd_cX1_turnBy_03_85 (5, .aload_n 0, 1) (List.mem_of_getElem? (i := 3) rfl)
theorem dX1_turnBy_6 : decode cX1_turnBy 6 = .ok (.getfield 22, 3) := gd_cX1_turnBy_03_85 (6, .getfield 22, 3) (List.mem_of_getElem? (i := 4) rfl)
theorem dX1_turnBy_9 : decode cX1_turnBy 9 = .ok (.iload_n 1, 1) := gd_cX1_turnBy_03_85 (9, .iload_n 1, 1) (List.mem_of_getElem? (i := 5) rfl)
theorem dX1_turnBy_10 : decode cX1_turnBy 10 = .ok (.iaload, 1) := gd_cX1_turnBy_03_85 (10, .iaload, 1) (List.mem_of_getElem? (i := 6) rfl)
theorem dX1_turnBy_11 : decode cX1_turnBy 11 = .ok (.iload_n 2, 1) := gd_cX1_turnBy_03_85 (11, .iload_n 2, 1) (List.mem_of_getElem? (i := 7) rfl)
theorem dX1_turnBy_12 : decode cX1_turnBy 12 = .ok (.iadd, 1) := gd_cX1_turnBy_03_85 (12, .iadd, 1) (List.mem_of_getElem? (i := 8) rfl)
theorem dX1_turnBy_13 : decode cX1_turnBy 13 = .ok (.aload_n 0, 1) := gd_cX1_turnBy_03_85 (13, .aload_n 0, 1) (List.mem_of_getElem? (i := 9) rfl)
theorem dX1_turnBy_14 : decode cX1_turnBy 14 = .ok (.getfield 25, 3) := gd_cX1_turnBy_03_85 (14, .getfield 25, 3) (List.mem_of_getElem? (i := 10) rfl)
theorem dX1_turnBy_17 : decode cX1_turnBy 17 = .ok (.iload_n 1, 1) := gd_cX1_turnBy_03_85 (17, .iload_n 1, 1) (List.mem_of_getElem? (i := 11) rfl)
theorem dX1_turnBy_18 : decode cX1_turnBy 18 = .ok (.iaload, 1) := gd_cX1_turnBy_03_85 (18, .iaload, 1) (List.mem_of_getElem? (i := 12) rfl)
theorem dX1_turnBy_19 : decode cX1_turnBy 19 = .ok (.invokestatic 147, 3) := gd_cX1_turnBy_03_85 (19, .invokestatic 147, 3) (List.mem_of_getElem? (i := 13) rfl)
theorem dX1_turnBy_22 : decode cX1_turnBy 22 = .ok (.iastore, 1) := gd_cX1_turnBy_03_85 (22, .iastore, 1) (List.mem_of_getElem? (i := 14) rfl)
theorem dX1_turnBy_23 : decode cX1_turnBy 23 = .ok (.aload_n 0, 1) := gd_cX1_turnBy_03_85 (23, .aload_n 0, 1) (List.mem_of_getElem? (i := 15) rfl)
theorem dX1_turnBy_24 : decode cX1_turnBy 24 = .ok (.getfield 28, 3) := gd_cX1_turnBy_03_85 (24, .getfield 28, 3) (List.mem_of_getElem? (i := 16) rfl)
theorem dX1_turnBy_27 : decode cX1_turnBy 27 = .ok (.iconst 1, 1) := gd_cX1_turnBy_03_85 (27, .iconst 1, 1) (List.mem_of_getElem? (i := 17) rfl)
theorem dX1_turnBy_28 : decode cX1_turnBy 28 = .ok (.dup2, 1) := gd_cX1_turnBy_03_85 (28, .dup2, 1) (List.mem_of_getElem? (i := 18) rfl)
theorem dX1_turnBy_29 : decode cX1_turnBy 29 = .ok (.iaload, 1) := gd_cX1_turnBy_03_85 (29, .iaload, 1) (List.mem_of_getElem? (i := 19) rfl)
theorem dX1_turnBy_30 : decode cX1_turnBy 30 = .ok (.iconst 1, 1) := gd_cX1_turnBy_03_85 (30, .iconst 1, 1) (List.mem_of_getElem? (i := 20) rfl)
theorem dX1_turnBy_31 : decode cX1_turnBy 31 = .ok (.iadd, 1) := gd_cX1_turnBy_03_85 (31, .iadd, 1) (List.mem_of_getElem? (i := 21) rfl)
theorem dX1_turnBy_32 : decode cX1_turnBy 32 = .ok (.iastore, 1) := gd_cX1_turnBy_03_85 (32, .iastore, 1) (List.mem_of_getElem? (i := 22) rfl)
theorem dX1_turnBy_33 : decode cX1_turnBy 33 = .ok (.return_, 1) := gd_cX1_turnBy_03_85 (33, .return_, 1) (List.mem_of_getElem? (i := 23) rfl)
theorem dX1_spokeOf_1 : decode cX1_spokeOf 1 = .ok (.tableswitch 64 0 3 #[31, 38, 45, 52], 31) := by decide +kernel
def gl_cX1_spokeOf_03_86 : List (Nat × Instr × Nat) := [(0, .iload_n 2, 1)]
theorem gd_cX1_spokeOf_03_86 : ∀ q ∈ gl_cX1_spokeOf_03_86, decode cX1_spokeOf q.1 = .ok q.2 := fdk_of 0 (by decide +kernel)
theorem dX1_spokeOf_0 : decode cX1_spokeOf 0 = .ok (.iload_n 2, 1) := gd_cX1_spokeOf_03_86 (0, .iload_n 2, 1) (List.mem_of_getElem? (i := 0) rfl)
def gl_cX1_spokeOf_03_87 : List (Nat × Instr × Nat) := [(32, .aload_n 0, 1), (33, .getfield 16, 3), (36, .iload_n 1, 1), (37, .iaload, 1), (38, .ireturn, 1), (39, .aload_n 0, 1), (40, .getfield 19, 3), (43, .iload_n 1, 1), (44, .iaload, 1), (45, .ireturn, 1), (46, .aload_n 0, 1), (47, .getfield 22, 3), (50, .iload_n 1, 1), (51, .iaload, 1), (52, .ireturn, 1), (53, .aload_n 0, 1), (54, .iload_n 1, 1), (55, .aload_n 0, 1), (56, .getfield 22, 3), (59, .iload_n 1, 1), (60, .iaload, 1), (61, .invokevirtual 135, 3), (64, .ireturn, 1), (65, .aload_n 0, 1), (66, .getfield 25, 3), (69, .iload_n 1, 1), (70, .iaload, 1), (71, .ireturn, 1)]
theorem gd_cX1_spokeOf_03_87 : ∀ q ∈ gl_cX1_spokeOf_03_87, decode cX1_spokeOf q.1 = .ok q.2 := fdk_of 32 (by decide +kernel)
theorem dX1_spokeOf_32 : decode cX1_spokeOf 32 = .ok (.aload_n 0, 1) := gd_cX1_spokeOf_03_87 (32, .aload_n 0, 1) (List.mem_of_getElem? (i := 0) rfl)
theorem dX1_spokeOf_33 : decode cX1_spokeOf 33 = .ok (.getfield 16, 3) := gd_cX1_spokeOf_03_87 (33, .getfield 16, 3) (List.mem_of_getElem? (i := 1) rfl)
theorem dX1_spokeOf_36 : decode cX1_spokeOf 36 = .ok (.iload_n 1, 1) := gd_cX1_spokeOf_03_87 (36, .iload_n 1, 1) (List.mem_of_getElem? (i := 2) rfl)
theorem dX1_spokeOf_37 : decode cX1_spokeOf 37 = .ok (.iaload, 1) := gd_cX1_spokeOf_03_87 (37, .iaload, 1) (List.mem_of_getElem? (i := 3) rfl)
theorem dX1_spokeOf_38 : decode cX1_spokeOf 38 = .ok (.ireturn, 1) := gd_cX1_spokeOf_03_87 (38, .ireturn, 1) (List.mem_of_getElem? (i := 4) rfl)
theorem dX1_spokeOf_39 : decode cX1_spokeOf 39 = .ok (.aload_n 0, 1) := gd_cX1_spokeOf_03_87 (39, .aload_n 0, 1) (List.mem_of_getElem? (i := 5) rfl)
theorem dX1_spokeOf_40 : decode cX1_spokeOf 40 = .ok (.getfield 19, 3) := gd_cX1_spokeOf_03_87 (40, .getfield 19, 3) (List.mem_of_getElem? (i := 6) rfl)
theorem dX1_spokeOf_43 : decode cX1_spokeOf 43 = .ok (.iload_n 1, 1) := gd_cX1_spokeOf_03_87 (43, .iload_n 1, 1) (List.mem_of_getElem? (i := 7) rfl)
theorem dX1_spokeOf_44 : decode cX1_spokeOf 44 = .ok (.iaload, 1) := gd_cX1_spokeOf_03_87 (44, .iaload, 1) (List.mem_of_getElem? (i := 8) rfl)
theorem dX1_spokeOf_45 : decode cX1_spokeOf 45 = .ok (.ireturn, 1) := gd_cX1_spokeOf_03_87 (45, .ireturn, 1) (List.mem_of_getElem? (i := 9) rfl)
theorem dX1_spokeOf_46 : decode cX1_spokeOf 46 = .ok (.aload_n 0, 1) := gd_cX1_spokeOf_03_87 (46, .aload_n 0, 1) (List.mem_of_getElem? (i := 10) rfl)
theorem dX1_spokeOf_47 : decode cX1_spokeOf 47 = .ok (.getfield 22, 3) := gd_cX1_spokeOf_03_87 (47, .getfield 22, 3) (List.mem_of_getElem? (i := 11) rfl)
theorem dX1_spokeOf_50 : decode cX1_spokeOf 50 = .ok (.iload_n 1, 1) := gd_cX1_spokeOf_03_87 (50, .iload_n 1, 1) (List.mem_of_getElem? (i := 12) rfl)
theorem dX1_spokeOf_51 : decode cX1_spokeOf 51 = .ok (.iaload, 1) := gd_cX1_spokeOf_03_87 (51, .iaload, 1) (List.mem_of_getElem? (i := 13) rfl)
theorem dX1_spokeOf_52 : decode cX1_spokeOf 52 = .ok (.ireturn, 1) := gd_cX1_spokeOf_03_87 (52, .ireturn, 1) (List.mem_of_getElem? (i := 14) rfl)
theorem dX1_spokeOf_53 : decode cX1_spokeOf 53 = .ok (.aload_n 0, 1) := gd_cX1_spokeOf_03_87 (53, .aload_n 0, 1) (List.mem_of_getElem? (i := 15) rfl)
theorem dX1_spokeOf_54 : decode cX1_spokeOf 54 = .ok (.iload_n 1, 1) := gd_cX1_spokeOf_03_87 (54, .iload_n 1, 1) (List.mem_of_getElem? (i := 16) rfl)
theorem dX1_spokeOf_55 : decode cX1_spokeOf 55 = .ok (.aload_n 0, 1) := gd_cX1_spokeOf_03_87 (55, .aload_n 0, 1) (List.mem_of_getElem? (i := 17) rfl)
theorem dX1_spokeOf_56 : decode cX1_spokeOf 56 = .ok (.getfield 22, 3) := gd_cX1_spokeOf_03_87 (56, .getfield 22, 3) (List.mem_of_getElem? (i := 18) rfl)
theorem dX1_spokeOf_59 : decode cX1_spokeOf 59 = .ok (.iload_n 1, 1) := gd_cX1_spokeOf_03_87 (59, .iload_n 1, 1) (List.mem_of_getElem? (i := 19) rfl)
theorem dX1_spokeOf_60 : decode cX1_spokeOf 60 = .ok (.iaload, 1) := gd_cX1_spokeOf_03_87 (60, .iaload, 1) (List.mem_of_getElem? (i := 20) rfl)
theorem dX1_spokeOf_61 : decode cX1_spokeOf 61 = .ok (.invokevirtual 135, 3) := gd_cX1_spokeOf_03_87 (61, .invokevirtual 135, 3) (List.mem_of_getElem? (i := 21) rfl)
theorem dX1_spokeOf_64 : decode cX1_spokeOf 64 = .ok (.ireturn, 1) := gd_cX1_spokeOf_03_87 (64, .ireturn, 1) (List.mem_of_getElem? (i := 22) rfl)
theorem dX1_spokeOf_65 : decode cX1_spokeOf 65 = .ok (.aload_n 0, 1) := gd_cX1_spokeOf_03_87 (65, .aload_n 0, 1) (List.mem_of_getElem? (i := 23) rfl)
theorem dX1_spokeOf_66 : decode cX1_spokeOf 66 = .ok (.getfield 25, 3) := gd_cX1_spokeOf_03_87 (66, .getfield 25, 3) (List.mem_of_getElem? (i := 24) rfl)
theorem dX1_spokeOf_69 : decode cX1_spokeOf 69 = .ok (.iload_n 1, 1) := gd_cX1_spokeOf_03_87 (69, .iload_n 1, 1) (List.mem_of_getElem? (i := 25) rfl)
theorem dX1_spokeOf_70 : decode cX1_spokeOf 70 = .ok (.iaload, 1) := gd_cX1_spokeOf_03_87 (70, .iaload, 1) (List.mem_of_getElem? (i := 26) rfl)
theorem dX1_spokeOf_71 : decode cX1_spokeOf 71 = .ok (.ireturn, 1) := gd_cX1_spokeOf_03_87 (71, .ireturn, 1) (List.mem_of_getElem? (i := 27) rfl)
def gl_cX1_digitText_03_88 : List (Nat × Instr × Nat) := [(0, .new 252, 3), (3, .dup, 1), (4, .invokespecial 254, 3), (7, .astore 4, 2), (9, .aload_n 0, 1), (10, .iload_n 1, 1), (11, .iload_n 2, 1), (12, .invokevirtual 135, 3), (15, .istore 5, 2), (17, .iconst 0, 1), (18, .istore 6, 2), (20, .iload 6, 2), (22, .iload_n 3, 1), (23, .if_icmp .ge 42, 3), (26, .aload 4, 2), (28, .iload 5, 2), (30, .aload_n 0, 1), (31, .getfield 19, 3), (34, .iload_n 1, 1), (35, .iaload, 1), (36, .invokestatic 138, 3), (39, .invokestatic 259, 3), (42, .invokevirtual 255, 3), (45, .pop, 1), (46, .iload 5, 2), (48, .aload_n 0, 1), (49, .getfield 19, 3), (52, .iload_n 1, 1), (53, .iaload, 1), (54, .invokestatic 189, 3), (57, .istore 5, 2), (59, .iinc 6 1, 3), (62, .goto (-42), 3), (65, .aload 4, 2), (67, .invokevirtual 267, 3), (70, .areturn, 1)]
theorem gd_cX1_digitText_03_88 : ∀ q ∈ gl_cX1_digitText_03_88, decode cX1_digitText q.1 = .ok q.2 := fdk_of 0 (by decide +kernel)
theorem dX1_digitText_0 : decode cX1_digitText 0 = .ok (.new 252, 3) := gd_cX1_digitText_03_88 (0, .new 252, 3) (List.mem_of_getElem? (i := 0) rfl)
theorem dX1_digitText_3 : decode cX1_digitText 3 = .ok (.dup, 1) := gd_cX1_digitText_03_88 (3, .dup, 1) (List.mem_of_getElem? (i := 1) rfl)
theorem dX1_digitText_4 : decode cX1_digitText 4 = .ok (.invokespecial 254, 3) := gd_cX1_digitText_03_88 (4, .invokespecial 254, 3) (List.mem_of_getElem? (i := 2) rfl)
theorem dX1_digitText_7 : decode cX1_digitText 7 = .ok (.astore 4, 2) := gd_cX1_digitText_03_88 (7, .astore 4, 2) (List.mem_of_getElem? (i := 3) rfl)
theorem dX1_digitText_9 : decode cX1_digitText 9 = .ok (.aload_n 0, 1) := gd_cX1_digitText_03_88 (9, .aload_n 0, 1) (List.mem_of_getElem? (i := 4) rfl)
theorem dX1_digitText_10 : decode cX1_digitText 10 = .ok (.iload_n 1, 1) := gd_cX1_digitText_03_88 (10, .iload_n 1, 1) (List.mem_of_getElem? (i := 5) rfl)
theorem dX1_digitText_11 : decode cX1_digitText 11 = .ok (.iload_n 2, 1) := gd_cX1_digitText_03_88 (11, .iload_n 2, 1) (List.mem_of_getElem? (i := 6) rfl)
theorem dX1_digitText_12 : decode cX1_digitText 12 = .ok (.invokevirtual 135, 3) := gd_cX1_digitText_03_88 (12, .invokevirtual 135, 3) (List.mem_of_getElem? (i := 7) rfl)
theorem dX1_digitText_15 : decode cX1_digitText 15 = .ok (.istore 5, 2) := gd_cX1_digitText_03_88 (15, .istore 5, 2) (List.mem_of_getElem? (i := 8) rfl)
theorem dX1_digitText_17 : decode cX1_digitText 17 = .ok (.iconst 0, 1) := gd_cX1_digitText_03_88 (17, .iconst 0, 1) (List.mem_of_getElem? (i := 9) rfl)
theorem dX1_digitText_18 : decode cX1_digitText 18 = .ok (.istore 6, 2) := gd_cX1_digitText_03_88 (18, .istore 6, 2) (List.mem_of_getElem? (i := 10) rfl)
theorem dX1_digitText_20 : decode cX1_digitText 20 = .ok (.iload 6, 2) := gd_cX1_digitText_03_88 (20, .iload 6, 2) (List.mem_of_getElem? (i := 11) rfl)
theorem dX1_digitText_22 : decode cX1_digitText 22 = .ok (.iload_n 3, 1) := gd_cX1_digitText_03_88 (22, .iload_n 3, 1) (List.mem_of_getElem? (i := 12) rfl)
theorem dX1_digitText_23 : decode cX1_digitText 23 = .ok (.if_icmp .ge 42, 3) := gd_cX1_digitText_03_88 (23, .if_icmp .ge 42, 3) (List.mem_of_getElem? (i := 13) rfl)
theorem dX1_digitText_26 : decode cX1_digitText 26 = .ok (.aload 4, 2) := gd_cX1_digitText_03_88 (26, .aload 4, 2) (List.mem_of_getElem? (i := 14) rfl)
theorem dX1_digitText_28 : decode cX1_digitText 28 = .ok (.iload 5, 2) := gd_cX1_digitText_03_88 (28, .iload 5, 2) (List.mem_of_getElem? (i := 15) rfl)
theorem dX1_digitText_30 : decode cX1_digitText 30 = .ok (.aload_n 0, 1) := gd_cX1_digitText_03_88 (30, .aload_n 0, 1) (List.mem_of_getElem? (i := 16) rfl)
theorem dX1_digitText_31 : decode cX1_digitText 31 = .ok (.getfield 19, 3) := gd_cX1_digitText_03_88 (31, .getfield 19, 3) (List.mem_of_getElem? (i := 17) rfl)
theorem dX1_digitText_34 : decode cX1_digitText 34 = .ok (.iload_n 1, 1) := gd_cX1_digitText_03_88 (34, .iload_n 1, 1) (List.mem_of_getElem? (i := 18) rfl)
theorem dX1_digitText_35 : decode cX1_digitText 35 = .ok (.iaload, 1) := gd_cX1_digitText_03_88 (35, .iaload, 1) (List.mem_of_getElem? (i := 19) rfl)
theorem dX1_digitText_36 : decode cX1_digitText 36 = .ok (.invokestatic 138, 3) := gd_cX1_digitText_03_88 (36, .invokestatic 138, 3) (List.mem_of_getElem? (i := 20) rfl)
theorem dX1_digitText_39 : decode cX1_digitText 39 = .ok (.invokestatic 259, 3) := gd_cX1_digitText_03_88 (39, .invokestatic 259, 3) (List.mem_of_getElem? (i := 21) rfl)
theorem dX1_digitText_42 : decode cX1_digitText 42 = .ok (.invokevirtual 255, 3) := gd_cX1_digitText_03_88 (42, .invokevirtual 255, 3) (List.mem_of_getElem? (i := 22) rfl)
theorem dX1_digitText_45 : decode cX1_digitText 45 = .ok (.pop, 1) := gd_cX1_digitText_03_88 (45, .pop, 1) (List.mem_of_getElem? (i := 23) rfl)
theorem dX1_digitText_46 : decode cX1_digitText 46 = .ok (.iload 5, 2) := gd_cX1_digitText_03_88 (46, .iload 5, 2) (List.mem_of_getElem? (i := 24) rfl)
theorem dX1_digitText_48 : decode cX1_digitText 48 = .ok (.aload_n 0, 1) := gd_cX1_digitText_03_88 (48, .aload_n 0, 1) (List.mem_of_getElem? (i := 25) rfl)
theorem dX1_digitText_49 : decode cX1_digitText 49 = .ok (.getfield 19, 3) := gd_cX1_digitText_03_88 (49, .getfield 19, 3) (List.mem_of_getElem? (i := 26) rfl)
theorem dX1_digitText_52 : decode cX1_digitText 52 = .ok (.iload_n 1, 1) := gd_cX1_digitText_03_88 (52, .iload_n 1, 1) (List.mem_of_getElem? (i := 27) rfl)
theorem dX1_digitText_53 : decode cX1_digitText 53 = .ok (.iaload, 1) := gd_cX1_digitText_03_88 (53, .iaload, 1) (List.mem_of_getElem? (i := 28) rfl)
theorem dX1_digitText_54 : decode cX1_digitText 54 = .ok (.invokestatic 189, 3) := gd_cX1_digitText_03_88 (54, .invokestatic 189, 3) (List.mem_of_getElem? (i := 29) rfl)
theorem dX1_digitText_57 : decode cX1_digitText 57 = .ok (.istore 5, 2) := gd_cX1_digitText_03_88 (57, .istore 5, 2) (List.mem_of_getElem? (i := 30) rfl)
theorem dX1_digitText_59 : decode cX1_digitText 59 = .ok (.iinc 6 1, 3) := gd_cX1_digitText_03_88 (59, .iinc 6 1, 3) (List.mem_of_getElem? (i := 31) rfl)
theorem dX1_digitText_62 : decode cX1_digitText 62 = .ok (.goto (-42), 3) := gd_cX1_digitText_03_88 (62, .goto (-42), 3) (List.mem_of_getElem? (i := 32) rfl)
theorem dX1_digitText_65 : decode cX1_digitText 65 = .ok (.aload 4, 2) := gd_cX1_digitText_03_88 (65, .aload 4, 2) (List.mem_of_getElem? (i := 33) rfl)
theorem dX1_digitText_67 : decode cX1_digitText 67 = .ok (.invokevirtual 267, 3) := gd_cX1_digitText_03_88 (67, .invokevirtual 267, 3) (List.mem_of_getElem? (i := 34) rfl)
theorem dX1_digitText_70 : decode cX1_digitText 70 = .ok (.areturn, 1) := gd_cX1_digitText_03_88 (70, .areturn, 1) (List.mem_of_getElem? (i := 35) rfl)
def gl_cX1_orderOfWheels_03_89 : List (Nat × Instr × Nat) := [(0, .aload_n 0, 1), (1, .getfield 16, 3), (4, .iload_n 1, 1), (5, .iaload, 1), (6, .aload_n 0, 1), (7, .getfield 19, 3), (10, .iload_n 2, 1), (11, .iaload, 1), (12, .imul, 1), (13, .aload_n 0, 1), (14, .getfield 16, 3), (17, .iload_n 2, 1), (18, .iaload, 1), (19, .aload_n 0, 1), (20, .getfield 19, 3), (23, .iload_n 1, 1), (24, .iaload, 1), (25, .imul, 1), (26, .isub, 1), (27, .i2l, 1), (28, .invokestatic 117, 3), (31, .ireturn, 1)]
theorem gd_cX1_orderOfWheels_03_89 : ∀ q ∈ gl_cX1_orderOfWheels_03_89, decode cX1_orderOfWheels q.1 = .ok q.2 := fdk_of 0 (by decide +kernel)
theorem dX1_orderOfWheels_0 : decode cX1_orderOfWheels 0 = .ok (.aload_n 0, 1) := gd_cX1_orderOfWheels_03_89 (0, .aload_n 0, 1) (List.mem_of_getElem? (i := 0) rfl)
theorem dX1_orderOfWheels_1 : decode cX1_orderOfWheels 1 = .ok (.getfield 16, 3) := gd_cX1_orderOfWheels_03_89 (1, .getfield 16, 3) (List.mem_of_getElem? (i := 1) rfl)
theorem dX1_orderOfWheels_4 : decode cX1_orderOfWheels 4 = .ok (.iload_n 1, 1) := gd_cX1_orderOfWheels_03_89 (4, .iload_n 1, 1) (List.mem_of_getElem? (i := 2) rfl)
theorem dX1_orderOfWheels_5 : decode cX1_orderOfWheels 5 = .ok (.iaload, 1) := gd_cX1_orderOfWheels_03_89 (5, .iaload, 1) (List.mem_of_getElem? (i := 3) rfl)
theorem dX1_orderOfWheels_6 : decode cX1_orderOfWheels 6 = .ok (.aload_n 0, 1) := gd_cX1_orderOfWheels_03_89 (6, .aload_n 0, 1) (List.mem_of_getElem? (i := 4) rfl)
theorem dX1_orderOfWheels_7 : decode cX1_orderOfWheels 7 = .ok (.getfield 19, 3) := gd_cX1_orderOfWheels_03_89 (7, .getfield 19, 3) (List.mem_of_getElem? (i := 5) rfl)
theorem dX1_orderOfWheels_10 : decode cX1_orderOfWheels 10 = .ok (.iload_n 2, 1) := gd_cX1_orderOfWheels_03_89 (10, .iload_n 2, 1) (List.mem_of_getElem? (i := 6) rfl)
theorem dX1_orderOfWheels_11 : decode cX1_orderOfWheels 11 = .ok (.iaload, 1) := gd_cX1_orderOfWheels_03_89 (11, .iaload, 1) (List.mem_of_getElem? (i := 7) rfl)
theorem dX1_orderOfWheels_12 : decode cX1_orderOfWheels 12 = .ok (.imul, 1) := gd_cX1_orderOfWheels_03_89 (12, .imul, 1) (List.mem_of_getElem? (i := 8) rfl)
theorem dX1_orderOfWheels_13 : decode cX1_orderOfWheels 13 = .ok (.aload_n 0, 1) := gd_cX1_orderOfWheels_03_89 (13, .aload_n 0, 1) (List.mem_of_getElem? (i := 9) rfl)
theorem dX1_orderOfWheels_14 : decode cX1_orderOfWheels 14 = .ok (.getfield 16, 3) := gd_cX1_orderOfWheels_03_89 (14, .getfield 16, 3) (List.mem_of_getElem? (i := 10) rfl)
theorem dX1_orderOfWheels_17 : decode cX1_orderOfWheels 17 = .ok (.iload_n 2, 1) := gd_cX1_orderOfWheels_03_89 (17, .iload_n 2, 1) (List.mem_of_getElem? (i := 11) rfl)
theorem dX1_orderOfWheels_18 : decode cX1_orderOfWheels 18 = .ok (.iaload, 1) := gd_cX1_orderOfWheels_03_89 (18, .iaload, 1) (List.mem_of_getElem? (i := 12) rfl)
theorem dX1_orderOfWheels_19 : decode cX1_orderOfWheels 19 = .ok (.aload_n 0, 1) := gd_cX1_orderOfWheels_03_89 (19, .aload_n 0, 1) (List.mem_of_getElem? (i := 13) rfl)
theorem dX1_orderOfWheels_20 : decode cX1_orderOfWheels 20 = .ok (.getfield 19, 3) := gd_cX1_orderOfWheels_03_89 (20, .getfield 19, 3) (List.mem_of_getElem? (i := 14) rfl)
theorem dX1_orderOfWheels_23 : decode cX1_orderOfWheels 23 = .ok (.iload_n 1, 1) := gd_cX1_orderOfWheels_03_89 (23, .iload_n 1, 1) (List.mem_of_getElem? (i := 15) rfl)
theorem dX1_orderOfWheels_24 : decode cX1_orderOfWheels 24 = .ok (.iaload, 1) := gd_cX1_orderOfWheels_03_89 (24, .iaload, 1) (List.mem_of_getElem? (i := 16) rfl)
theorem dX1_orderOfWheels_25 : decode cX1_orderOfWheels 25 = .ok (.imul, 1) := gd_cX1_orderOfWheels_03_89 (25, .imul, 1) (List.mem_of_getElem? (i := 17) rfl)
theorem dX1_orderOfWheels_26 : decode cX1_orderOfWheels 26 = .ok (.isub, 1) := gd_cX1_orderOfWheels_03_89 (26, .isub, 1) (List.mem_of_getElem? (i := 18) rfl)
theorem dX1_orderOfWheels_27 : decode cX1_orderOfWheels 27 = .ok (.i2l, 1) := gd_cX1_orderOfWheels_03_89 (27, .i2l, 1) (List.mem_of_getElem? (i := 19) rfl)
theorem dX1_orderOfWheels_28 : decode cX1_orderOfWheels 28 = .ok (.invokestatic 117, 3) := gd_cX1_orderOfWheels_03_89 (28, .invokestatic 117, 3) (List.mem_of_getElem? (i := 20) rfl)
theorem dX1_orderOfWheels_31 : decode cX1_orderOfWheels 31 = .ok (.ireturn, 1) := gd_cX1_orderOfWheels_03_89 (31, .ireturn, 1) (List.mem_of_getElem? (i := 21) rfl)
def gl_cX1_orderAgainst_03_90 : List (Nat × Instr × Nat) := [(0, .aload_n 0, 1), (1, .getfield 16, 3), (4, .iload_n 1, 1), (5, .iaload, 1), (6, .i2l, 1), (7, .aload_n 0, 1), (8, .getfield 13, 3), (11, .iload_n 2, 1), (12, .iaload, 1), (13, .invokestatic 59, 3), (16, .lmul, 1), (17, .aload_n 0, 1), (18, .getfield 9, 3), (21, .iload_n 2, 1), (22, .iaload, 1), (23, .i2l, 1), (24, .aload_n 0, 1), (25, .getfield 19, 3), (28, .iload_n 1, 1), (29, .iaload, 1), (30, .i2l, 1), (31, .lmul, 1), (32, .lsub, 1), (33, .invokestatic 117, 3), (36, .ireturn, 1)]
theorem gd_cX1_orderAgainst_03_90 : ∀ q ∈ gl_cX1_orderAgainst_03_90, decode cX1_orderAgainst q.1 = .ok q.2 := fdk_of 0 (by decide +kernel)
theorem dX1_orderAgainst_0 : decode cX1_orderAgainst 0 = .ok (.aload_n 0, 1) := gd_cX1_orderAgainst_03_90 (0, .aload_n 0, 1) (List.mem_of_getElem? (i := 0) rfl)
theorem dX1_orderAgainst_1 : decode cX1_orderAgainst 1 = .ok (.getfield 16, 3) := gd_cX1_orderAgainst_03_90 (1, .getfield 16, 3) (List.mem_of_getElem? (i := 1) rfl)
theorem dX1_orderAgainst_4 : decode cX1_orderAgainst 4 = .ok (.iload_n 1, 1) := gd_cX1_orderAgainst_03_90 (4, .iload_n 1, 1) (List.mem_of_getElem? (i := 2) rfl)
theorem dX1_orderAgainst_5 : decode cX1_orderAgainst 5 = .ok (.iaload, 1) := gd_cX1_orderAgainst_03_90 (5, .iaload, 1) (List.mem_of_getElem? (i := 3) rfl)
theorem dX1_orderAgainst_6 : decode cX1_orderAgainst 6 = .ok (.i2l, 1) := gd_cX1_orderAgainst_03_90 (6, .i2l, 1) (List.mem_of_getElem? (i := 4) rfl)
theorem dX1_orderAgainst_7 : decode cX1_orderAgainst 7 = .ok (.aload_n 0, 1) := gd_cX1_orderAgainst_03_90 (7, .aload_n 0, 1) (List.mem_of_getElem? (i := 5) rfl)
theorem dX1_orderAgainst_8 : decode cX1_orderAgainst 8 = .ok (.getfield 13, 3) := gd_cX1_orderAgainst_03_90 (8, .getfield 13, 3) (List.mem_of_getElem? (i := 6) rfl)
theorem dX1_orderAgainst_11 : decode cX1_orderAgainst 11 = .ok (.iload_n 2, 1) := gd_cX1_orderAgainst_03_90 (11, .iload_n 2, 1) (List.mem_of_getElem? (i := 7) rfl)
theorem dX1_orderAgainst_12 : decode cX1_orderAgainst 12 = .ok (.iaload, 1) := gd_cX1_orderAgainst_03_90 (12, .iaload, 1) (List.mem_of_getElem? (i := 8) rfl)
theorem dX1_orderAgainst_13 : decode cX1_orderAgainst 13 = .ok (.invokestatic 59, 3) := gd_cX1_orderAgainst_03_90 (13, .invokestatic 59, 3) (List.mem_of_getElem? (i := 9) rfl)
theorem dX1_orderAgainst_16 : decode cX1_orderAgainst 16 = .ok (.lmul, 1) := gd_cX1_orderAgainst_03_90 (16, .lmul, 1) (List.mem_of_getElem? (i := 10) rfl)
theorem dX1_orderAgainst_17 : decode cX1_orderAgainst 17 = .ok (.aload_n 0, 1) := gd_cX1_orderAgainst_03_90 (17, .aload_n 0, 1) (List.mem_of_getElem? (i := 11) rfl)
theorem dX1_orderAgainst_18 : decode cX1_orderAgainst 18 = .ok (.getfield 9, 3) := gd_cX1_orderAgainst_03_90 (18, .getfield 9, 3) (List.mem_of_getElem? (i := 12) rfl)
theorem dX1_orderAgainst_21 : decode cX1_orderAgainst 21 = .ok (.iload_n 2, 1) := gd_cX1_orderAgainst_03_90 (21, .iload_n 2, 1) (List.mem_of_getElem? (i := 13) rfl)
theorem dX1_orderAgainst_22 : decode cX1_orderAgainst 22 = .ok (.iaload, 1) := gd_cX1_orderAgainst_03_90 (22, .iaload, 1) (List.mem_of_getElem? (i := 14) rfl)
theorem dX1_orderAgainst_23 : decode cX1_orderAgainst 23 = .ok (.i2l, 1) := gd_cX1_orderAgainst_03_90 (23, .i2l, 1) (List.mem_of_getElem? (i := 15) rfl)
theorem dX1_orderAgainst_24 : decode cX1_orderAgainst 24 = .ok (.aload_n 0, 1) := gd_cX1_orderAgainst_03_90 (24, .aload_n 0, 1) (List.mem_of_getElem? (i := 16) rfl)
theorem dX1_orderAgainst_25 : decode cX1_orderAgainst 25 = .ok (.getfield 19, 3) := gd_cX1_orderAgainst_03_90 (25, .getfield 19, 3) (List.mem_of_getElem? (i := 17) rfl)
theorem dX1_orderAgainst_28 : decode cX1_orderAgainst 28 = .ok (.iload_n 1, 1) := gd_cX1_orderAgainst_03_90 (28, .iload_n 1, 1) (List.mem_of_getElem? (i := 18) rfl)
theorem dX1_orderAgainst_29 : decode cX1_orderAgainst 29 = .ok (.iaload, 1) := gd_cX1_orderAgainst_03_90 (29, .iaload, 1) (List.mem_of_getElem? (i := 19) rfl)
theorem dX1_orderAgainst_30 : decode cX1_orderAgainst 30 = .ok (.i2l, 1) := gd_cX1_orderAgainst_03_90 (30, .i2l, 1) (List.mem_of_getElem? (i := 20) rfl)
theorem dX1_orderAgainst_31 : decode cX1_orderAgainst 31 = .ok (.lmul, 1) := gd_cX1_orderAgainst_03_90 (31, .lmul, 1) (List.mem_of_getElem? (i := 21) rfl)
theorem dX1_orderAgainst_32 : decode cX1_orderAgainst 32 = .ok (.lsub, 1) := gd_cX1_orderAgainst_03_90 (32, .lsub, 1) (List.mem_of_getElem? (i := 22) rfl)
theorem dX1_orderAgainst_33 : decode cX1_orderAgainst 33 = .ok (.invokestatic 117, 3) := gd_cX1_orderAgainst_03_90 (33, .invokestatic 117, 3) (List.mem_of_getElem? (i := 23) rfl)
theorem dX1_orderAgainst_36 : decode cX1_orderAgainst 36 = .ok (.ireturn, 1) := gd_cX1_orderAgainst_03_90 (36, .ireturn, 1) (List.mem_of_getElem? (i := 24) rfl)
def gl_cX1_workOutProduct_03_91 : List (Nat × Instr × Nat) := [(0, .aload_n 0, 1), (1, .getfield 19, 3), (4, .iload_n 1, 1), (5, .iaload, 1), (6, .istore_n 2, 1), (7, .aload_n 0, 1), (8, .getfield 16, 3), (11, .iload_n 1, 1), (12, .iaload, 1), (13, .istore_n 3, 1), (14, .aload_n 0, 1), (15, .getfield 34, 3), (18, .invokevirtual 274, 3), (21, .aload_n 0, 1), (22, .getfield 25, 3), (25, .iload_n 1, 1), (26, .iaload, 1), (27, .iconst 1, 1), (28, .isub, 1), (29, .istore 4, 2), (31, .iload 4, 2), (33, .ifCond .lt 31, 3), (36, .aload_n 0, 1), (37, .getfield 34, 3), (40, .iload 4, 2), (42, .iload_n 3, 1), (43, .iload_n 2, 1), (44, .invokestatic 138, 3), (47, .iload_n 2, 1), (48, .imul, 1), (49, .invokevirtual 277, 3), (52, .iload_n 3, 1), (53, .iload_n 2, 1), (54, .invokestatic 189, 3), (57, .istore_n 3, 1), (58, .iinc 4 (-1), 3), (61, .goto (-30), 3), (64, .aload_n 0, 1), (65, .getfield 34, 3), (68, .invokevirtual 280, 3), (71, .return_, 1)]
theorem gd_cX1_workOutProduct_03_91 : ∀ q ∈ gl_cX1_workOutProduct_03_91, decode cX1_workOutProduct q.1 = .ok q.2 := fdk_of 0 (by decide +kernel)
theorem dX1_workOutProduct_0 : decode cX1_workOutProduct 0 = .ok (.aload_n 0, 1) := gd_cX1_workOutProduct_03_91 (0, .aload_n 0, 1) (List.mem_of_getElem? (i := 0) rfl)
theorem dX1_workOutProduct_1 : decode cX1_workOutProduct 1 = .ok (.getfield 19, 3) := gd_cX1_workOutProduct_03_91 (1, .getfield 19, 3) (List.mem_of_getElem? (i := 1) rfl)
theorem dX1_workOutProduct_4 : decode cX1_workOutProduct 4 = .ok (.iload_n 1, 1) := gd_cX1_workOutProduct_03_91 (4, .iload_n 1, 1) (List.mem_of_getElem? (i := 2) rfl)
theorem dX1_workOutProduct_5 : decode cX1_workOutProduct 5 = .ok (.iaload, 1) := gd_cX1_workOutProduct_03_91 (5, .iaload, 1) (List.mem_of_getElem? (i := 3) rfl)
theorem dX1_workOutProduct_6 : decode cX1_workOutProduct 6 = .ok (.istore_n 2, 1) := gd_cX1_workOutProduct_03_91 (6, .istore_n 2, 1) (List.mem_of_getElem? (i := 4) rfl)
theorem dX1_workOutProduct_7 : decode cX1_workOutProduct 7 = .ok (.aload_n 0, 1) := gd_cX1_workOutProduct_03_91 (7, .aload_n 0, 1) (List.mem_of_getElem? (i := 5) rfl)
theorem dX1_workOutProduct_8 : decode cX1_workOutProduct 8 = .ok (.getfield 16, 3) := gd_cX1_workOutProduct_03_91 (8, .getfield 16, 3) (List.mem_of_getElem? (i := 6) rfl)
theorem dX1_workOutProduct_11 : decode cX1_workOutProduct 11 = .ok (.iload_n 1, 1) := gd_cX1_workOutProduct_03_91 (11, .iload_n 1, 1) (List.mem_of_getElem? (i := 7) rfl)
theorem dX1_workOutProduct_12 : decode cX1_workOutProduct 12 = .ok (.iaload, 1) := gd_cX1_workOutProduct_03_91 (12, .iaload, 1) (List.mem_of_getElem? (i := 8) rfl)
theorem dX1_workOutProduct_13 : decode cX1_workOutProduct 13 = .ok (.istore_n 3, 1) := gd_cX1_workOutProduct_03_91 (13, .istore_n 3, 1) (List.mem_of_getElem? (i := 9) rfl)
theorem dX1_workOutProduct_14 : decode cX1_workOutProduct 14 = .ok (.aload_n 0, 1) := gd_cX1_workOutProduct_03_91 (14, .aload_n 0, 1) (List.mem_of_getElem? (i := 10) rfl)
theorem dX1_workOutProduct_15 : decode cX1_workOutProduct 15 = .ok (.getfield 34, 3) := gd_cX1_workOutProduct_03_91 (15, .getfield 34, 3) (List.mem_of_getElem? (i := 11) rfl)
theorem dX1_workOutProduct_18 : decode cX1_workOutProduct 18 = .ok (.invokevirtual 274, 3) := gd_cX1_workOutProduct_03_91 (18, .invokevirtual 274, 3) (List.mem_of_getElem? (i := 12) rfl)
theorem dX1_workOutProduct_21 : decode cX1_workOutProduct 21 = .ok (.aload_n 0, 1) := gd_cX1_workOutProduct_03_91 (21, .aload_n 0, 1) (List.mem_of_getElem? (i := 13) rfl)
theorem dX1_workOutProduct_22 : decode cX1_workOutProduct 22 = .ok (.getfield 25, 3) := gd_cX1_workOutProduct_03_91 (22, .getfield 25, 3) (List.mem_of_getElem? (i := 14) rfl)
theorem dX1_workOutProduct_25 : decode cX1_workOutProduct 25 = .ok (.iload_n 1, 1) := gd_cX1_workOutProduct_03_91 (25, .iload_n 1, 1) (List.mem_of_getElem? (i := 15) rfl)
theorem dX1_workOutProduct_26 : decode cX1_workOutProduct 26 = .ok (.iaload, 1) := gd_cX1_workOutProduct_03_91 (26, .iaload, 1) (List.mem_of_getElem? (i := 16) rfl)
theorem dX1_workOutProduct_27 : decode cX1_workOutProduct 27 = .ok (.iconst 1, 1) := gd_cX1_workOutProduct_03_91 (27, .iconst 1, 1) (List.mem_of_getElem? (i := 17) rfl)
theorem dX1_workOutProduct_28 : decode cX1_workOutProduct 28 = .ok (.isub, 1) := gd_cX1_workOutProduct_03_91 (28, .isub, 1) (List.mem_of_getElem? (i := 18) rfl)
theorem dX1_workOutProduct_29 : decode cX1_workOutProduct 29 = .ok (.istore 4, 2) := gd_cX1_workOutProduct_03_91 (29, .istore 4, 2) (List.mem_of_getElem? (i := 19) rfl)
theorem dX1_workOutProduct_31 : decode cX1_workOutProduct 31 = .ok (.iload 4, 2) := gd_cX1_workOutProduct_03_91 (31, .iload 4, 2) (List.mem_of_getElem? (i := 20) rfl)
theorem dX1_workOutProduct_33 : decode cX1_workOutProduct 33 = .ok (.ifCond .lt 31, 3) := gd_cX1_workOutProduct_03_91 (33, .ifCond .lt 31, 3) (List.mem_of_getElem? (i := 21) rfl)
theorem dX1_workOutProduct_36 : decode cX1_workOutProduct 36 = .ok (.aload_n 0, 1) := gd_cX1_workOutProduct_03_91 (36, .aload_n 0, 1) (List.mem_of_getElem? (i := 22) rfl)
theorem dX1_workOutProduct_37 : decode cX1_workOutProduct 37 = .ok (.getfield 34, 3) := gd_cX1_workOutProduct_03_91 (37, .getfield 34, 3) (List.mem_of_getElem? (i := 23) rfl)
theorem dX1_workOutProduct_40 : decode cX1_workOutProduct 40 = .ok (.iload 4, 2) := gd_cX1_workOutProduct_03_91 (40, .iload 4, 2) (List.mem_of_getElem? (i := 24) rfl)
theorem dX1_workOutProduct_42 : decode cX1_workOutProduct 42 = .ok (.iload_n 3, 1) := gd_cX1_workOutProduct_03_91 (42, .iload_n 3, 1) (List.mem_of_getElem? (i := 25) rfl)
theorem dX1_workOutProduct_43 : decode cX1_workOutProduct 43 = .ok (.iload_n 2, 1) := gd_cX1_workOutProduct_03_91 (43, .iload_n 2, 1) (List.mem_of_getElem? (i := 26) rfl)
theorem dX1_workOutProduct_44 : decode cX1_workOutProduct 44 = .ok (.invokestatic 138, 3) := gd_cX1_workOutProduct_03_91 (44, .invokestatic 138, 3) (List.mem_of_getElem? (i := 27) rfl)
theorem dX1_workOutProduct_47 : decode cX1_workOutProduct 47 = .ok (.iload_n 2, 1) := gd_cX1_workOutProduct_03_91 (47, .iload_n 2, 1) (List.mem_of_getElem? (i := 28) rfl)
theorem dX1_workOutProduct_48 : decode cX1_workOutProduct 48 = .ok (.imul, 1) := gd_cX1_workOutProduct_03_91 (48, .imul, 1) (List.mem_of_getElem? (i := 29) rfl)
theorem dX1_workOutProduct_49 : decode cX1_workOutProduct 49 = .ok (.invokevirtual 277, 3) := gd_cX1_workOutProduct_03_91 (49, .invokevirtual 277, 3) (List.mem_of_getElem? (i := 30) rfl)
theorem dX1_workOutProduct_52 : decode cX1_workOutProduct 52 = .ok (.iload_n 3, 1) := gd_cX1_workOutProduct_03_91 (52, .iload_n 3, 1) (List.mem_of_getElem? (i := 31) rfl)
theorem dX1_workOutProduct_53 : decode cX1_workOutProduct 53 = .ok (.iload_n 2, 1) := gd_cX1_workOutProduct_03_91 (53, .iload_n 2, 1) (List.mem_of_getElem? (i := 32) rfl)
theorem dX1_workOutProduct_54 : decode cX1_workOutProduct 54 = .ok (.invokestatic 189, 3) := gd_cX1_workOutProduct_03_91 (54, .invokestatic 189, 3) (List.mem_of_getElem? (i := 33) rfl)
theorem dX1_workOutProduct_57 : decode cX1_workOutProduct 57 = .ok (.istore_n 3, 1) := gd_cX1_workOutProduct_03_91 (57, .istore_n 3, 1) (List.mem_of_getElem? (i := 34) rfl)
theorem dX1_workOutProduct_58 : decode cX1_workOutProduct 58 = .ok (.iinc 4 (-1), 3) := gd_cX1_workOutProduct_03_91 (58, .iinc 4 (-1), 3) (List.mem_of_getElem? (i := 35) rfl)
theorem dX1_workOutProduct_61 : decode cX1_workOutProduct 61 = .ok (.goto (-30), 3) := gd_cX1_workOutProduct_03_91 (61, .goto (-30), 3) (List.mem_of_getElem? (i := 36) rfl)
theorem dX1_workOutProduct_64 : decode cX1_workOutProduct 64 = .ok (.aload_n 0, 1) := gd_cX1_workOutProduct_03_91 (64, .aload_n 0, 1) (List.mem_of_getElem? (i := 37) rfl)
theorem dX1_workOutProduct_65 : decode cX1_workOutProduct 65 = .ok (.getfield 34, 3) := gd_cX1_workOutProduct_03_91 (65, .getfield 34, 3) (List.mem_of_getElem? (i := 38) rfl)
theorem dX1_workOutProduct_68 : decode cX1_workOutProduct 68 = .ok (.invokevirtual 280, 3) := gd_cX1_workOutProduct_03_91 (68, .invokevirtual 280, 3) (List.mem_of_getElem? (i := 39) rfl)
theorem dX1_workOutProduct_71 : decode cX1_workOutProduct 71 = .ok (.return_, 1) := gd_cX1_workOutProduct_03_91 (71, .return_, 1) (List.mem_of_getElem? (i := 40) rfl)
def gl_cX1_hasParts_03_92 : List (Nat × Instr × Nat) := [(0, .aload_n 0, 1), (1, .getfield 25, 3), (4, .iload_n 1, 1), (5, .iaload, 1), (6, .iload_n 2, 1), (7, .invokestatic 147, 3), (10, .ifCond .ne 7, 3), (13, .iconst 1, 1), (14, .goto 4, 3), (17, .iconst 0, 1), (18, .ireturn, 1)]
theorem gd_cX1_hasParts_03_92 : ∀ q ∈ gl_cX1_hasParts_03_92, decode cX1_hasParts q.1 = .ok q.2 := fdk_of 0 (by decide +kernel)
theorem dX1_hasParts_0 : decode cX1_hasParts 0 = .ok (.aload_n 0, 1) := gd_cX1_hasParts_03_92 (0, .aload_n 0, 1) (List.mem_of_getElem? (i := 0) rfl)
theorem dX1_hasParts_1 : decode cX1_hasParts 1 = .ok (.getfield 25, 3) := gd_cX1_hasParts_03_92 (1, .getfield 25, 3) (List.mem_of_getElem? (i := 1) rfl)
theorem dX1_hasParts_4 : decode cX1_hasParts 4 = .ok (.iload_n 1, 1) := gd_cX1_hasParts_03_92 (4, .iload_n 1, 1) (List.mem_of_getElem? (i := 2) rfl)
theorem dX1_hasParts_5 : decode cX1_hasParts 5 = .ok (.iaload, 1) := gd_cX1_hasParts_03_92 (5, .iaload, 1) (List.mem_of_getElem? (i := 3) rfl)
theorem dX1_hasParts_6 : decode cX1_hasParts 6 = .ok (.iload_n 2, 1) := gd_cX1_hasParts_03_92 (6, .iload_n 2, 1) (List.mem_of_getElem? (i := 4) rfl)
theorem dX1_hasParts_7 : decode cX1_hasParts 7 = .ok (.invokestatic 147, 3) := gd_cX1_hasParts_03_92 (7, .invokestatic 147, 3) (List.mem_of_getElem? (i := 5) rfl)
theorem dX1_hasParts_10 : decode cX1_hasParts 10 = .ok (.ifCond .ne 7, 3) := gd_cX1_hasParts_03_92 (10, .ifCond .ne 7, 3) (List.mem_of_getElem? (i := 6) rfl)
theorem dX1_hasParts_13 : decode cX1_hasParts 13 = .ok (.iconst 1, 1) := gd_cX1_hasParts_03_92 (13, .iconst 1, 1) (List.mem_of_getElem? (i := 7) rfl)
theorem dX1_hasParts_14 : decode cX1_hasParts 14 = .ok (.goto 4, 3) := gd_cX1_hasParts_03_92 (14, .goto 4, 3) (List.mem_of_getElem? (i := 8) rfl)
theorem dX1_hasParts_17 : decode cX1_hasParts 17 = .ok (.iconst 0, 1) := gd_cX1_hasParts_03_92 (17, .iconst 0, 1) (List.mem_of_getElem? (i := 9) rfl)
theorem dX1_hasParts_18 : decode cX1_hasParts 18 = .ok (.ireturn, 1) := gd_cX1_hasParts_03_92 (18, .ireturn, 1) (List.mem_of_getElem? (i := 10) rfl)
def gl_cX1_partLength_03_93 : List (Nat × Instr × Nat) := [(0, .iload_n 2, 1), (1, .iconst 1, 1), (2, .if_icmp .ge 7, 3), (5, .iconst 0, 1), (6, .goto 11, 3), (9, .aload_n 0, 1), (10, .getfield 25, 3), (13, .iload_n 1, 1), (14, .iaload, 1), (15, .iload_n 2, 1), (16, .idiv, 1), (17, .ireturn, 1)]
theorem gd_cX1_partLength_03_93 : ∀ q ∈ gl_cX1_partLength_03_93, decode cX1_partLength q.1 = .ok q.2 := fdk_of 0 (by decide +kernel)
theorem dX1_partLength_0 : decode cX1_partLength 0 = .ok (.iload_n 2, 1) := gd_cX1_partLength_03_93 (0, .iload_n 2, 1) (List.mem_of_getElem? (i := 0) rfl)
theorem dX1_partLength_1 : decode cX1_partLength 1 = .ok (.iconst 1, 1) := gd_cX1_partLength_03_93 (1, .iconst 1, 1) (List.mem_of_getElem? (i := 1) rfl)
theorem dX1_partLength_2 : decode cX1_partLength 2 = .ok (.if_icmp .ge 7, 3) := gd_cX1_partLength_03_93 (2, .if_icmp .ge 7, 3) (List.mem_of_getElem? (i := 2) rfl)
theorem dX1_partLength_5 : decode cX1_partLength 5 = .ok (.iconst 0, 1) := gd_cX1_partLength_03_93 (5, .iconst 0, 1) (List.mem_of_getElem? (i := 3) rfl)
theorem dX1_partLength_6 : decode cX1_partLength 6 = .ok (.goto 11, 3) := gd_cX1_partLength_03_93 (6, .goto 11, 3) (List.mem_of_getElem? (i := 4) rfl)
theorem dX1_partLength_9 : decode cX1_partLength 9 = .ok (.aload_n 0, 1) := gd_cX1_partLength_03_93 (9, .aload_n 0, 1) (List.mem_of_getElem? (i := 5) rfl)
theorem dX1_partLength_10 : decode cX1_partLength 10 = .ok (.getfield 25, 3) := gd_cX1_partLength_03_93 (10, .getfield 25, 3) (List.mem_of_getElem? (i := 6) rfl)
theorem dX1_partLength_13 : decode cX1_partLength 13 = .ok (.iload_n 1, 1) := gd_cX1_partLength_03_93 (13, .iload_n 1, 1) (List.mem_of_getElem? (i := 7) rfl)
theorem dX1_partLength_14 : decode cX1_partLength 14 = .ok (.iaload, 1) := gd_cX1_partLength_03_93 (14, .iaload, 1) (List.mem_of_getElem? (i := 8) rfl)
theorem dX1_partLength_15 : decode cX1_partLength 15 = .ok (.iload_n 2, 1) := gd_cX1_partLength_03_93 (15, .iload_n 2, 1) (List.mem_of_getElem? (i := 9) rfl)
theorem dX1_partLength_16 : decode cX1_partLength 16 = .ok (.idiv, 1) := gd_cX1_partLength_03_93 (16, .idiv, 1) (List.mem_of_getElem? (i := 10) rfl)
theorem dX1_partLength_17 : decode cX1_partLength 17 = .ok (.ireturn, 1) := gd_cX1_partLength_03_93 (17, .ireturn, 1) (List.mem_of_getElem? (i := 11) rfl)
def gl_cX1_workOutPartSum_03_94 : List (Nat × Instr × Nat) := [(0, .aload_n 0, 1), (1, .getfield 16, 3), (4, .iload_n 1, 1), (5, .iaload, 1), (6, .istore_n 3, 1), (7, .aload_n 0, 1), (8, .getfield 34, 3), (11, .invokevirtual 274, 3), (14, .aload_n 0, 1), (15, .getfield 25, 3), (18, .iload_n 1, 1), (19, .iaload, 1), (20, .iconst 1, 1), (21, .isub, 1), (22, .istore 4, 2), (24, .iload 4, 2), (26, .ifCond .lt 43, 3), (29, .aload_n 0, 1), (30, .getfield 34, 3), (33, .iload 4, 2), (35, .iload_n 2, 1), (36, .invokestatic 147, 3), (39, .iload_n 3, 1), (40, .aload_n 0, 1), (41, .getfield 19, 3), (44, .iload_n 1, 1), (45, .iaload, 1), (46, .invokestatic 138, 3), (49, .invokevirtual 277, 3), (52, .iload_n 3, 1), (53, .aload_n 0, 1), (54, .getfield 19, 3), (57, .iload_n 1, 1), (58, .iaload, 1), (59, .invokestatic 189, 3), (62, .istore_n 3, 1), (63, .iinc 4 (-1), 3), (66, .goto (-42), 3), (69, .aload_n 0, 1), (70, .getfield 34, 3), (73, .invokevirtual 280, 3), (76, .return_, 1)]
theorem gd_cX1_workOutPartSum_03_94 : ∀ q ∈ gl_cX1_workOutPartSum_03_94, decode cX1_workOutPartSum q.1 = .ok q.2 := fdk_of 0 (by decide +kernel)
theorem dX1_workOutPartSum_0 : decode cX1_workOutPartSum 0 = .ok (.aload_n 0, 1) := gd_cX1_workOutPartSum_03_94 (0, .aload_n 0, 1) (List.mem_of_getElem? (i := 0) rfl)
theorem dX1_workOutPartSum_1 : decode cX1_workOutPartSum 1 = .ok (.getfield 16, 3) := gd_cX1_workOutPartSum_03_94 (1, .getfield 16, 3) (List.mem_of_getElem? (i := 1) rfl)
theorem dX1_workOutPartSum_4 : decode cX1_workOutPartSum 4 = .ok (.iload_n 1, 1) := gd_cX1_workOutPartSum_03_94 (4, .iload_n 1, 1) (List.mem_of_getElem? (i := 2) rfl)
theorem dX1_workOutPartSum_5 : decode cX1_workOutPartSum 5 = .ok (.iaload, 1) := gd_cX1_workOutPartSum_03_94 (5, .iaload, 1) (List.mem_of_getElem? (i := 3) rfl)
theorem dX1_workOutPartSum_6 : decode cX1_workOutPartSum 6 = .ok (.istore_n 3, 1) := gd_cX1_workOutPartSum_03_94 (6, .istore_n 3, 1) (List.mem_of_getElem? (i := 4) rfl)
theorem dX1_workOutPartSum_7 : decode cX1_workOutPartSum 7 = .ok (.aload_n 0, 1) := gd_cX1_workOutPartSum_03_94 (7, .aload_n 0, 1) (List.mem_of_getElem? (i := 5) rfl)
theorem dX1_workOutPartSum_8 : decode cX1_workOutPartSum 8 = .ok (.getfield 34, 3) := gd_cX1_workOutPartSum_03_94 (8, .getfield 34, 3) (List.mem_of_getElem? (i := 6) rfl)
theorem dX1_workOutPartSum_11 : decode cX1_workOutPartSum 11 = .ok (.invokevirtual 274, 3) := gd_cX1_workOutPartSum_03_94 (11, .invokevirtual 274, 3) (List.mem_of_getElem? (i := 7) rfl)
theorem dX1_workOutPartSum_14 : decode cX1_workOutPartSum 14 = .ok (.aload_n 0, 1) := gd_cX1_workOutPartSum_03_94 (14, .aload_n 0, 1) (List.mem_of_getElem? (i := 8) rfl)
theorem dX1_workOutPartSum_15 : decode cX1_workOutPartSum 15 = .ok (.getfield 25, 3) := gd_cX1_workOutPartSum_03_94 (15, .getfield 25, 3) (List.mem_of_getElem? (i := 9) rfl)
theorem dX1_workOutPartSum_18 : decode cX1_workOutPartSum 18 = .ok (.iload_n 1, 1) := gd_cX1_workOutPartSum_03_94 (18, .iload_n 1, 1) (List.mem_of_getElem? (i := 10) rfl)
theorem dX1_workOutPartSum_19 : decode cX1_workOutPartSum 19 = .ok (.iaload, 1) := gd_cX1_workOutPartSum_03_94 (19, .iaload, 1) (List.mem_of_getElem? (i := 11) rfl)
theorem dX1_workOutPartSum_20 : decode cX1_workOutPartSum 20 = .ok (.iconst 1, 1) := gd_cX1_workOutPartSum_03_94 (20, .iconst 1, 1) (List.mem_of_getElem? (i := 12) rfl)
theorem dX1_workOutPartSum_21 : decode cX1_workOutPartSum 21 = .ok (.isub, 1) := gd_cX1_workOutPartSum_03_94 (21, .isub, 1) (List.mem_of_getElem? (i := 13) rfl)
theorem dX1_workOutPartSum_22 : decode cX1_workOutPartSum 22 = .ok (.istore 4, 2) := gd_cX1_workOutPartSum_03_94 (22, .istore 4, 2) (List.mem_of_getElem? (i := 14) rfl)
theorem dX1_workOutPartSum_24 : decode cX1_workOutPartSum 24 = .ok (.iload 4, 2) := gd_cX1_workOutPartSum_03_94 (24, .iload 4, 2) (List.mem_of_getElem? (i := 15) rfl)
theorem dX1_workOutPartSum_26 : decode cX1_workOutPartSum 26 = .ok (.ifCond .lt 43, 3) := gd_cX1_workOutPartSum_03_94 (26, .ifCond .lt 43, 3) (List.mem_of_getElem? (i := 16) rfl)
theorem dX1_workOutPartSum_29 : decode cX1_workOutPartSum 29 = .ok (.aload_n 0, 1) := gd_cX1_workOutPartSum_03_94 (29, .aload_n 0, 1) (List.mem_of_getElem? (i := 17) rfl)
theorem dX1_workOutPartSum_30 : decode cX1_workOutPartSum 30 = .ok (.getfield 34, 3) := gd_cX1_workOutPartSum_03_94 (30, .getfield 34, 3) (List.mem_of_getElem? (i := 18) rfl)
theorem dX1_workOutPartSum_33 : decode cX1_workOutPartSum 33 = .ok (.iload 4, 2) := gd_cX1_workOutPartSum_03_94 (33, .iload 4, 2) (List.mem_of_getElem? (i := 19) rfl)
theorem dX1_workOutPartSum_35 : decode cX1_workOutPartSum 35 = .ok (.iload_n 2, 1) := gd_cX1_workOutPartSum_03_94 (35, .iload_n 2, 1) (List.mem_of_getElem? (i := 20) rfl)
theorem dX1_workOutPartSum_36 : decode cX1_workOutPartSum 36 = .ok (.invokestatic 147, 3) := gd_cX1_workOutPartSum_03_94 (36, .invokestatic 147, 3) (List.mem_of_getElem? (i := 21) rfl)
theorem dX1_workOutPartSum_39 : decode cX1_workOutPartSum 39 = .ok (.iload_n 3, 1) := gd_cX1_workOutPartSum_03_94 (39, .iload_n 3, 1) (List.mem_of_getElem? (i := 22) rfl)
theorem dX1_workOutPartSum_40 : decode cX1_workOutPartSum 40 = .ok (.aload_n 0, 1) := gd_cX1_workOutPartSum_03_94 (40, .aload_n 0, 1) (List.mem_of_getElem? (i := 23) rfl)
theorem dX1_workOutPartSum_41 : decode cX1_workOutPartSum 41 = .ok (.getfield 19, 3) := gd_cX1_workOutPartSum_03_94 (41, .getfield 19, 3) (List.mem_of_getElem? (i := 24) rfl)
theorem dX1_workOutPartSum_44 : decode cX1_workOutPartSum 44 = .ok (.iload_n 1, 1) := gd_cX1_workOutPartSum_03_94 (44, .iload_n 1, 1) (List.mem_of_getElem? (i := 25) rfl)
theorem dX1_workOutPartSum_45 : decode cX1_workOutPartSum 45 = .ok (.iaload, 1) := gd_cX1_workOutPartSum_03_94 (45, .iaload, 1) (List.mem_of_getElem? (i := 26) rfl)
theorem dX1_workOutPartSum_46 : decode cX1_workOutPartSum 46 = .ok (.invokestatic 138, 3) := gd_cX1_workOutPartSum_03_94 (46, .invokestatic 138, 3) (List.mem_of_getElem? (i := 27) rfl)
theorem dX1_workOutPartSum_49 : decode cX1_workOutPartSum 49 = .ok (.invokevirtual 277, 3) := gd_cX1_workOutPartSum_03_94 (49, .invokevirtual 277, 3) (List.mem_of_getElem? (i := 28) rfl)
theorem dX1_workOutPartSum_52 : decode cX1_workOutPartSum 52 = .ok (.iload_n 3, 1) := gd_cX1_workOutPartSum_03_94 (52, .iload_n 3, 1) (List.mem_of_getElem? (i := 29) rfl)
theorem dX1_workOutPartSum_53 : decode cX1_workOutPartSum 53 = .ok (.aload_n 0, 1) := gd_cX1_workOutPartSum_03_94 (53, .aload_n 0, 1) (List.mem_of_getElem? (i := 30) rfl)
theorem dX1_workOutPartSum_54 : decode cX1_workOutPartSum 54 = .ok (.getfield 19, 3) := gd_cX1_workOutPartSum_03_94 (54, .getfield 19, 3) (List.mem_of_getElem? (i := 31) rfl)
theorem dX1_workOutPartSum_57 : decode cX1_workOutPartSum 57 = .ok (.iload_n 1, 1) := gd_cX1_workOutPartSum_03_94 (57, .iload_n 1, 1) (List.mem_of_getElem? (i := 32) rfl)
theorem dX1_workOutPartSum_58 : decode cX1_workOutPartSum 58 = .ok (.iaload, 1) := gd_cX1_workOutPartSum_03_94 (58, .iaload, 1) (List.mem_of_getElem? (i := 33) rfl)
theorem dX1_workOutPartSum_59 : decode cX1_workOutPartSum 59 = .ok (.invokestatic 189, 3) := gd_cX1_workOutPartSum_03_94 (59, .invokestatic 189, 3) (List.mem_of_getElem? (i := 34) rfl)
theorem dX1_workOutPartSum_62 : decode cX1_workOutPartSum 62 = .ok (.istore_n 3, 1) := gd_cX1_workOutPartSum_03_94 (62, .istore_n 3, 1) (List.mem_of_getElem? (i := 35) rfl)
theorem dX1_workOutPartSum_63 : decode cX1_workOutPartSum 63 = .ok (.iinc 4 (-1), 3) := gd_cX1_workOutPartSum_03_94 (63, .iinc 4 (-1), 3) (List.mem_of_getElem? (i := 36) rfl)
theorem dX1_workOutPartSum_66 : decode cX1_workOutPartSum 66 = .ok (.goto (-42), 3) := gd_cX1_workOutPartSum_03_94 (66, .goto (-42), 3) (List.mem_of_getElem? (i := 37) rfl)
theorem dX1_workOutPartSum_69 : decode cX1_workOutPartSum 69 = .ok (.aload_n 0, 1) := gd_cX1_workOutPartSum_03_94 (69, .aload_n 0, 1) (List.mem_of_getElem? (i := 38) rfl)
theorem dX1_workOutPartSum_70 : decode cX1_workOutPartSum 70 = .ok (.getfield 34, 3) := gd_cX1_workOutPartSum_03_94 (70, .getfield 34, 3) (List.mem_of_getElem? (i := 39) rfl)
theorem dX1_workOutPartSum_73 : decode cX1_workOutPartSum 73 = .ok (.invokevirtual 280, 3) := gd_cX1_workOutPartSum_03_94 (73, .invokevirtual 280, 3) (List.mem_of_getElem? (i := 40) rfl)
theorem dX1_workOutPartSum_76 : decode cX1_workOutPartSum 76 = .ok (.return_, 1) := gd_cX1_workOutPartSum_03_94 (76, .return_, 1) (List.mem_of_getElem? (i := 41) rfl)
def gl_cX1_ninesOf_03_95 : List (Nat × Instr × Nat) := [(0, .aload_n 0, 1), (1, .iload_n 1, 1), (2, .iload_n 2, 1), (3, .invokevirtual 177, 3), (6, .ifCond .ne 6, 3), (9, .bipush (-9), 2), (11, .ireturn, 1), (12, .aload_n 0, 1), (13, .iload_n 1, 1), (14, .iload_n 2, 1), (15, .invokevirtual 180, 3), (18, .istore_n 3, 1), (19, .aload_n 0, 1), (20, .iload_n 1, 1), (21, .iload_n 3, 1), (22, .invokevirtual 183, 3), (25, .iconst 0, 1), (26, .istore 4, 2), (28, .iload 4, 2), (30, .iload_n 2, 1), (31, .if_icmp .gt 36, 3), (34, .aload_n 0, 1), (35, .getfield 38, 3), (38, .iload_n 3, 1), (39, .iload 4, 2), (41, .invokevirtual 283, 3), (44, .aload_n 0, 1), (45, .getfield 34, 3), (48, .aload_n 0, 1), (49, .getfield 38, 3), (52, .invokevirtual 286, 3), (55, .ifCond .eq 6, 3), (58, .iload 4, 2), (60, .ireturn, 1), (61, .iinc 4 1, 3), (64, .goto (-36), 3), (67, .iconst (-1), 1), (68, .ireturn, 1)]
theorem gd_cX1_ninesOf_03_95 : ∀ q ∈ gl_cX1_ninesOf_03_95, decode cX1_ninesOf q.1 = .ok q.2 := fdk_of 0 (by decide +kernel)
theorem dX1_ninesOf_0 : decode cX1_ninesOf 0 = .ok (.aload_n 0, 1) := gd_cX1_ninesOf_03_95 (0, .aload_n 0, 1) (List.mem_of_getElem? (i := 0) rfl)
theorem dX1_ninesOf_1 : decode cX1_ninesOf 1 = .ok (.iload_n 1, 1) := gd_cX1_ninesOf_03_95 (1, .iload_n 1, 1) (List.mem_of_getElem? (i := 1) rfl)
theorem dX1_ninesOf_2 : decode cX1_ninesOf 2 = .ok (.iload_n 2, 1) := gd_cX1_ninesOf_03_95 (2, .iload_n 2, 1) (List.mem_of_getElem? (i := 2) rfl)
theorem dX1_ninesOf_3 : decode cX1_ninesOf 3 = .ok (.invokevirtual 177, 3) := gd_cX1_ninesOf_03_95 (3, .invokevirtual 177, 3) (List.mem_of_getElem? (i := 3) rfl)
theorem dX1_ninesOf_6 : decode cX1_ninesOf 6 = .ok (.ifCond .ne 6, 3) := gd_cX1_ninesOf_03_95 (6, .ifCond .ne 6, 3) (List.mem_of_getElem? (i := 4) rfl)
theorem dX1_ninesOf_9 : decode cX1_ninesOf 9 = .ok (.bipush (-9), 2) := gd_cX1_ninesOf_03_95 (9, .bipush (-9), 2) (List.mem_of_getElem? (i := 5) rfl)
theorem dX1_ninesOf_11 : decode cX1_ninesOf 11 = .ok (.ireturn, 1) := gd_cX1_ninesOf_03_95 (11, .ireturn, 1) (List.mem_of_getElem? (i := 6) rfl)
theorem dX1_ninesOf_12 : decode cX1_ninesOf 12 = .ok (.aload_n 0, 1) := gd_cX1_ninesOf_03_95 (12, .aload_n 0, 1) (List.mem_of_getElem? (i := 7) rfl)
theorem dX1_ninesOf_13 : decode cX1_ninesOf 13 = .ok (.iload_n 1, 1) := gd_cX1_ninesOf_03_95 (13, .iload_n 1, 1) (List.mem_of_getElem? (i := 8) rfl)
theorem dX1_ninesOf_14 : decode cX1_ninesOf 14 = .ok (.iload_n 2, 1) := gd_cX1_ninesOf_03_95 (14, .iload_n 2, 1) (List.mem_of_getElem? (i := 9) rfl)
theorem dX1_ninesOf_15 : decode cX1_ninesOf 15 = .ok (.invokevirtual 180, 3) := gd_cX1_ninesOf_03_95 (15, .invokevirtual 180, 3) (List.mem_of_getElem? (i := 10) rfl)
theorem dX1_ninesOf_18 : decode cX1_ninesOf 18 = .ok (.istore_n 3, 1) := gd_cX1_ninesOf_03_95 (18, .istore_n 3, 1) (List.mem_of_getElem? (i := 11) rfl)
theorem dX1_ninesOf_19 : decode cX1_ninesOf 19 = .ok (.aload_n 0, 1) := gd_cX1_ninesOf_03_95 (19, .aload_n 0, 1) (List.mem_of_getElem? (i := 12) rfl)
theorem dX1_ninesOf_20 : decode cX1_ninesOf 20 = .ok (.iload_n 1, 1) := gd_cX1_ninesOf_03_95 (20, .iload_n 1, 1) (List.mem_of_getElem? (i := 13) rfl)
theorem dX1_ninesOf_21 : decode cX1_ninesOf 21 = .ok (.iload_n 3, 1) := gd_cX1_ninesOf_03_95 (21, .iload_n 3, 1) (List.mem_of_getElem? (i := 14) rfl)
theorem dX1_ninesOf_22 : decode cX1_ninesOf 22 = .ok (.invokevirtual 183, 3) := gd_cX1_ninesOf_03_95 (22, .invokevirtual 183, 3) (List.mem_of_getElem? (i := 15) rfl)
theorem dX1_ninesOf_25 : decode cX1_ninesOf 25 = .ok (.iconst 0, 1) := gd_cX1_ninesOf_03_95 (25, .iconst 0, 1) (List.mem_of_getElem? (i := 16) rfl)
theorem dX1_ninesOf_26 : decode cX1_ninesOf 26 = .ok (.istore 4, 2) := gd_cX1_ninesOf_03_95 (26, .istore 4, 2) (List.mem_of_getElem? (i := 17) rfl)
theorem dX1_ninesOf_28 : decode cX1_ninesOf 28 = .ok (.iload 4, 2) := gd_cX1_ninesOf_03_95 (28, .iload 4, 2) (List.mem_of_getElem? (i := 18) rfl)
theorem dX1_ninesOf_30 : decode cX1_ninesOf 30 = .ok (.iload_n 2, 1) := gd_cX1_ninesOf_03_95 (30, .iload_n 2, 1) (List.mem_of_getElem? (i := 19) rfl)
theorem dX1_ninesOf_31 : decode cX1_ninesOf 31 = .ok (.if_icmp .gt 36, 3) := gd_cX1_ninesOf_03_95 (31, .if_icmp .gt 36, 3) (List.mem_of_getElem? (i := 20) rfl)
theorem dX1_ninesOf_34 : decode cX1_ninesOf 34 = .ok (.aload_n 0, 1) := gd_cX1_ninesOf_03_95 (34, .aload_n 0, 1) (List.mem_of_getElem? (i := 21) rfl)
theorem dX1_ninesOf_35 : decode cX1_ninesOf 35 = .ok (.getfield 38, 3) := gd_cX1_ninesOf_03_95 (35, .getfield 38, 3) (List.mem_of_getElem? (i := 22) rfl)
theorem dX1_ninesOf_38 : decode cX1_ninesOf 38 = .ok (.iload_n 3, 1) := gd_cX1_ninesOf_03_95 (38, .iload_n 3, 1) (List.mem_of_getElem? (i := 23) rfl)
theorem dX1_ninesOf_39 : decode cX1_ninesOf 39 = .ok (.iload 4, 2) := gd_cX1_ninesOf_03_95 (39, .iload 4, 2) (List.mem_of_getElem? (i := 24) rfl)
theorem dX1_ninesOf_41 : decode cX1_ninesOf 41 = .ok (.invokevirtual 283, 3) := gd_cX1_ninesOf_03_95 (41, .invokevirtual 283, 3) (List.mem_of_getElem? (i := 25) rfl)
theorem dX1_ninesOf_44 : decode cX1_ninesOf 44 = .ok (.aload_n 0, 1) := gd_cX1_ninesOf_03_95 (44, .aload_n 0, 1) (List.mem_of_getElem? (i := 26) rfl)
theorem dX1_ninesOf_45 : decode cX1_ninesOf 45 = .ok (.getfield 34, 3) := gd_cX1_ninesOf_03_95 (45, .getfield 34, 3) (List.mem_of_getElem? (i := 27) rfl)
theorem dX1_ninesOf_48 : decode cX1_ninesOf 48 = .ok (.aload_n 0, 1) := gd_cX1_ninesOf_03_95 (48, .aload_n 0, 1) (List.mem_of_getElem? (i := 28) rfl)
theorem dX1_ninesOf_49 : decode cX1_ninesOf 49 = .ok (.getfield 38, 3) := gd_cX1_ninesOf_03_95 (49, .getfield 38, 3) (List.mem_of_getElem? (i := 29) rfl)
theorem dX1_ninesOf_52 : decode cX1_ninesOf 52 = .ok (.invokevirtual 286, 3) := gd_cX1_ninesOf_03_95 (52, .invokevirtual 286, 3) (List.mem_of_getElem? (i := 30) rfl)
theorem dX1_ninesOf_55 : decode cX1_ninesOf 55 = .ok (.ifCond .eq 6, 3) := gd_cX1_ninesOf_03_95 (55, .ifCond .eq 6, 3) (List.mem_of_getElem? (i := 31) rfl)
theorem dX1_ninesOf_58 : decode cX1_ninesOf 58 = .ok (.iload 4, 2) := gd_cX1_ninesOf_03_95 (58, .iload 4, 2) (List.mem_of_getElem? (i := 32) rfl)
theorem dX1_ninesOf_60 : decode cX1_ninesOf 60 = .ok (.ireturn, 1) := gd_cX1_ninesOf_03_95 (60, .ireturn, 1) (List.mem_of_getElem? (i := 33) rfl)
theorem dX1_ninesOf_61 : decode cX1_ninesOf 61 = .ok (.iinc 4 1, 3) := gd_cX1_ninesOf_03_95 (61, .iinc 4 1, 3) (List.mem_of_getElem? (i := 34) rfl)
theorem dX1_ninesOf_64 : decode cX1_ninesOf 64 = .ok (.goto (-36), 3) := gd_cX1_ninesOf_03_95 (64, .goto (-36), 3) (List.mem_of_getElem? (i := 35) rfl)
theorem dX1_ninesOf_67 : decode cX1_ninesOf 67 = .ok (.iconst (-1), 1) := gd_cX1_ninesOf_03_95 (67, .iconst (-1), 1) (List.mem_of_getElem? (i := 36) rfl)
theorem dX1_ninesOf_68 : decode cX1_ninesOf 68 = .ok (.ireturn, 1) := gd_cX1_ninesOf_03_95 (68, .ireturn, 1) (List.mem_of_getElem? (i := 37) rfl)
def gl_cX1_isCellSoundWithAll_03_96 : List (Nat × Instr × Nat) := [(0, .iconst 0, 1), (1, .istore_n 2, 1), (2, .iload_n 2, 1), (3, .iconst 4, 1), (4, .if_icmp .ge 95, 3), (7, .aload_n 0, 1), (8, .getfield 13, 3), (11, .iload_n 1, 1), (12, .iaload, 1), (13, .aload_n 0, 1), (14, .getfield 13, 3), (17, .iload_n 2, 1), (18, .iaload, 1), (19, .invokestatic 69, 3), (22, .istore_n 3, 1), (23, .aload_n 0, 1), (24, .iload_n 1, 1), (25, .iload_n 3, 1), (26, .invokevirtual 73, 3), (29, .aload_n 0, 1), (30, .iload_n 2, 1), (31, .iload_n 3, 1), (32, .invokevirtual 73, 3), (35, .ladd, 1), (36, .lstore 4, 2), (38, .aload_n 0, 1), (39, .iload_n 1, 1), (40, .iload_n 2, 1), (41, .invokevirtual 107, 3), (44, .istore 6, 2), (46, .lload 4, 2), (48, .aload_n 0, 1), (49, .iload_n 2, 1), (50, .iload_n 3, 1), (51, .invokevirtual 73, 3), (54, .lsub, 1), (55, .aload_n 0, 1), (56, .iload_n 1, 1), (57, .iload_n 3, 1), (58, .invokevirtual 73, 3), (61, .lcmp, 1), (62, .ifCond .ne 29, 3), (65, .iload 6, 2), (67, .aload_n 0, 1), (68, .iload_n 2, 1), (69, .iload_n 1, 1), (70, .invokevirtual 107, 3), (73, .ineg, 1), (74, .if_icmp .ne 17, 3), (77, .aload_n 0, 1), (78, .iload_n 1, 1), (79, .iload_n 2, 1), (80, .invokevirtual 124, 3), (83, .ifCond .eq 10, 3), (86, .iload 6, 2), (88, .ifCond .eq 5, 3), (91, .iconst 0, 1), (92, .ireturn, 1), (93, .iinc 2 1, 3), (96, .goto (-94), 3)]
theorem gd_cX1_isCellSoundWithAll_03_96 : ∀ q ∈ gl_cX1_isCellSoundWithAll_03_96, decode cX1_isCellSoundWithAll q.1 = .ok q.2 := fdk_of 0 (by decide +kernel)
theorem dX1_isCellSoundWithAll_0 : decode cX1_isCellSoundWithAll 0 = .ok (.iconst 0, 1) := gd_cX1_isCellSoundWithAll_03_96 (0, .iconst 0, 1) (List.mem_of_getElem? (i := 0) rfl)
theorem dX1_isCellSoundWithAll_1 : decode cX1_isCellSoundWithAll 1 = .ok (.istore_n 2, 1) := gd_cX1_isCellSoundWithAll_03_96 (1, .istore_n 2, 1) (List.mem_of_getElem? (i := 1) rfl)
theorem dX1_isCellSoundWithAll_2 : decode cX1_isCellSoundWithAll 2 = .ok (.iload_n 2, 1) := gd_cX1_isCellSoundWithAll_03_96 (2, .iload_n 2, 1) (List.mem_of_getElem? (i := 2) rfl)
theorem dX1_isCellSoundWithAll_3 : decode cX1_isCellSoundWithAll 3 = .ok (.iconst 4, 1) := gd_cX1_isCellSoundWithAll_03_96 (3, .iconst 4, 1) (List.mem_of_getElem? (i := 3) rfl)
theorem dX1_isCellSoundWithAll_4 : decode cX1_isCellSoundWithAll 4 = .ok (.if_icmp .ge 95, 3) := gd_cX1_isCellSoundWithAll_03_96 (4, .if_icmp .ge 95, 3) (List.mem_of_getElem? (i := 4) rfl)
theorem dX1_isCellSoundWithAll_7 : decode cX1_isCellSoundWithAll 7 = .ok (.aload_n 0, 1) := gd_cX1_isCellSoundWithAll_03_96 (7, .aload_n 0, 1) (List.mem_of_getElem? (i := 5) rfl)
theorem dX1_isCellSoundWithAll_8 : decode cX1_isCellSoundWithAll 8 = .ok (.getfield 13, 3) := gd_cX1_isCellSoundWithAll_03_96 (8, .getfield 13, 3) (List.mem_of_getElem? (i := 6) rfl)
theorem dX1_isCellSoundWithAll_11 : decode cX1_isCellSoundWithAll 11 = .ok (.iload_n 1, 1) := gd_cX1_isCellSoundWithAll_03_96 (11, .iload_n 1, 1) (List.mem_of_getElem? (i := 7) rfl)
theorem dX1_isCellSoundWithAll_12 : decode cX1_isCellSoundWithAll 12 = .ok (.iaload, 1) := gd_cX1_isCellSoundWithAll_03_96 (12, .iaload, 1) (List.mem_of_getElem? (i := 8) rfl)
theorem dX1_isCellSoundWithAll_13 : decode cX1_isCellSoundWithAll 13 = .ok (.aload_n 0, 1) := gd_cX1_isCellSoundWithAll_03_96 (13, .aload_n 0, 1) (List.mem_of_getElem? (i := 9) rfl)
theorem dX1_isCellSoundWithAll_14 : decode cX1_isCellSoundWithAll 14 = .ok (.getfield 13, 3) := gd_cX1_isCellSoundWithAll_03_96 (14, .getfield 13, 3) (List.mem_of_getElem? (i := 10) rfl)
theorem dX1_isCellSoundWithAll_17 : decode cX1_isCellSoundWithAll 17 = .ok (.iload_n 2, 1) := gd_cX1_isCellSoundWithAll_03_96 (17, .iload_n 2, 1) (List.mem_of_getElem? (i := 11) rfl)
theorem dX1_isCellSoundWithAll_18 : decode cX1_isCellSoundWithAll 18 = .ok (.iaload, 1) := gd_cX1_isCellSoundWithAll_03_96 (18, .iaload, 1) (List.mem_of_getElem? (i := 12) rfl)
theorem dX1_isCellSoundWithAll_19 : decode cX1_isCellSoundWithAll 19 = .ok (.invokestatic 69, 3) := gd_cX1_isCellSoundWithAll_03_96 (19, .invokestatic 69, 3) (List.mem_of_getElem? (i := 13) rfl)
theorem dX1_isCellSoundWithAll_22 : decode cX1_isCellSoundWithAll 22 = .ok (.istore_n 3, 1) := gd_cX1_isCellSoundWithAll_03_96 (22, .istore_n 3, 1) (List.mem_of_getElem? (i := 14) rfl)
theorem dX1_isCellSoundWithAll_23 : decode cX1_isCellSoundWithAll 23 = .ok (.aload_n 0, 1) := gd_cX1_isCellSoundWithAll_03_96 (23, .aload_n 0, 1) (List.mem_of_getElem? (i := 15) rfl)
theorem dX1_isCellSoundWithAll_24 : decode cX1_isCellSoundWithAll 24 = .ok (.iload_n 1, 1) := gd_cX1_isCellSoundWithAll_03_96 (24, .iload_n 1, 1) (List.mem_of_getElem? (i := 16) rfl)
theorem dX1_isCellSoundWithAll_25 : decode cX1_isCellSoundWithAll 25 = .ok (.iload_n 3, 1) := gd_cX1_isCellSoundWithAll_03_96 (25, .iload_n 3, 1) (List.mem_of_getElem? (i := 17) rfl)
theorem dX1_isCellSoundWithAll_26 : decode cX1_isCellSoundWithAll 26 = .ok (.invokevirtual 73, 3) := gd_cX1_isCellSoundWithAll_03_96 (26, .invokevirtual 73, 3) (List.mem_of_getElem? (i := 18) rfl)
theorem dX1_isCellSoundWithAll_29 : decode cX1_isCellSoundWithAll 29 = .ok (.aload_n 0, 1) := gd_cX1_isCellSoundWithAll_03_96 (29, .aload_n 0, 1) (List.mem_of_getElem? (i := 19) rfl)
theorem dX1_isCellSoundWithAll_30 : decode cX1_isCellSoundWithAll 30 = .ok (.iload_n 2, 1) := gd_cX1_isCellSoundWithAll_03_96 (30, .iload_n 2, 1) (List.mem_of_getElem? (i := 20) rfl)
theorem dX1_isCellSoundWithAll_31 : decode cX1_isCellSoundWithAll 31 = .ok (.iload_n 3, 1) := gd_cX1_isCellSoundWithAll_03_96 (31, .iload_n 3, 1) (List.mem_of_getElem? (i := 21) rfl)
theorem dX1_isCellSoundWithAll_32 : decode cX1_isCellSoundWithAll 32 = .ok (.invokevirtual 73, 3) := gd_cX1_isCellSoundWithAll_03_96 (32, .invokevirtual 73, 3) (List.mem_of_getElem? (i := 22) rfl)
theorem dX1_isCellSoundWithAll_35 : decode cX1_isCellSoundWithAll 35 = .ok (.ladd, 1) := gd_cX1_isCellSoundWithAll_03_96 (35, .ladd, 1) (List.mem_of_getElem? (i := 23) rfl)
theorem dX1_isCellSoundWithAll_36 : decode cX1_isCellSoundWithAll 36 = .ok (.lstore 4, 2) := gd_cX1_isCellSoundWithAll_03_96 (36, .lstore 4, 2) (List.mem_of_getElem? (i := 24) rfl)
theorem dX1_isCellSoundWithAll_38 : decode cX1_isCellSoundWithAll 38 = .ok (.aload_n 0, 1) := gd_cX1_isCellSoundWithAll_03_96 (38, .aload_n 0, 1) (List.mem_of_getElem? (i := 25) rfl)
theorem dX1_isCellSoundWithAll_39 : decode cX1_isCellSoundWithAll 39 = .ok (.iload_n 1, 1) := gd_cX1_isCellSoundWithAll_03_96 (39, .iload_n 1, 1) (List.mem_of_getElem? (i := 26) rfl)
theorem dX1_isCellSoundWithAll_40 : decode cX1_isCellSoundWithAll 40 = .ok (.iload_n 2, 1) := gd_cX1_isCellSoundWithAll_03_96 (40, .iload_n 2, 1) (List.mem_of_getElem? (i := 27) rfl)
theorem dX1_isCellSoundWithAll_41 : decode cX1_isCellSoundWithAll 41 = .ok (.invokevirtual 107, 3) := gd_cX1_isCellSoundWithAll_03_96 (41, .invokevirtual 107, 3) (List.mem_of_getElem? (i := 28) rfl)
theorem dX1_isCellSoundWithAll_44 : decode cX1_isCellSoundWithAll 44 = .ok (.istore 6, 2) := gd_cX1_isCellSoundWithAll_03_96 (44, .istore 6, 2) (List.mem_of_getElem? (i := 29) rfl)
theorem dX1_isCellSoundWithAll_46 : decode cX1_isCellSoundWithAll 46 = .ok (.lload 4, 2) := gd_cX1_isCellSoundWithAll_03_96 (46, .lload 4, 2) (List.mem_of_getElem? (i := 30) rfl)
theorem dX1_isCellSoundWithAll_48 : decode cX1_isCellSoundWithAll 48 = .ok (.aload_n 0, 1) := gd_cX1_isCellSoundWithAll_03_96 (48, .aload_n 0, 1) (List.mem_of_getElem? (i := 31) rfl)
theorem dX1_isCellSoundWithAll_49 : decode cX1_isCellSoundWithAll 49 = .ok (.iload_n 2, 1) := gd_cX1_isCellSoundWithAll_03_96 (49, .iload_n 2, 1) (List.mem_of_getElem? (i := 32) rfl)
theorem dX1_isCellSoundWithAll_50 : decode cX1_isCellSoundWithAll 50 = .ok (.iload_n 3, 1) := gd_cX1_isCellSoundWithAll_03_96 (50, .iload_n 3, 1) (List.mem_of_getElem? (i := 33) rfl)
theorem dX1_isCellSoundWithAll_51 : decode cX1_isCellSoundWithAll 51 = .ok (.invokevirtual 73, 3) := gd_cX1_isCellSoundWithAll_03_96 (51, .invokevirtual 73, 3) (List.mem_of_getElem? (i := 34) rfl)
theorem dX1_isCellSoundWithAll_54 : decode cX1_isCellSoundWithAll 54 = .ok (.lsub, 1) := gd_cX1_isCellSoundWithAll_03_96 (54, .lsub, 1) (List.mem_of_getElem? (i := 35) rfl)
theorem dX1_isCellSoundWithAll_55 : decode cX1_isCellSoundWithAll 55 = .ok (.aload_n 0, 1) := gd_cX1_isCellSoundWithAll_03_96 (55, .aload_n 0, 1) (List.mem_of_getElem? (i := 36) rfl)
theorem dX1_isCellSoundWithAll_56 : decode cX1_isCellSoundWithAll 56 = .ok (.iload_n 1, 1) := gd_cX1_isCellSoundWithAll_03_96 (56, .iload_n 1, 1) (List.mem_of_getElem? (i := 37) rfl)
theorem dX1_isCellSoundWithAll_57 : decode cX1_isCellSoundWithAll 57 = .ok (.iload_n 3, 1) := gd_cX1_isCellSoundWithAll_03_96 (57, .iload_n 3, 1) (List.mem_of_getElem? (i := 38) rfl)
theorem dX1_isCellSoundWithAll_58 : decode cX1_isCellSoundWithAll 58 = .ok (.invokevirtual 73, 3) := gd_cX1_isCellSoundWithAll_03_96 (58, .invokevirtual 73, 3) (List.mem_of_getElem? (i := 39) rfl)
theorem dX1_isCellSoundWithAll_61 : decode cX1_isCellSoundWithAll 61 = .ok (.lcmp, 1) := gd_cX1_isCellSoundWithAll_03_96 (61, .lcmp, 1) (List.mem_of_getElem? (i := 40) rfl)
theorem dX1_isCellSoundWithAll_62 : decode cX1_isCellSoundWithAll 62 = .ok (.ifCond .ne 29, 3) := gd_cX1_isCellSoundWithAll_03_96 (62, .ifCond .ne 29, 3) (List.mem_of_getElem? (i := 41) rfl)
theorem dX1_isCellSoundWithAll_65 : decode cX1_isCellSoundWithAll 65 = .ok (.iload 6, 2) := gd_cX1_isCellSoundWithAll_03_96 (65, .iload 6, 2) (List.mem_of_getElem? (i := 42) rfl)
theorem dX1_isCellSoundWithAll_67 : decode cX1_isCellSoundWithAll 67 = .ok (.aload_n 0, 1) := gd_cX1_isCellSoundWithAll_03_96 (67, .aload_n 0, 1) (List.mem_of_getElem? (i := 43) rfl)
theorem dX1_isCellSoundWithAll_68 : decode cX1_isCellSoundWithAll 68 = .ok (.iload_n 2, 1) := gd_cX1_isCellSoundWithAll_03_96 (68, .iload_n 2, 1) (List.mem_of_getElem? (i := 44) rfl)
theorem dX1_isCellSoundWithAll_69 : decode cX1_isCellSoundWithAll 69 = .ok (.iload_n 1, 1) := gd_cX1_isCellSoundWithAll_03_96 (69, .iload_n 1, 1) (List.mem_of_getElem? (i := 45) rfl)
theorem dX1_isCellSoundWithAll_70 : decode cX1_isCellSoundWithAll 70 = .ok (.invokevirtual 107, 3) := gd_cX1_isCellSoundWithAll_03_96 (70, .invokevirtual 107, 3) (List.mem_of_getElem? (i := 46) rfl)
theorem dX1_isCellSoundWithAll_73 : decode cX1_isCellSoundWithAll 73 = .ok (.ineg, 1) := gd_cX1_isCellSoundWithAll_03_96 (73, .ineg, 1) (List.mem_of_getElem? (i := 47) rfl)
theorem dX1_isCellSoundWithAll_74 : decode cX1_isCellSoundWithAll 74 = .ok (.if_icmp .ne 17, 3) := gd_cX1_isCellSoundWithAll_03_96 (74, .if_icmp .ne 17, 3) (List.mem_of_getElem? (i := 48) rfl)
theorem dX1_isCellSoundWithAll_77 : decode cX1_isCellSoundWithAll 77 = .ok (.aload_n 0, 1) := gd_cX1_isCellSoundWithAll_03_96 (77, .aload_n 0, 1) (List.mem_of_getElem? (i := 49) rfl)
theorem dX1_isCellSoundWithAll_78 : decode cX1_isCellSoundWithAll 78 = .ok (.iload_n 1, 1) := gd_cX1_isCellSoundWithAll_03_96 (78, .iload_n 1, 1) (List.mem_of_getElem? (i := 50) rfl)
theorem dX1_isCellSoundWithAll_79 : decode cX1_isCellSoundWithAll 79 = .ok (.iload_n 2, 1) := gd_cX1_isCellSoundWithAll_03_96 (79, .iload_n 2, 1) (List.mem_of_getElem? (i := 51) rfl)
theorem dX1_isCellSoundWithAll_80 : decode cX1_isCellSoundWithAll 80 = .ok (.invokevirtual 124, 3) := gd_cX1_isCellSoundWithAll_03_96 (80, .invokevirtual 124, 3) (List.mem_of_getElem? (i := 52) rfl)
theorem dX1_isCellSoundWithAll_83 : decode cX1_isCellSoundWithAll 83 = .ok (.ifCond .eq 10, 3) := gd_cX1_isCellSoundWithAll_03_96 (83, .ifCond .eq 10, 3) (List.mem_of_getElem? (i := 53) rfl)
theorem dX1_isCellSoundWithAll_86 : decode cX1_isCellSoundWithAll 86 = .ok (.iload 6, 2) := gd_cX1_isCellSoundWithAll_03_96 (86, .iload 6, 2) (List.mem_of_getElem? (i := 54) rfl)
theorem dX1_isCellSoundWithAll_88 : decode cX1_isCellSoundWithAll 88 = .ok (.ifCond .eq 5, 3) := gd_cX1_isCellSoundWithAll_03_96 (88, .ifCond .eq 5, 3) (List.mem_of_getElem? (i := 55) rfl)
theorem dX1_isCellSoundWithAll_91 : decode cX1_isCellSoundWithAll 91 = .ok (.iconst 0, 1) := gd_cX1_isCellSoundWithAll_03_96 (91, .iconst 0, 1) (List.mem_of_getElem? (i := 56) rfl)
theorem dX1_isCellSoundWithAll_92 : decode cX1_isCellSoundWithAll 92 = .ok (.ireturn, 1) := gd_cX1_isCellSoundWithAll_03_96 (92, .ireturn, 1) (List.mem_of_getElem? (i := 57) rfl)
theorem dX1_isCellSoundWithAll_93 : decode cX1_isCellSoundWithAll 93 = .ok (.iinc 2 1, 3) := gd_cX1_isCellSoundWithAll_03_96 (93, .iinc 2 1, 3) (List.mem_of_getElem? (i := 58) rfl)
theorem dX1_isCellSoundWithAll_96 : decode cX1_isCellSoundWithAll 96 = .ok (.goto (-94), 3) := gd_cX1_isCellSoundWithAll_03_96 (96, .goto (-94), 3) (List.mem_of_getElem? (i := 59) rfl)
def gl_cX1_isCellSoundWithAll_03_97 : List (Nat × Instr × Nat) := [(99, .iconst 1, 1), (100, .ireturn, 1)]
theorem gd_cX1_isCellSoundWithAll_03_97 : ∀ q ∈ gl_cX1_isCellSoundWithAll_03_97, decode cX1_isCellSoundWithAll q.1 = .ok q.2 := fdk_of 99 (by decide +kernel)
theorem dX1_isCellSoundWithAll_99 : decode cX1_isCellSoundWithAll 99 = .ok (.iconst 1, 1) := gd_cX1_isCellSoundWithAll_03_97 (99, .iconst 1, 1) (List.mem_of_getElem? (i := 0) rfl)
theorem dX1_isCellSoundWithAll_100 : decode cX1_isCellSoundWithAll 100 = .ok (.ireturn, 1) := gd_cX1_isCellSoundWithAll_03_97 (100, .ireturn, 1) (List.mem_of_getElem? (i := 1) rfl)
def gl_cX1_isLengthSound_03_98 : List (Nat × Instr × Nat) := [(0, .aload_n 0, 1), (1, .getfield 25, 3), (4, .iload_n 1, 1), (5, .iaload, 1), (6, .istore_n 2, 1), (7, .aload_n 0, 1), (8, .getfield 16, 3), (11, .iload_n 1, 1), (12, .iaload, 1), (13, .istore_n 3, 1), (14, .iconst 0, 1), (15, .istore 4, 2), (17, .iconst 1, 1), (18, .istore 5, 2), (20, .iload 5, 2), (22, .iload_n 2, 1), (23, .if_icmp .gt 59, 3), (26, .iload_n 3, 1), (27, .aload_n 0, 1), (28, .getfield 19, 3), (31, .iload_n 1, 1), (32, .iaload, 1), (33, .invokestatic 189, 3), (36, .istore_n 3, 1), (37, .iload_n 3, 1), (38, .aload_n 0, 1), (39, .getfield 16, 3), (42, .iload_n 1, 1), (43, .iaload, 1), (44, .if_icmp .ne 7, 3), (47, .iconst 1, 1), (48, .goto 4, 3), (51, .iconst 0, 1), (52, .istore 4, 2), (54, .iload 4, 2), (56, .ifCond .eq 20, 3), (59, .iload 5, 2), (61, .iload_n 2, 1), (62, .if_icmp .ge 14, 3), (65, .iload_n 2, 1), (66, .iload 5, 2), (68, .invokestatic 147, 3), (71, .ifCond .ne 5, 3), (74, .iconst 0, 1), (75, .ireturn, 1), (76, .iinc 5 1, 3), (79, .goto (-59), 3), (82, .iload 4, 2), (84, .ireturn, 1)]
theorem gd_cX1_isLengthSound_03_98 : ∀ q ∈ gl_cX1_isLengthSound_03_98, decode cX1_isLengthSound q.1 = .ok q.2 := fdk_of 0 (by decide +kernel)
theorem dX1_isLengthSound_0 : decode cX1_isLengthSound 0 = .ok (.aload_n 0, 1) := gd_cX1_isLengthSound_03_98 (0, .aload_n 0, 1) (List.mem_of_getElem? (i := 0) rfl)
theorem dX1_isLengthSound_1 : decode cX1_isLengthSound 1 = .ok (.getfield 25, 3) := gd_cX1_isLengthSound_03_98 (1, .getfield 25, 3) (List.mem_of_getElem? (i := 1) rfl)
theorem dX1_isLengthSound_4 : decode cX1_isLengthSound 4 = .ok (.iload_n 1, 1) := gd_cX1_isLengthSound_03_98 (4, .iload_n 1, 1) (List.mem_of_getElem? (i := 2) rfl)
theorem dX1_isLengthSound_5 : decode cX1_isLengthSound 5 = .ok (.iaload, 1) := gd_cX1_isLengthSound_03_98 (5, .iaload, 1) (List.mem_of_getElem? (i := 3) rfl)
theorem dX1_isLengthSound_6 : decode cX1_isLengthSound 6 = .ok (.istore_n 2, 1) := gd_cX1_isLengthSound_03_98 (6, .istore_n 2, 1) (List.mem_of_getElem? (i := 4) rfl)
theorem dX1_isLengthSound_7 : decode cX1_isLengthSound 7 = .ok (.aload_n 0, 1) := gd_cX1_isLengthSound_03_98 (7, .aload_n 0, 1) (List.mem_of_getElem? (i := 5) rfl)
theorem dX1_isLengthSound_8 : decode cX1_isLengthSound 8 = .ok (.getfield 16, 3) := gd_cX1_isLengthSound_03_98 (8, .getfield 16, 3) (List.mem_of_getElem? (i := 6) rfl)
theorem dX1_isLengthSound_11 : decode cX1_isLengthSound 11 = .ok (.iload_n 1, 1) := gd_cX1_isLengthSound_03_98 (11, .iload_n 1, 1) (List.mem_of_getElem? (i := 7) rfl)
theorem dX1_isLengthSound_12 : decode cX1_isLengthSound 12 = .ok (.iaload, 1) := gd_cX1_isLengthSound_03_98 (12, .iaload, 1) (List.mem_of_getElem? (i := 8) rfl)
theorem dX1_isLengthSound_13 : decode cX1_isLengthSound 13 = .ok (.istore_n 3, 1) := gd_cX1_isLengthSound_03_98 (13, .istore_n 3, 1) (List.mem_of_getElem? (i := 9) rfl)
theorem dX1_isLengthSound_14 : decode cX1_isLengthSound 14 = .ok (.iconst 0, 1) := gd_cX1_isLengthSound_03_98 (14, .iconst 0, 1) (List.mem_of_getElem? (i := 10) rfl)
theorem dX1_isLengthSound_15 : decode cX1_isLengthSound 15 = .ok (.istore 4, 2) := gd_cX1_isLengthSound_03_98 (15, .istore 4, 2) (List.mem_of_getElem? (i := 11) rfl)
theorem dX1_isLengthSound_17 : decode cX1_isLengthSound 17 = .ok (.iconst 1, 1) := gd_cX1_isLengthSound_03_98 (17, .iconst 1, 1) (List.mem_of_getElem? (i := 12) rfl)
theorem dX1_isLengthSound_18 : decode cX1_isLengthSound 18 = .ok (.istore 5, 2) := gd_cX1_isLengthSound_03_98 (18, .istore 5, 2) (List.mem_of_getElem? (i := 13) rfl)
theorem dX1_isLengthSound_20 : decode cX1_isLengthSound 20 = .ok (.iload 5, 2) := gd_cX1_isLengthSound_03_98 (20, .iload 5, 2) (List.mem_of_getElem? (i := 14) rfl)
theorem dX1_isLengthSound_22 : decode cX1_isLengthSound 22 = .ok (.iload_n 2, 1) := gd_cX1_isLengthSound_03_98 (22, .iload_n 2, 1) (List.mem_of_getElem? (i := 15) rfl)
theorem dX1_isLengthSound_23 : decode cX1_isLengthSound 23 = .ok (.if_icmp .gt 59, 3) := gd_cX1_isLengthSound_03_98 (23, .if_icmp .gt 59, 3) (List.mem_of_getElem? (i := 16) rfl)
theorem dX1_isLengthSound_26 : decode cX1_isLengthSound 26 = .ok (.iload_n 3, 1) := gd_cX1_isLengthSound_03_98 (26, .iload_n 3, 1) (List.mem_of_getElem? (i := 17) rfl)
theorem dX1_isLengthSound_27 : decode cX1_isLengthSound 27 = .ok (.aload_n 0, 1) := gd_cX1_isLengthSound_03_98 (27, .aload_n 0, 1) (List.mem_of_getElem? (i := 18) rfl)
theorem dX1_isLengthSound_28 : decode cX1_isLengthSound 28 = .ok (.getfield 19, 3) := gd_cX1_isLengthSound_03_98 (28, .getfield 19, 3) (List.mem_of_getElem? (i := 19) rfl)
theorem dX1_isLengthSound_31 : decode cX1_isLengthSound 31 = .ok (.iload_n 1, 1) := gd_cX1_isLengthSound_03_98 (31, .iload_n 1, 1) (List.mem_of_getElem? (i := 20) rfl)
theorem dX1_isLengthSound_32 : decode cX1_isLengthSound 32 = .ok (.iaload, 1) := gd_cX1_isLengthSound_03_98 (32, .iaload, 1) (List.mem_of_getElem? (i := 21) rfl)
theorem dX1_isLengthSound_33 : decode cX1_isLengthSound 33 = .ok (.invokestatic 189, 3) := gd_cX1_isLengthSound_03_98 (33, .invokestatic 189, 3) (List.mem_of_getElem? (i := 22) rfl)
theorem dX1_isLengthSound_36 : decode cX1_isLengthSound 36 = .ok (.istore_n 3, 1) := gd_cX1_isLengthSound_03_98 (36, .istore_n 3, 1) (List.mem_of_getElem? (i := 23) rfl)
theorem dX1_isLengthSound_37 : decode cX1_isLengthSound 37 = .ok (.iload_n 3, 1) := gd_cX1_isLengthSound_03_98 (37, .iload_n 3, 1) (List.mem_of_getElem? (i := 24) rfl)
theorem dX1_isLengthSound_38 : decode cX1_isLengthSound 38 = .ok (.aload_n 0, 1) := gd_cX1_isLengthSound_03_98 (38, .aload_n 0, 1) (List.mem_of_getElem? (i := 25) rfl)
theorem dX1_isLengthSound_39 : decode cX1_isLengthSound 39 = .ok (.getfield 16, 3) := gd_cX1_isLengthSound_03_98 (39, .getfield 16, 3) (List.mem_of_getElem? (i := 26) rfl)
theorem dX1_isLengthSound_42 : decode cX1_isLengthSound 42 = .ok (.iload_n 1, 1) := gd_cX1_isLengthSound_03_98 (42, .iload_n 1, 1) (List.mem_of_getElem? (i := 27) rfl)
theorem dX1_isLengthSound_43 : decode cX1_isLengthSound 43 = .ok (.iaload, 1) := gd_cX1_isLengthSound_03_98 (43, .iaload, 1) (List.mem_of_getElem? (i := 28) rfl)
theorem dX1_isLengthSound_44 : decode cX1_isLengthSound 44 = .ok (.if_icmp .ne 7, 3) := gd_cX1_isLengthSound_03_98 (44, .if_icmp .ne 7, 3) (List.mem_of_getElem? (i := 29) rfl)
theorem dX1_isLengthSound_47 : decode cX1_isLengthSound 47 = .ok (.iconst 1, 1) := gd_cX1_isLengthSound_03_98 (47, .iconst 1, 1) (List.mem_of_getElem? (i := 30) rfl)
theorem dX1_isLengthSound_48 : decode cX1_isLengthSound 48 = .ok (.goto 4, 3) := gd_cX1_isLengthSound_03_98 (48, .goto 4, 3) (List.mem_of_getElem? (i := 31) rfl)
theorem dX1_isLengthSound_51 : decode cX1_isLengthSound 51 = .ok (.iconst 0, 1) := gd_cX1_isLengthSound_03_98 (51, .iconst 0, 1) (List.mem_of_getElem? (i := 32) rfl)
theorem dX1_isLengthSound_52 : decode cX1_isLengthSound 52 = .ok (.istore 4, 2) := gd_cX1_isLengthSound_03_98 (52, .istore 4, 2) (List.mem_of_getElem? (i := 33) rfl)
theorem dX1_isLengthSound_54 : decode cX1_isLengthSound 54 = .ok (.iload 4, 2) := gd_cX1_isLengthSound_03_98 (54, .iload 4, 2) (List.mem_of_getElem? (i := 34) rfl)
theorem dX1_isLengthSound_56 : decode cX1_isLengthSound 56 = .ok (.ifCond .eq 20, 3) := gd_cX1_isLengthSound_03_98 (56, .ifCond .eq 20, 3) (List.mem_of_getElem? (i := 35) rfl)
theorem dX1_isLengthSound_59 : decode cX1_isLengthSound 59 = .ok (.iload 5, 2) := gd_cX1_isLengthSound_03_98 (59, .iload 5, 2) (List.mem_of_getElem? (i := 36) rfl)
theorem dX1_isLengthSound_61 : decode cX1_isLengthSound 61 = .ok (.iload_n 2, 1) := gd_cX1_isLengthSound_03_98 (61, .iload_n 2, 1) (List.mem_of_getElem? (i := 37) rfl)
theorem dX1_isLengthSound_62 : decode cX1_isLengthSound 62 = .ok (.if_icmp .ge 14, 3) := gd_cX1_isLengthSound_03_98 (62, .if_icmp .ge 14, 3) (List.mem_of_getElem? (i := 38) rfl)
theorem dX1_isLengthSound_65 : decode cX1_isLengthSound 65 = .ok (.iload_n 2, 1) := gd_cX1_isLengthSound_03_98 (65, .iload_n 2, 1) (List.mem_of_getElem? (i := 39) rfl)
theorem dX1_isLengthSound_66 : decode cX1_isLengthSound 66 = .ok (.iload 5, 2) := gd_cX1_isLengthSound_03_98 (66, .iload 5, 2) (List.mem_of_getElem? (i := 40) rfl)
theorem dX1_isLengthSound_68 : decode cX1_isLengthSound 68 = .ok (.invokestatic 147, 3) := gd_cX1_isLengthSound_03_98 (68, .invokestatic 147, 3) (List.mem_of_getElem? (i := 41) rfl)
theorem dX1_isLengthSound_71 : decode cX1_isLengthSound 71 = .ok (.ifCond .ne 5, 3) := gd_cX1_isLengthSound_03_98 (71, .ifCond .ne 5, 3) (List.mem_of_getElem? (i := 42) rfl)
theorem dX1_isLengthSound_74 : decode cX1_isLengthSound 74 = .ok (.iconst 0, 1) := gd_cX1_isLengthSound_03_98 (74, .iconst 0, 1) (List.mem_of_getElem? (i := 43) rfl)
theorem dX1_isLengthSound_75 : decode cX1_isLengthSound 75 = .ok (.ireturn, 1) := gd_cX1_isLengthSound_03_98 (75, .ireturn, 1) (List.mem_of_getElem? (i := 44) rfl)
theorem dX1_isLengthSound_76 : decode cX1_isLengthSound 76 = .ok (.iinc 5 1, 3) := gd_cX1_isLengthSound_03_98 (76, .iinc 5 1, 3) (List.mem_of_getElem? (i := 45) rfl)
theorem dX1_isLengthSound_79 : decode cX1_isLengthSound 79 = .ok (.goto (-59), 3) := gd_cX1_isLengthSound_03_98 (79, .goto (-59), 3) (List.mem_of_getElem? (i := 46) rfl)
theorem dX1_isLengthSound_82 : decode cX1_isLengthSound 82 = .ok (.iload 4, 2) := gd_cX1_isLengthSound_03_98 (82, .iload 4, 2) (List.mem_of_getElem? (i := 47) rfl)
theorem dX1_isLengthSound_84 : decode cX1_isLengthSound 84 = .ok (.ireturn, 1) := gd_cX1_isLengthSound_03_98 (84, .ireturn, 1) (List.mem_of_getElem? (i := 48) rfl)
def gl_cX1_isProductSound_03_99 : List (Nat × Instr × Nat) := [(0, .aload_n 0, 1), (1, .iload_n 1, 1), (2, .invokevirtual 166, 3), (5, .aload_n 0, 1), (6, .getfield 38, 3), (9, .aload_n 0, 1), (10, .getfield 25, 3), (13, .iload_n 1, 1), (14, .iaload, 1), (15, .aload_n 0, 1), (16, .getfield 16, 3), (19, .iload_n 1, 1), (20, .iaload, 1), (21, .invokevirtual 283, 3), (24, .aload_n 0, 1), (25, .getfield 34, 3), (28, .aload_n 0, 1), (29, .getfield 38, 3), (32, .invokevirtual 286, 3), (35, .ireturn, 1)]
theorem gd_cX1_isProductSound_03_99 : ∀ q ∈ gl_cX1_isProductSound_03_99, decode cX1_isProductSound q.1 = .ok q.2 := fdk_of 0 (by decide +kernel)
theorem dX1_isProductSound_0 : decode cX1_isProductSound 0 = .ok (.aload_n 0, 1) := gd_cX1_isProductSound_03_99 (0, .aload_n 0, 1) (List.mem_of_getElem? (i := 0) rfl)
theorem dX1_isProductSound_1 : decode cX1_isProductSound 1 = .ok (.iload_n 1, 1) := gd_cX1_isProductSound_03_99 (1, .iload_n 1, 1) (List.mem_of_getElem? (i := 1) rfl)
theorem dX1_isProductSound_2 : decode cX1_isProductSound 2 = .ok (.invokevirtual 166, 3) := gd_cX1_isProductSound_03_99 (2, .invokevirtual 166, 3) (List.mem_of_getElem? (i := 2) rfl)
theorem dX1_isProductSound_5 : decode cX1_isProductSound 5 = .ok (.aload_n 0, 1) := gd_cX1_isProductSound_03_99 (5, .aload_n 0, 1) (List.mem_of_getElem? (i := 3) rfl)
theorem dX1_isProductSound_6 : decode cX1_isProductSound 6 = .ok (.getfield 38, 3) := gd_cX1_isProductSound_03_99 (6, .getfield 38, 3) (List.mem_of_getElem? (i := 4) rfl)
theorem dX1_isProductSound_9 : decode cX1_isProductSound 9 = .ok (.aload_n 0, 1) := gd_cX1_isProductSound_03_99 (9, .aload_n 0, 1) (List.mem_of_getElem? (i := 5) rfl)
theorem dX1_isProductSound_10 : decode cX1_isProductSound 10 = .ok (.getfield 25, 3) := gd_cX1_isProductSound_03_99 (10, .getfield 25, 3) (List.mem_of_getElem? (i := 6) rfl)
theorem dX1_isProductSound_13 : decode cX1_isProductSound 13 = .ok (.iload_n 1, 1) := gd_cX1_isProductSound_03_99 (13, .iload_n 1, 1) (List.mem_of_getElem? (i := 7) rfl)
theorem dX1_isProductSound_14 : decode cX1_isProductSound 14 = .ok (.iaload, 1) := gd_cX1_isProductSound_03_99 (14, .iaload, 1) (List.mem_of_getElem? (i := 8) rfl)
theorem dX1_isProductSound_15 : decode cX1_isProductSound 15 = .ok (.aload_n 0, 1) := gd_cX1_isProductSound_03_99 (15, .aload_n 0, 1) (List.mem_of_getElem? (i := 9) rfl)
theorem dX1_isProductSound_16 : decode cX1_isProductSound 16 = .ok (.getfield 16, 3) := gd_cX1_isProductSound_03_99 (16, .getfield 16, 3) (List.mem_of_getElem? (i := 10) rfl)
theorem dX1_isProductSound_19 : decode cX1_isProductSound 19 = .ok (.iload_n 1, 1) := gd_cX1_isProductSound_03_99 (19, .iload_n 1, 1) (List.mem_of_getElem? (i := 11) rfl)
theorem dX1_isProductSound_20 : decode cX1_isProductSound 20 = .ok (.iaload, 1) := gd_cX1_isProductSound_03_99 (20, .iaload, 1) (List.mem_of_getElem? (i := 12) rfl)
theorem dX1_isProductSound_21 : decode cX1_isProductSound 21 = .ok (.invokevirtual 283, 3) := gd_cX1_isProductSound_03_99 (21, .invokevirtual 283, 3) (List.mem_of_getElem? (i := 13) rfl)
theorem dX1_isProductSound_24 : decode cX1_isProductSound 24 = .ok (.aload_n 0, 1) := gd_cX1_isProductSound_03_99 (24, .aload_n 0, 1) (List.mem_of_getElem? (i := 14) rfl)
theorem dX1_isProductSound_25 : decode cX1_isProductSound 25 = .ok (.getfield 34, 3) := gd_cX1_isProductSound_03_99 (25, .getfield 34, 3) (List.mem_of_getElem? (i := 15) rfl)
theorem dX1_isProductSound_28 : decode cX1_isProductSound 28 = .ok (.aload_n 0, 1) := gd_cX1_isProductSound_03_99 (28, .aload_n 0, 1) (List.mem_of_getElem? (i := 16) rfl)
theorem dX1_isProductSound_29 : decode cX1_isProductSound 29 = .ok (.getfield 38, 3) := gd_cX1_isProductSound_03_99 (29, .getfield 38, 3) (List.mem_of_getElem? (i := 17) rfl)
theorem dX1_isProductSound_32 : decode cX1_isProductSound 32 = .ok (.invokevirtual 286, 3) := gd_cX1_isProductSound_03_99 (32, .invokevirtual 286, 3) (List.mem_of_getElem? (i := 18) rfl)
theorem dX1_isProductSound_35 : decode cX1_isProductSound 35 = .ok (.ireturn, 1) := gd_cX1_isProductSound_03_99 (35, .ireturn, 1) (List.mem_of_getElem? (i := 19) rfl)
def gl_cX1_isCutSound_03_100 : List (Nat × Instr × Nat) := [(0, .aload_n 0, 1), (1, .iload_n 1, 1), (2, .iconst 0, 1), (3, .iconst 5, 1), (4, .iconst 0, 1), (5, .invokevirtual 113, 3), (8, .lstore_n 2, 1), (9, .aload_n 0, 1), (10, .iload_n 1, 1), (11, .iconst 0, 1), (12, .iconst 5, 1), (13, .iconst 1, 1), (14, .invokevirtual 113, 3), (17, .lstore 4, 2), (19, .aload_n 0, 1), (20, .iload_n 1, 1), (21, .iconst 0, 1), (22, .iconst 5, 1), (23, .iconst 4, 1), (24, .invokevirtual 113, 3), (27, .lstore 6, 2), (29, .lload_n 2, 1), (30, .lload 4, 2), (32, .lsub, 1), (33, .aload_n 0, 1), (34, .getfield 16, 3), (37, .iload_n 1, 1), (38, .iaload, 1), (39, .ifCond .ne 7, 3), (42, .iconst 0, 1), (43, .goto 4, 3), (46, .iconst 1, 1), (47, .i2l, 1), (48, .lcmp, 1), (49, .ifCond .ne 36, 3), (52, .lload 6, 2), (54, .aload_n 0, 1), (55, .iload_n 1, 1), (56, .iconst 0, 1), (57, .iconst 5, 1), (58, .iconst 5, 1), (59, .invokevirtual 113, 3), (62, .lcmp, 1), (63, .ifCond .ne 22, 3), (66, .lload 6, 2), (68, .aload_n 0, 1), (69, .iload_n 1, 1), (70, .iconst 0, 1), (71, .iconst 5, 1), (72, .bipush 6, 2), (74, .invokevirtual 113, 3), (77, .lcmp, 1), (78, .ifCond .ne 7, 3), (81, .iconst 1, 1), (82, .goto 4, 3), (85, .iconst 0, 1), (86, .ireturn, 1)]
theorem gd_cX1_isCutSound_03_100 : ∀ q ∈ gl_cX1_isCutSound_03_100, decode cX1_isCutSound q.1 = .ok q.2 := fdk_of 0 (by decide +kernel)
theorem dX1_isCutSound_0 : decode cX1_isCutSound 0 = .ok (.aload_n 0, 1) := gd_cX1_isCutSound_03_100 (0, .aload_n 0, 1) (List.mem_of_getElem? (i := 0) rfl)
theorem dX1_isCutSound_1 : decode cX1_isCutSound 1 = .ok (.iload_n 1, 1) := gd_cX1_isCutSound_03_100 (1, .iload_n 1, 1) (List.mem_of_getElem? (i := 1) rfl)
theorem dX1_isCutSound_2 : decode cX1_isCutSound 2 = .ok (.iconst 0, 1) := gd_cX1_isCutSound_03_100 (2, .iconst 0, 1) (List.mem_of_getElem? (i := 2) rfl)
theorem dX1_isCutSound_3 : decode cX1_isCutSound 3 = .ok (.iconst 5, 1) := gd_cX1_isCutSound_03_100 (3, .iconst 5, 1) (List.mem_of_getElem? (i := 3) rfl)
theorem dX1_isCutSound_4 : decode cX1_isCutSound 4 = .ok (.iconst 0, 1) := gd_cX1_isCutSound_03_100 (4, .iconst 0, 1) (List.mem_of_getElem? (i := 4) rfl)
theorem dX1_isCutSound_5 : decode cX1_isCutSound 5 = .ok (.invokevirtual 113, 3) := gd_cX1_isCutSound_03_100 (5, .invokevirtual 113, 3) (List.mem_of_getElem? (i := 5) rfl)
theorem dX1_isCutSound_8 : decode cX1_isCutSound 8 = .ok (.lstore_n 2, 1) := gd_cX1_isCutSound_03_100 (8, .lstore_n 2, 1) (List.mem_of_getElem? (i := 6) rfl)
theorem dX1_isCutSound_9 : decode cX1_isCutSound 9 = .ok (.aload_n 0, 1) := gd_cX1_isCutSound_03_100 (9, .aload_n 0, 1) (List.mem_of_getElem? (i := 7) rfl)
theorem dX1_isCutSound_10 : decode cX1_isCutSound 10 = .ok (.iload_n 1, 1) := gd_cX1_isCutSound_03_100 (10, .iload_n 1, 1) (List.mem_of_getElem? (i := 8) rfl)
theorem dX1_isCutSound_11 : decode cX1_isCutSound 11 = .ok (.iconst 0, 1) := gd_cX1_isCutSound_03_100 (11, .iconst 0, 1) (List.mem_of_getElem? (i := 9) rfl)
theorem dX1_isCutSound_12 : decode cX1_isCutSound 12 = .ok (.iconst 5, 1) := gd_cX1_isCutSound_03_100 (12, .iconst 5, 1) (List.mem_of_getElem? (i := 10) rfl)
theorem dX1_isCutSound_13 : decode cX1_isCutSound 13 = .ok (.iconst 1, 1) := gd_cX1_isCutSound_03_100 (13, .iconst 1, 1) (List.mem_of_getElem? (i := 11) rfl)
theorem dX1_isCutSound_14 : decode cX1_isCutSound 14 = .ok (.invokevirtual 113, 3) := gd_cX1_isCutSound_03_100 (14, .invokevirtual 113, 3) (List.mem_of_getElem? (i := 12) rfl)
theorem dX1_isCutSound_17 : decode cX1_isCutSound 17 = .ok (.lstore 4, 2) := gd_cX1_isCutSound_03_100 (17, .lstore 4, 2) (List.mem_of_getElem? (i := 13) rfl)
theorem dX1_isCutSound_19 : decode cX1_isCutSound 19 = .ok (.aload_n 0, 1) := gd_cX1_isCutSound_03_100 (19, .aload_n 0, 1) (List.mem_of_getElem? (i := 14) rfl)
theorem dX1_isCutSound_20 : decode cX1_isCutSound 20 = .ok (.iload_n 1, 1) := gd_cX1_isCutSound_03_100 (20, .iload_n 1, 1) (List.mem_of_getElem? (i := 15) rfl)
theorem dX1_isCutSound_21 : decode cX1_isCutSound 21 = .ok (.iconst 0, 1) := gd_cX1_isCutSound_03_100 (21, .iconst 0, 1) (List.mem_of_getElem? (i := 16) rfl)
theorem dX1_isCutSound_22 : decode cX1_isCutSound 22 = .ok (.iconst 5, 1) := gd_cX1_isCutSound_03_100 (22, .iconst 5, 1) (List.mem_of_getElem? (i := 17) rfl)
theorem dX1_isCutSound_23 : decode cX1_isCutSound 23 = .ok (.iconst 4, 1) := gd_cX1_isCutSound_03_100 (23, .iconst 4, 1) (List.mem_of_getElem? (i := 18) rfl)
theorem dX1_isCutSound_24 : decode cX1_isCutSound 24 = .ok (.invokevirtual 113, 3) := gd_cX1_isCutSound_03_100 (24, .invokevirtual 113, 3) (List.mem_of_getElem? (i := 19) rfl)
theorem dX1_isCutSound_27 : decode cX1_isCutSound 27 = .ok (.lstore 6, 2) := gd_cX1_isCutSound_03_100 (27, .lstore 6, 2) (List.mem_of_getElem? (i := 20) rfl)
theorem dX1_isCutSound_29 : decode cX1_isCutSound 29 = .ok (.lload_n 2, 1) := gd_cX1_isCutSound_03_100 (29, .lload_n 2, 1) (List.mem_of_getElem? (i := 21) rfl)
theorem dX1_isCutSound_30 : decode cX1_isCutSound 30 = .ok (.lload 4, 2) := gd_cX1_isCutSound_03_100 (30, .lload 4, 2) (List.mem_of_getElem? (i := 22) rfl)
theorem dX1_isCutSound_32 : decode cX1_isCutSound 32 = .ok (.lsub, 1) := gd_cX1_isCutSound_03_100 (32, .lsub, 1) (List.mem_of_getElem? (i := 23) rfl)
theorem dX1_isCutSound_33 : decode cX1_isCutSound 33 = .ok (.aload_n 0, 1) := gd_cX1_isCutSound_03_100 (33, .aload_n 0, 1) (List.mem_of_getElem? (i := 24) rfl)
theorem dX1_isCutSound_34 : decode cX1_isCutSound 34 = .ok (.getfield 16, 3) := gd_cX1_isCutSound_03_100 (34, .getfield 16, 3) (List.mem_of_getElem? (i := 25) rfl)
theorem dX1_isCutSound_37 : decode cX1_isCutSound 37 = .ok (.iload_n 1, 1) := gd_cX1_isCutSound_03_100 (37, .iload_n 1, 1) (List.mem_of_getElem? (i := 26) rfl)
theorem dX1_isCutSound_38 : decode cX1_isCutSound 38 = .ok (.iaload, 1) := gd_cX1_isCutSound_03_100 (38, .iaload, 1) (List.mem_of_getElem? (i := 27) rfl)
theorem dX1_isCutSound_39 : decode cX1_isCutSound 39 = .ok (.ifCond .ne 7, 3) := gd_cX1_isCutSound_03_100 (39, .ifCond .ne 7, 3) (List.mem_of_getElem? (i := 28) rfl)
theorem dX1_isCutSound_42 : decode cX1_isCutSound 42 = .ok (.iconst 0, 1) := gd_cX1_isCutSound_03_100 (42, .iconst 0, 1) (List.mem_of_getElem? (i := 29) rfl)
theorem dX1_isCutSound_43 : decode cX1_isCutSound 43 = .ok (.goto 4, 3) := gd_cX1_isCutSound_03_100 (43, .goto 4, 3) (List.mem_of_getElem? (i := 30) rfl)
theorem dX1_isCutSound_46 : decode cX1_isCutSound 46 = .ok (.iconst 1, 1) := gd_cX1_isCutSound_03_100 (46, .iconst 1, 1) (List.mem_of_getElem? (i := 31) rfl)
theorem dX1_isCutSound_47 : decode cX1_isCutSound 47 = .ok (.i2l, 1) := gd_cX1_isCutSound_03_100 (47, .i2l, 1) (List.mem_of_getElem? (i := 32) rfl)
theorem dX1_isCutSound_48 : decode cX1_isCutSound 48 = .ok (.lcmp, 1) := gd_cX1_isCutSound_03_100 (48, .lcmp, 1) (List.mem_of_getElem? (i := 33) rfl)
theorem dX1_isCutSound_49 : decode cX1_isCutSound 49 = .ok (.ifCond .ne 36, 3) := gd_cX1_isCutSound_03_100 (49, .ifCond .ne 36, 3) (List.mem_of_getElem? (i := 34) rfl)
theorem dX1_isCutSound_52 : decode cX1_isCutSound 52 = .ok (.lload 6, 2) := gd_cX1_isCutSound_03_100 (52, .lload 6, 2) (List.mem_of_getElem? (i := 35) rfl)
theorem dX1_isCutSound_54 : decode cX1_isCutSound 54 = .ok (.aload_n 0, 1) := gd_cX1_isCutSound_03_100 (54, .aload_n 0, 1) (List.mem_of_getElem? (i := 36) rfl)
theorem dX1_isCutSound_55 : decode cX1_isCutSound 55 = .ok (.iload_n 1, 1) := gd_cX1_isCutSound_03_100 (55, .iload_n 1, 1) (List.mem_of_getElem? (i := 37) rfl)
theorem dX1_isCutSound_56 : decode cX1_isCutSound 56 = .ok (.iconst 0, 1) := gd_cX1_isCutSound_03_100 (56, .iconst 0, 1) (List.mem_of_getElem? (i := 38) rfl)
theorem dX1_isCutSound_57 : decode cX1_isCutSound 57 = .ok (.iconst 5, 1) := gd_cX1_isCutSound_03_100 (57, .iconst 5, 1) (List.mem_of_getElem? (i := 39) rfl)
theorem dX1_isCutSound_58 : decode cX1_isCutSound 58 = .ok (.iconst 5, 1) := gd_cX1_isCutSound_03_100 (58, .iconst 5, 1) (List.mem_of_getElem? (i := 40) rfl)
theorem dX1_isCutSound_59 : decode cX1_isCutSound 59 = .ok (.invokevirtual 113, 3) := gd_cX1_isCutSound_03_100 (59, .invokevirtual 113, 3) (List.mem_of_getElem? (i := 41) rfl)
theorem dX1_isCutSound_62 : decode cX1_isCutSound 62 = .ok (.lcmp, 1) := gd_cX1_isCutSound_03_100 (62, .lcmp, 1) (List.mem_of_getElem? (i := 42) rfl)
theorem dX1_isCutSound_63 : decode cX1_isCutSound 63 = .ok (.ifCond .ne 22, 3) := gd_cX1_isCutSound_03_100 (63, .ifCond .ne 22, 3) (List.mem_of_getElem? (i := 43) rfl)
theorem dX1_isCutSound_66 : decode cX1_isCutSound 66 = .ok (.lload 6, 2) := gd_cX1_isCutSound_03_100 (66, .lload 6, 2) (List.mem_of_getElem? (i := 44) rfl)
theorem dX1_isCutSound_68 : decode cX1_isCutSound 68 = .ok (.aload_n 0, 1) := gd_cX1_isCutSound_03_100 (68, .aload_n 0, 1) (List.mem_of_getElem? (i := 45) rfl)
theorem dX1_isCutSound_69 : decode cX1_isCutSound 69 = .ok (.iload_n 1, 1) := gd_cX1_isCutSound_03_100 (69, .iload_n 1, 1) (List.mem_of_getElem? (i := 46) rfl)
theorem dX1_isCutSound_70 : decode cX1_isCutSound 70 = .ok (.iconst 0, 1) := gd_cX1_isCutSound_03_100 (70, .iconst 0, 1) (List.mem_of_getElem? (i := 47) rfl)
theorem dX1_isCutSound_71 : decode cX1_isCutSound 71 = .ok (.iconst 5, 1) := gd_cX1_isCutSound_03_100 (71, .iconst 5, 1) (List.mem_of_getElem? (i := 48) rfl)
theorem dX1_isCutSound_72 : decode cX1_isCutSound 72 = .ok (.bipush 6, 2) := gd_cX1_isCutSound_03_100 (72, .bipush 6, 2) (List.mem_of_getElem? (i := 49) rfl)
theorem dX1_isCutSound_74 : decode cX1_isCutSound 74 = .ok (.invokevirtual 113, 3) := gd_cX1_isCutSound_03_100 (74, .invokevirtual 113, 3) (List.mem_of_getElem? (i := 50) rfl)
theorem dX1_isCutSound_77 : decode cX1_isCutSound 77 = .ok (.lcmp, 1) := gd_cX1_isCutSound_03_100 (77, .lcmp, 1) (List.mem_of_getElem? (i := 51) rfl)
theorem dX1_isCutSound_78 : decode cX1_isCutSound 78 = .ok (.ifCond .ne 7, 3) := gd_cX1_isCutSound_03_100 (78, .ifCond .ne 7, 3) (List.mem_of_getElem? (i := 52) rfl)
theorem dX1_isCutSound_81 : decode cX1_isCutSound 81 = .ok (.iconst 1, 1) := gd_cX1_isCutSound_03_100 (81, .iconst 1, 1) (List.mem_of_getElem? (i := 53) rfl)
theorem dX1_isCutSound_82 : decode cX1_isCutSound 82 = .ok (.goto 4, 3) := gd_cX1_isCutSound_03_100 (82, .goto 4, 3) (List.mem_of_getElem? (i := 54) rfl)
theorem dX1_isCutSound_85 : decode cX1_isCutSound 85 = .ok (.iconst 0, 1) := gd_cX1_isCutSound_03_100 (85, .iconst 0, 1) (List.mem_of_getElem? (i := 55) rfl)
theorem dX1_isCutSound_86 : decode cX1_isCutSound 86 = .ok (.ireturn, 1) := gd_cX1_isCutSound_03_100 (86, .ireturn, 1) (List.mem_of_getElem? (i := 56) rfl)
def gl_cX1_joined_03_101 : List (Nat × Instr × Nat) := [(0, .lload_n 0, 1), (1, .ldc2_w 290, 3), (4, .lmul, 1), (5, .lload_n 2, 1), (6, .ladd, 1), (7, .lreturn, 1)]
theorem gd_cX1_joined_03_101 : ∀ q ∈ gl_cX1_joined_03_101, decode cX1_joined q.1 = .ok q.2 := fdk_of 0 (by decide +kernel)
theorem dX1_joined_0 : decode cX1_joined 0 = .ok (.lload_n 0, 1) := gd_cX1_joined_03_101 (0, .lload_n 0, 1) (List.mem_of_getElem? (i := 0) rfl)
theorem dX1_joined_1 : decode cX1_joined 1 = .ok (.ldc2_w 290, 3) := gd_cX1_joined_03_101 (1, .ldc2_w 290, 3) (List.mem_of_getElem? (i := 1) rfl)
theorem dX1_joined_4 : decode cX1_joined 4 = .ok (.lmul, 1) := gd_cX1_joined_03_101 (4, .lmul, 1) (List.mem_of_getElem? (i := 2) rfl)
theorem dX1_joined_5 : decode cX1_joined 5 = .ok (.lload_n 2, 1) := gd_cX1_joined_03_101 (5, .lload_n 2, 1) (List.mem_of_getElem? (i := 3) rfl)
theorem dX1_joined_6 : decode cX1_joined 6 = .ok (.ladd, 1) := gd_cX1_joined_03_101 (6, .ladd, 1) (List.mem_of_getElem? (i := 4) rfl)
theorem dX1_joined_7 : decode cX1_joined 7 = .ok (.lreturn, 1) := gd_cX1_joined_03_101 (7, .lreturn, 1) (List.mem_of_getElem? (i := 5) rfl)
def gl_cX1_digestOfCells_03_102 : List (Nat × Instr × Nat) := [(0, .lload_n 1, 1), (1, .lstore_n 3, 1), (2, .iconst 0, 1), (3, .istore 5, 2), (5, .iload 5, 2), (7, .iconst 4, 1), (8, .if_icmp .ge 69, 3), (11, .lload_n 3, 1), (12, .aload_n 0, 1), (13, .getfield 9, 3), (16, .iload 5, 2), (18, .iaload, 1), (19, .i2l, 1), (20, .invokestatic 224, 3), (23, .lstore_n 3, 1), (24, .lload_n 3, 1), (25, .aload_n 0, 1), (26, .getfield 13, 3), (29, .iload 5, 2), (31, .iaload, 1), (32, .i2l, 1), (33, .invokestatic 224, 3), (36, .lstore_n 3, 1), (37, .lload_n 3, 1), (38, .aload_n 0, 1), (39, .getfield 9, 3), (42, .iload 5, 2), (44, .iaload, 1), (45, .i2l, 1), (46, .invokestatic 101, 3), (49, .i2l, 1), (50, .invokestatic 224, 3), (53, .lstore_n 3, 1), (54, .lload_n 3, 1), (55, .aload_n 0, 1), (56, .getfield 9, 3), (59, .iload 5, 2), (61, .iaload, 1), (62, .i2l, 1), (63, .invokestatic 117, 3), (66, .i2l, 1), (67, .invokestatic 224, 3), (70, .lstore_n 3, 1), (71, .iinc 5 1, 3), (74, .goto (-69), 3), (77, .iconst 0, 1), (78, .istore 5, 2), (80, .iload 5, 2), (82, .iconst 4, 1), (83, .if_icmp .ge 62, 3), (86, .iload 5, 2), (88, .iconst 1, 1), (89, .iadd, 1), (90, .istore 6, 2), (92, .iload 6, 2), (94, .iconst 4, 1), (95, .if_icmp .ge 44, 3), (98, .lload_n 3, 1), (99, .aload_n 0, 1), (100, .iload 5, 2)]
theorem gd_cX1_digestOfCells_03_102 : ∀ q ∈ gl_cX1_digestOfCells_03_102, decode cX1_digestOfCells q.1 = .ok q.2 := fdk_of 0 (by decide +kernel)
theorem dX1_digestOfCells_0 : decode cX1_digestOfCells 0 = .ok (.lload_n 1, 1) := gd_cX1_digestOfCells_03_102 (0, .lload_n 1, 1) (List.mem_of_getElem? (i := 0) rfl)
theorem dX1_digestOfCells_1 : decode cX1_digestOfCells 1 = .ok (.lstore_n 3, 1) := gd_cX1_digestOfCells_03_102 (1, .lstore_n 3, 1) (List.mem_of_getElem? (i := 1) rfl)
theorem dX1_digestOfCells_2 : decode cX1_digestOfCells 2 = .ok (.iconst 0, 1) := gd_cX1_digestOfCells_03_102 (2, .iconst 0, 1) (List.mem_of_getElem? (i := 2) rfl)
theorem dX1_digestOfCells_3 : decode cX1_digestOfCells 3 = .ok (.istore 5, 2) := gd_cX1_digestOfCells_03_102 (3, .istore 5, 2) (List.mem_of_getElem? (i := 3) rfl)
theorem dX1_digestOfCells_5 : decode cX1_digestOfCells 5 = .ok (.iload 5, 2) := gd_cX1_digestOfCells_03_102 (5, .iload 5, 2) (List.mem_of_getElem? (i := 4) rfl)
theorem dX1_digestOfCells_7 : decode cX1_digestOfCells 7 = .ok (.iconst 4, 1) := gd_cX1_digestOfCells_03_102 (7, .iconst 4, 1) (List.mem_of_getElem? (i := 5) rfl)
theorem dX1_digestOfCells_8 : decode cX1_digestOfCells 8 = .ok (.if_icmp .ge 69, 3) := gd_cX1_digestOfCells_03_102 (8, .if_icmp .ge 69, 3) (List.mem_of_getElem? (i := 6) rfl)
theorem dX1_digestOfCells_11 : decode cX1_digestOfCells 11 = .ok (.lload_n 3, 1) := gd_cX1_digestOfCells_03_102 (11, .lload_n 3, 1) (List.mem_of_getElem? (i := 7) rfl)
theorem dX1_digestOfCells_12 : decode cX1_digestOfCells 12 = .ok (.aload_n 0, 1) := gd_cX1_digestOfCells_03_102 (12, .aload_n 0, 1) (List.mem_of_getElem? (i := 8) rfl)
theorem dX1_digestOfCells_13 : decode cX1_digestOfCells 13 = .ok (.getfield 9, 3) := gd_cX1_digestOfCells_03_102 (13, .getfield 9, 3) (List.mem_of_getElem? (i := 9) rfl)
theorem dX1_digestOfCells_16 : decode cX1_digestOfCells 16 = .ok (.iload 5, 2) := gd_cX1_digestOfCells_03_102 (16, .iload 5, 2) (List.mem_of_getElem? (i := 10) rfl)
theorem dX1_digestOfCells_18 : decode cX1_digestOfCells 18 = .ok (.iaload, 1) := gd_cX1_digestOfCells_03_102 (18, .iaload, 1) (List.mem_of_getElem? (i := 11) rfl)
theorem dX1_digestOfCells_19 : decode cX1_digestOfCells 19 = .ok (.i2l, 1) := gd_cX1_digestOfCells_03_102 (19, .i2l, 1) (List.mem_of_getElem? (i := 12) rfl)
theorem dX1_digestOfCells_20 : decode cX1_digestOfCells 20 = .ok (.invokestatic 224, 3) := gd_cX1_digestOfCells_03_102 (20, .invokestatic 224, 3) (List.mem_of_getElem? (i := 13) rfl)
theorem dX1_digestOfCells_23 : decode cX1_digestOfCells 23 = .ok (.lstore_n 3, 1) := gd_cX1_digestOfCells_03_102 (23, .lstore_n 3, 1) (List.mem_of_getElem? (i := 14) rfl)
theorem dX1_digestOfCells_24 : decode cX1_digestOfCells 24 = .ok (.lload_n 3, 1) := gd_cX1_digestOfCells_03_102 (24, .lload_n 3, 1) (List.mem_of_getElem? (i := 15) rfl)
theorem dX1_digestOfCells_25 : decode cX1_digestOfCells 25 = .ok (.aload_n 0, 1) := gd_cX1_digestOfCells_03_102 (25, .aload_n 0, 1) (List.mem_of_getElem? (i := 16) rfl)
theorem dX1_digestOfCells_26 : decode cX1_digestOfCells 26 = .ok (.getfield 13, 3) := gd_cX1_digestOfCells_03_102 (26, .getfield 13, 3) (List.mem_of_getElem? (i := 17) rfl)
theorem dX1_digestOfCells_29 : decode cX1_digestOfCells 29 = .ok (.iload 5, 2) := gd_cX1_digestOfCells_03_102 (29, .iload 5, 2) (List.mem_of_getElem? (i := 18) rfl)
theorem dX1_digestOfCells_31 : decode cX1_digestOfCells 31 = .ok (.iaload, 1) := gd_cX1_digestOfCells_03_102 (31, .iaload, 1) (List.mem_of_getElem? (i := 19) rfl)
theorem dX1_digestOfCells_32 : decode cX1_digestOfCells 32 = .ok (.i2l, 1) := gd_cX1_digestOfCells_03_102 (32, .i2l, 1) (List.mem_of_getElem? (i := 20) rfl)
theorem dX1_digestOfCells_33 : decode cX1_digestOfCells 33 = .ok (.invokestatic 224, 3) := gd_cX1_digestOfCells_03_102 (33, .invokestatic 224, 3) (List.mem_of_getElem? (i := 21) rfl)
theorem dX1_digestOfCells_36 : decode cX1_digestOfCells 36 = .ok (.lstore_n 3, 1) := gd_cX1_digestOfCells_03_102 (36, .lstore_n 3, 1) (List.mem_of_getElem? (i := 22) rfl)
theorem dX1_digestOfCells_37 : decode cX1_digestOfCells 37 = .ok (.lload_n 3, 1) := gd_cX1_digestOfCells_03_102 (37, .lload_n 3, 1) (List.mem_of_getElem? (i := 23) rfl)
theorem dX1_digestOfCells_38 : decode cX1_digestOfCells 38 = .ok (.aload_n 0, 1) := gd_cX1_digestOfCells_03_102 (38, .aload_n 0, 1) (List.mem_of_getElem? (i := 24) rfl)
theorem dX1_digestOfCells_39 : decode cX1_digestOfCells 39 = .ok (.getfield 9, 3) := gd_cX1_digestOfCells_03_102 (39, .getfield 9, 3) (List.mem_of_getElem? (i := 25) rfl)
theorem dX1_digestOfCells_42 : decode cX1_digestOfCells 42 = .ok (.iload 5, 2) := gd_cX1_digestOfCells_03_102 (42, .iload 5, 2) (List.mem_of_getElem? (i := 26) rfl)
theorem dX1_digestOfCells_44 : decode cX1_digestOfCells 44 = .ok (.iaload, 1) := gd_cX1_digestOfCells_03_102 (44, .iaload, 1) (List.mem_of_getElem? (i := 27) rfl)
theorem dX1_digestOfCells_45 : decode cX1_digestOfCells 45 = .ok (.i2l, 1) := gd_cX1_digestOfCells_03_102 (45, .i2l, 1) (List.mem_of_getElem? (i := 28) rfl)
theorem dX1_digestOfCells_46 : decode cX1_digestOfCells 46 = .ok (.invokestatic 101, 3) := gd_cX1_digestOfCells_03_102 (46, .invokestatic 101, 3) (List.mem_of_getElem? (i := 29) rfl)
theorem dX1_digestOfCells_49 : decode cX1_digestOfCells 49 = .ok (.i2l, 1) := gd_cX1_digestOfCells_03_102 (49, .i2l, 1) (List.mem_of_getElem? (i := 30) rfl)
theorem dX1_digestOfCells_50 : decode cX1_digestOfCells 50 = .ok (.invokestatic 224, 3) := gd_cX1_digestOfCells_03_102 (50, .invokestatic 224, 3) (List.mem_of_getElem? (i := 31) rfl)
theorem dX1_digestOfCells_53 : decode cX1_digestOfCells 53 = .ok (.lstore_n 3, 1) := gd_cX1_digestOfCells_03_102 (53, .lstore_n 3, 1) (List.mem_of_getElem? (i := 32) rfl)
theorem dX1_digestOfCells_54 : decode cX1_digestOfCells 54 = .ok (.lload_n 3, 1) := gd_cX1_digestOfCells_03_102 (54, .lload_n 3, 1) (List.mem_of_getElem? (i := 33) rfl)
theorem dX1_digestOfCells_55 : decode cX1_digestOfCells 55 = .ok (.aload_n 0, 1) := gd_cX1_digestOfCells_03_102 (55, .aload_n 0, 1) (List.mem_of_getElem? (i := 34) rfl)
theorem dX1_digestOfCells_56 : decode cX1_digestOfCells 56 = .ok (.getfield 9, 3) := gd_cX1_digestOfCells_03_102 (56, .getfield 9, 3) (List.mem_of_getElem? (i := 35) rfl)
theorem dX1_digestOfCells_59 : decode cX1_digestOfCells 59 = .ok (.iload 5, 2) := gd_cX1_digestOfCells_03_102 (59, .iload 5, 2) (List.mem_of_getElem? (i := 36) rfl)
theorem dX1_digestOfCells_61 : decode cX1_digestOfCells 61 = .ok (.iaload, 1) := gd_cX1_digestOfCells_03_102 (61, .iaload, 1) (List.mem_of_getElem? (i := 37) rfl)
theorem dX1_digestOfCells_62 : decode cX1_digestOfCells 62 = .ok (.i2l, 1) := gd_cX1_digestOfCells_03_102 (62, .i2l, 1) (List.mem_of_getElem? (i := 38) rfl)
theorem dX1_digestOfCells_63 : decode cX1_digestOfCells 63 = .ok (.invokestatic 117, 3) := gd_cX1_digestOfCells_03_102 (63, .invokestatic 117, 3) (List.mem_of_getElem? (i := 39) rfl)
theorem dX1_digestOfCells_66 : decode cX1_digestOfCells 66 = .ok (.i2l, 1) := gd_cX1_digestOfCells_03_102 (66, .i2l, 1) (List.mem_of_getElem? (i := 40) rfl)
theorem dX1_digestOfCells_67 : decode cX1_digestOfCells 67 = .ok (.invokestatic 224, 3) := gd_cX1_digestOfCells_03_102 (67, .invokestatic 224, 3) (List.mem_of_getElem? (i := 41) rfl)
theorem dX1_digestOfCells_70 : decode cX1_digestOfCells 70 = .ok (.lstore_n 3, 1) := gd_cX1_digestOfCells_03_102 (70, .lstore_n 3, 1) (List.mem_of_getElem? (i := 42) rfl)
theorem dX1_digestOfCells_71 : decode cX1_digestOfCells 71 = .ok (.iinc 5 1, 3) := gd_cX1_digestOfCells_03_102 (71, .iinc 5 1, 3) (List.mem_of_getElem? (i := 43) rfl)
theorem dX1_digestOfCells_74 : decode cX1_digestOfCells 74 = .ok (.goto (-69), 3) := gd_cX1_digestOfCells_03_102 (74, .goto (-69), 3) (List.mem_of_getElem? (i := 44) rfl)
theorem dX1_digestOfCells_77 : decode cX1_digestOfCells 77 = .ok (.iconst 0, 1) := gd_cX1_digestOfCells_03_102 (77, .iconst 0, 1) (List.mem_of_getElem? (i := 45) rfl)
theorem dX1_digestOfCells_78 : decode cX1_digestOfCells 78 = .ok (.istore 5, 2) := gd_cX1_digestOfCells_03_102 (78, .istore 5, 2) (List.mem_of_getElem? (i := 46) rfl)
theorem dX1_digestOfCells_80 : decode cX1_digestOfCells 80 = .ok (.iload 5, 2) := gd_cX1_digestOfCells_03_102 (80, .iload 5, 2) (List.mem_of_getElem? (i := 47) rfl)
theorem dX1_digestOfCells_82 : decode cX1_digestOfCells 82 = .ok (.iconst 4, 1) := gd_cX1_digestOfCells_03_102 (82, .iconst 4, 1) (List.mem_of_getElem? (i := 48) rfl)
theorem dX1_digestOfCells_83 : decode cX1_digestOfCells 83 = .ok (.if_icmp .ge 62, 3) := gd_cX1_digestOfCells_03_102 (83, .if_icmp .ge 62, 3) (List.mem_of_getElem? (i := 49) rfl)
theorem dX1_digestOfCells_86 : decode cX1_digestOfCells 86 = .ok (.iload 5, 2) := gd_cX1_digestOfCells_03_102 (86, .iload 5, 2) (List.mem_of_getElem? (i := 50) rfl)
theorem dX1_digestOfCells_88 : decode cX1_digestOfCells 88 = .ok (.iconst 1, 1) := gd_cX1_digestOfCells_03_102 (88, .iconst 1, 1) (List.mem_of_getElem? (i := 51) rfl)
theorem dX1_digestOfCells_89 : decode cX1_digestOfCells 89 = .ok (.iadd, 1) := gd_cX1_digestOfCells_03_102 (89, .iadd, 1) (List.mem_of_getElem? (i := 52) rfl)
theorem dX1_digestOfCells_90 : decode cX1_digestOfCells 90 = .ok (.istore 6, 2) := gd_cX1_digestOfCells_03_102 (90, .istore 6, 2) (List.mem_of_getElem? (i := 53) rfl)
theorem dX1_digestOfCells_92 : decode cX1_digestOfCells 92 = .ok (.iload 6, 2) := gd_cX1_digestOfCells_03_102 (92, .iload 6, 2) (List.mem_of_getElem? (i := 54) rfl)
theorem dX1_digestOfCells_94 : decode cX1_digestOfCells 94 = .ok (.iconst 4, 1) := gd_cX1_digestOfCells_03_102 (94, .iconst 4, 1) (List.mem_of_getElem? (i := 55) rfl)
theorem dX1_digestOfCells_95 : decode cX1_digestOfCells 95 = .ok (.if_icmp .ge 44, 3) := gd_cX1_digestOfCells_03_102 (95, .if_icmp .ge 44, 3) (List.mem_of_getElem? (i := 56) rfl)
theorem dX1_digestOfCells_98 : decode cX1_digestOfCells 98 = .ok (.lload_n 3, 1) := gd_cX1_digestOfCells_03_102 (98, .lload_n 3, 1) (List.mem_of_getElem? (i := 57) rfl)
theorem dX1_digestOfCells_99 : decode cX1_digestOfCells 99 = .ok (.aload_n 0, 1) := gd_cX1_digestOfCells_03_102 (99, .aload_n 0, 1) (List.mem_of_getElem? (i := 58) rfl)
theorem dX1_digestOfCells_100 : decode cX1_digestOfCells 100 = .ok (.iload 5, 2) := gd_cX1_digestOfCells_03_102 (100, .iload 5, 2) (List.mem_of_getElem? (i := 59) rfl)
def gl_cX1_digestOfCells_03_103 : List (Nat × Instr × Nat) := [(102, .iload 6, 2), (104, .invokevirtual 107, 3), (107, .i2l, 1), (108, .invokestatic 224, 3), (111, .lstore_n 3, 1), (112, .lload_n 3, 1), (113, .aload_n 0, 1), (114, .iload 5, 2), (116, .iload 6, 2), (118, .invokevirtual 124, 3), (121, .ifCond .eq 7, 3), (124, .lconst 1, 1), (125, .goto 4, 3), (128, .lconst 0, 1), (129, .invokestatic 224, 3), (132, .lstore_n 3, 1), (133, .iinc 6 1, 3), (136, .goto (-44), 3), (139, .iinc 5 1, 3), (142, .goto (-62), 3), (145, .lload_n 3, 1), (146, .lreturn, 1)]
theorem gd_cX1_digestOfCells_03_103 : ∀ q ∈ gl_cX1_digestOfCells_03_103, decode cX1_digestOfCells q.1 = .ok q.2 := fdk_of 102 (by decide +kernel)
theorem dX1_digestOfCells_102 : decode cX1_digestOfCells 102 = .ok (.iload 6, 2) := gd_cX1_digestOfCells_03_103 (102, .iload 6, 2) (List.mem_of_getElem? (i := 0) rfl)
theorem dX1_digestOfCells_104 : decode cX1_digestOfCells 104 = .ok (.invokevirtual 107, 3) := gd_cX1_digestOfCells_03_103 (104, .invokevirtual 107, 3) (List.mem_of_getElem? (i := 1) rfl)
theorem dX1_digestOfCells_107 : decode cX1_digestOfCells 107 = .ok (.i2l, 1) := gd_cX1_digestOfCells_03_103 (107, .i2l, 1) (List.mem_of_getElem? (i := 2) rfl)
theorem dX1_digestOfCells_108 : decode cX1_digestOfCells 108 = .ok (.invokestatic 224, 3) := gd_cX1_digestOfCells_03_103 (108, .invokestatic 224, 3) (List.mem_of_getElem? (i := 3) rfl)
theorem dX1_digestOfCells_111 : decode cX1_digestOfCells 111 = .ok (.lstore_n 3, 1) := gd_cX1_digestOfCells_03_103 (111, .lstore_n 3, 1) (List.mem_of_getElem? (i := 4) rfl)
theorem dX1_digestOfCells_112 : decode cX1_digestOfCells 112 = .ok (.lload_n 3, 1) := gd_cX1_digestOfCells_03_103 (112, .lload_n 3, 1) (List.mem_of_getElem? (i := 5) rfl)
theorem dX1_digestOfCells_113 : decode cX1_digestOfCells 113 = .ok (.aload_n 0, 1) := gd_cX1_digestOfCells_03_103 (113, .aload_n 0, 1) (List.mem_of_getElem? (i := 6) rfl)
theorem dX1_digestOfCells_114 : decode cX1_digestOfCells 114 = .ok (.iload 5, 2) := gd_cX1_digestOfCells_03_103 (114, .iload 5, 2) (List.mem_of_getElem? (i := 7) rfl)
theorem dX1_digestOfCells_116 : decode cX1_digestOfCells 116 = .ok (.iload 6, 2) := gd_cX1_digestOfCells_03_103 (116, .iload 6, 2) (List.mem_of_getElem? (i := 8) rfl)
theorem dX1_digestOfCells_118 : decode cX1_digestOfCells 118 = .ok (.invokevirtual 124, 3) := gd_cX1_digestOfCells_03_103 (118, .invokevirtual 124, 3) (List.mem_of_getElem? (i := 9) rfl)
theorem dX1_digestOfCells_121 : decode cX1_digestOfCells 121 = .ok (.ifCond .eq 7, 3) := gd_cX1_digestOfCells_03_103 (121, .ifCond .eq 7, 3) (List.mem_of_getElem? (i := 10) rfl)
theorem dX1_digestOfCells_124 : decode cX1_digestOfCells 124 = .ok (.lconst 1, 1) := gd_cX1_digestOfCells_03_103 (124, .lconst 1, 1) (List.mem_of_getElem? (i := 11) rfl)
theorem dX1_digestOfCells_125 : decode cX1_digestOfCells 125 = .ok (.goto 4, 3) := gd_cX1_digestOfCells_03_103 (125, .goto 4, 3) (List.mem_of_getElem? (i := 12) rfl)
theorem dX1_digestOfCells_128 : decode cX1_digestOfCells 128 = .ok (.lconst 0, 1) := gd_cX1_digestOfCells_03_103 (128, .lconst 0, 1) (List.mem_of_getElem? (i := 13) rfl)
theorem dX1_digestOfCells_129 : decode cX1_digestOfCells 129 = .ok (.invokestatic 224, 3) := gd_cX1_digestOfCells_03_103 (129, .invokestatic 224, 3) (List.mem_of_getElem? (i := 14) rfl)
theorem dX1_digestOfCells_132 : decode cX1_digestOfCells 132 = .ok (.lstore_n 3, 1) := gd_cX1_digestOfCells_03_103 (132, .lstore_n 3, 1) (List.mem_of_getElem? (i := 15) rfl)
theorem dX1_digestOfCells_133 : decode cX1_digestOfCells 133 = .ok (.iinc 6 1, 3) := gd_cX1_digestOfCells_03_103 (133, .iinc 6 1, 3) (List.mem_of_getElem? (i := 16) rfl)
theorem dX1_digestOfCells_136 : decode cX1_digestOfCells 136 = .ok (.goto (-44), 3) := gd_cX1_digestOfCells_03_103 (136, .goto (-44), 3) (List.mem_of_getElem? (i := 17) rfl)
theorem dX1_digestOfCells_139 : decode cX1_digestOfCells 139 = .ok (.iinc 5 1, 3) := gd_cX1_digestOfCells_03_103 (139, .iinc 5 1, 3) (List.mem_of_getElem? (i := 18) rfl)
theorem dX1_digestOfCells_142 : decode cX1_digestOfCells 142 = .ok (.goto (-62), 3) := gd_cX1_digestOfCells_03_103 (142, .goto (-62), 3) (List.mem_of_getElem? (i := 19) rfl)
theorem dX1_digestOfCells_145 : decode cX1_digestOfCells 145 = .ok (.lload_n 3, 1) := gd_cX1_digestOfCells_03_103 (145, .lload_n 3, 1) (List.mem_of_getElem? (i := 20) rfl)
theorem dX1_digestOfCells_146 : decode cX1_digestOfCells 146 = .ok (.lreturn, 1) := gd_cX1_digestOfCells_03_103 (146, .lreturn, 1) (List.mem_of_getElem? (i := 21) rfl)
def gl_cX1_digestOfWheels_03_104 : List (Nat × Instr × Nat) := [(0, .lload_n 1, 1), (1, .lstore_n 3, 1), (2, .iconst 0, 1), (3, .istore 5, 2), (5, .iload 5, 2), (7, .iconst 3, 1), (8, .if_icmp .ge 17, 3), (11, .aload_n 0, 1), (12, .iload 5, 2), (14, .lload_n 3, 1), (15, .invokevirtual 292, 3), (18, .lstore_n 3, 1), (19, .iinc 5 1, 3), (22, .goto (-17), 3), (25, .iconst 0, 1), (26, .istore 5, 2), (28, .iload 5, 2), (30, .iconst 3, 1), (31, .if_icmp .ge 41, 3), (34, .iload 5, 2), (36, .iconst 1, 1), (37, .iadd, 1), (38, .istore 6, 2), (40, .iload 6, 2), (42, .iconst 3, 1), (43, .if_icmp .ge 23, 3), (46, .lload_n 3, 1), (47, .aload_n 0, 1), (48, .iload 5, 2), (50, .iload 6, 2), (52, .invokevirtual 192, 3), (55, .i2l, 1), (56, .invokestatic 224, 3), (59, .lstore_n 3, 1), (60, .iinc 6 1, 3), (63, .goto (-23), 3), (66, .iinc 5 1, 3), (69, .goto (-41), 3), (72, .lload_n 3, 1), (73, .lreturn, 1)]
theorem gd_cX1_digestOfWheels_03_104 : ∀ q ∈ gl_cX1_digestOfWheels_03_104, decode cX1_digestOfWheels q.1 = .ok q.2 := fdk_of 0 (by decide +kernel)
theorem dX1_digestOfWheels_0 : decode cX1_digestOfWheels 0 = .ok (.lload_n 1, 1) := gd_cX1_digestOfWheels_03_104 (0, .lload_n 1, 1) (List.mem_of_getElem? (i := 0) rfl)
theorem dX1_digestOfWheels_1 : decode cX1_digestOfWheels 1 = .ok (.lstore_n 3, 1) := gd_cX1_digestOfWheels_03_104 (1, .lstore_n 3, 1) (List.mem_of_getElem? (i := 1) rfl)
theorem dX1_digestOfWheels_2 : decode cX1_digestOfWheels 2 = .ok (.iconst 0, 1) := gd_cX1_digestOfWheels_03_104 (2, .iconst 0, 1) (List.mem_of_getElem? (i := 2) rfl)
theorem dX1_digestOfWheels_3 : decode cX1_digestOfWheels 3 = .ok (.istore 5, 2) := gd_cX1_digestOfWheels_03_104 (3, .istore 5, 2) (List.mem_of_getElem? (i := 3) rfl)
theorem dX1_digestOfWheels_5 : decode cX1_digestOfWheels 5 = .ok (.iload 5, 2) := gd_cX1_digestOfWheels_03_104 (5, .iload 5, 2) (List.mem_of_getElem? (i := 4) rfl)
theorem dX1_digestOfWheels_7 : decode cX1_digestOfWheels 7 = .ok (.iconst 3, 1) := gd_cX1_digestOfWheels_03_104 (7, .iconst 3, 1) (List.mem_of_getElem? (i := 5) rfl)
theorem dX1_digestOfWheels_8 : decode cX1_digestOfWheels 8 = .ok (.if_icmp .ge 17, 3) := gd_cX1_digestOfWheels_03_104 (8, .if_icmp .ge 17, 3) (List.mem_of_getElem? (i := 6) rfl)
theorem dX1_digestOfWheels_11 : decode cX1_digestOfWheels 11 = .ok (.aload_n 0, 1) := gd_cX1_digestOfWheels_03_104 (11, .aload_n 0, 1) (List.mem_of_getElem? (i := 7) rfl)
theorem dX1_digestOfWheels_12 : decode cX1_digestOfWheels 12 = .ok (.iload 5, 2) := gd_cX1_digestOfWheels_03_104 (12, .iload 5, 2) (List.mem_of_getElem? (i := 8) rfl)
theorem dX1_digestOfWheels_14 : decode cX1_digestOfWheels 14 = .ok (.lload_n 3, 1) := gd_cX1_digestOfWheels_03_104 (14, .lload_n 3, 1) (List.mem_of_getElem? (i := 9) rfl)
theorem dX1_digestOfWheels_15 : decode cX1_digestOfWheels 15 = .ok (.invokevirtual 292, 3) := gd_cX1_digestOfWheels_03_104 (15, .invokevirtual 292, 3) (List.mem_of_getElem? (i := 10) rfl)
theorem dX1_digestOfWheels_18 : decode cX1_digestOfWheels 18 = .ok (.lstore_n 3, 1) := gd_cX1_digestOfWheels_03_104 (18, .lstore_n 3, 1) (List.mem_of_getElem? (i := 11) rfl)
theorem dX1_digestOfWheels_19 : decode cX1_digestOfWheels 19 = .ok (.iinc 5 1, 3) := gd_cX1_digestOfWheels_03_104 (19, .iinc 5 1, 3) (List.mem_of_getElem? (i := 12) rfl)
theorem dX1_digestOfWheels_22 : decode cX1_digestOfWheels 22 = .ok (.goto (-17), 3) := gd_cX1_digestOfWheels_03_104 (22, .goto (-17), 3) (List.mem_of_getElem? (i := 13) rfl)
theorem dX1_digestOfWheels_25 : decode cX1_digestOfWheels 25 = .ok (.iconst 0, 1) := gd_cX1_digestOfWheels_03_104 (25, .iconst 0, 1) (List.mem_of_getElem? (i := 14) rfl)
theorem dX1_digestOfWheels_26 : decode cX1_digestOfWheels 26 = .ok (.istore 5, 2) := gd_cX1_digestOfWheels_03_104 (26, .istore 5, 2) (List.mem_of_getElem? (i := 15) rfl)
theorem dX1_digestOfWheels_28 : decode cX1_digestOfWheels 28 = .ok (.iload 5, 2) := gd_cX1_digestOfWheels_03_104 (28, .iload 5, 2) (List.mem_of_getElem? (i := 16) rfl)
theorem dX1_digestOfWheels_30 : decode cX1_digestOfWheels 30 = .ok (.iconst 3, 1) := gd_cX1_digestOfWheels_03_104 (30, .iconst 3, 1) (List.mem_of_getElem? (i := 17) rfl)
theorem dX1_digestOfWheels_31 : decode cX1_digestOfWheels 31 = .ok (.if_icmp .ge 41, 3) := gd_cX1_digestOfWheels_03_104 (31, .if_icmp .ge 41, 3) (List.mem_of_getElem? (i := 18) rfl)
theorem dX1_digestOfWheels_34 : decode cX1_digestOfWheels 34 = .ok (.iload 5, 2) := gd_cX1_digestOfWheels_03_104 (34, .iload 5, 2) (List.mem_of_getElem? (i := 19) rfl)
theorem dX1_digestOfWheels_36 : decode cX1_digestOfWheels 36 = .ok (.iconst 1, 1) := gd_cX1_digestOfWheels_03_104 (36, .iconst 1, 1) (List.mem_of_getElem? (i := 20) rfl)
theorem dX1_digestOfWheels_37 : decode cX1_digestOfWheels 37 = .ok (.iadd, 1) := gd_cX1_digestOfWheels_03_104 (37, .iadd, 1) (List.mem_of_getElem? (i := 21) rfl)
theorem dX1_digestOfWheels_38 : decode cX1_digestOfWheels 38 = .ok (.istore 6, 2) := gd_cX1_digestOfWheels_03_104 (38, .istore 6, 2) (List.mem_of_getElem? (i := 22) rfl)
theorem dX1_digestOfWheels_40 : decode cX1_digestOfWheels 40 = .ok (.iload 6, 2) := gd_cX1_digestOfWheels_03_104 (40, .iload 6, 2) (List.mem_of_getElem? (i := 23) rfl)
theorem dX1_digestOfWheels_42 : decode cX1_digestOfWheels 42 = .ok (.iconst 3, 1) := gd_cX1_digestOfWheels_03_104 (42, .iconst 3, 1) (List.mem_of_getElem? (i := 24) rfl)
theorem dX1_digestOfWheels_43 : decode cX1_digestOfWheels 43 = .ok (.if_icmp .ge 23, 3) := gd_cX1_digestOfWheels_03_104 (43, .if_icmp .ge 23, 3) (List.mem_of_getElem? (i := 25) rfl)
theorem dX1_digestOfWheels_46 : decode cX1_digestOfWheels 46 = .ok (.lload_n 3, 1) := gd_cX1_digestOfWheels_03_104 (46, .lload_n 3, 1) (List.mem_of_getElem? (i := 26) rfl)
theorem dX1_digestOfWheels_47 : decode cX1_digestOfWheels 47 = .ok (.aload_n 0, 1) := gd_cX1_digestOfWheels_03_104 (47, .aload_n 0, 1) (List.mem_of_getElem? (i := 27) rfl)
theorem dX1_digestOfWheels_48 : decode cX1_digestOfWheels 48 = .ok (.iload 5, 2) := gd_cX1_digestOfWheels_03_104 (48, .iload 5, 2) (List.mem_of_getElem? (i := 28) rfl)
theorem dX1_digestOfWheels_50 : decode cX1_digestOfWheels 50 = .ok (.iload 6, 2) := gd_cX1_digestOfWheels_03_104 (50, .iload 6, 2) (List.mem_of_getElem? (i := 29) rfl)
theorem dX1_digestOfWheels_52 : decode cX1_digestOfWheels 52 = .ok (.invokevirtual 192, 3) := gd_cX1_digestOfWheels_03_104 (52, .invokevirtual 192, 3) (List.mem_of_getElem? (i := 30) rfl)
theorem dX1_digestOfWheels_55 : decode cX1_digestOfWheels 55 = .ok (.i2l, 1) := gd_cX1_digestOfWheels_03_104 (55, .i2l, 1) (List.mem_of_getElem? (i := 31) rfl)
theorem dX1_digestOfWheels_56 : decode cX1_digestOfWheels 56 = .ok (.invokestatic 224, 3) := gd_cX1_digestOfWheels_03_104 (56, .invokestatic 224, 3) (List.mem_of_getElem? (i := 32) rfl)
theorem dX1_digestOfWheels_59 : decode cX1_digestOfWheels 59 = .ok (.lstore_n 3, 1) := gd_cX1_digestOfWheels_03_104 (59, .lstore_n 3, 1) (List.mem_of_getElem? (i := 33) rfl)
theorem dX1_digestOfWheels_60 : decode cX1_digestOfWheels 60 = .ok (.iinc 6 1, 3) := gd_cX1_digestOfWheels_03_104 (60, .iinc 6 1, 3) (List.mem_of_getElem? (i := 34) rfl)
theorem dX1_digestOfWheels_63 : decode cX1_digestOfWheels 63 = .ok (.goto (-23), 3) := gd_cX1_digestOfWheels_03_104 (63, .goto (-23), 3) (List.mem_of_getElem? (i := 35) rfl)
theorem dX1_digestOfWheels_66 : decode cX1_digestOfWheels 66 = .ok (.iinc 5 1, 3) := gd_cX1_digestOfWheels_03_104 (66, .iinc 5 1, 3) (List.mem_of_getElem? (i := 36) rfl)
theorem dX1_digestOfWheels_69 : decode cX1_digestOfWheels 69 = .ok (.goto (-41), 3) := gd_cX1_digestOfWheels_03_104 (69, .goto (-41), 3) (List.mem_of_getElem? (i := 37) rfl)
theorem dX1_digestOfWheels_72 : decode cX1_digestOfWheels 72 = .ok (.lload_n 3, 1) := gd_cX1_digestOfWheels_03_104 (72, .lload_n 3, 1) (List.mem_of_getElem? (i := 38) rfl)
theorem dX1_digestOfWheels_73 : decode cX1_digestOfWheels 73 = .ok (.lreturn, 1) := gd_cX1_digestOfWheels_03_104 (73, .lreturn, 1) (List.mem_of_getElem? (i := 39) rfl)
def gl_cX1_digestOfWheel_03_105 : List (Nat × Instr × Nat) := [(0, .lload_n 2, 1), (1, .lstore 4, 2), (3, .iconst 0, 1), (4, .istore 6, 2), (6, .iload 6, 2), (8, .iconst 4, 1), (9, .if_icmp .gt 24, 3), (12, .lload 4, 2), (14, .aload_n 0, 1), (15, .iload_n 1, 1), (16, .iload 6, 2), (18, .invokevirtual 152, 3), (21, .i2l, 1), (22, .invokestatic 224, 3), (25, .lstore 4, 2), (27, .iinc 6 1, 3), (30, .goto (-24), 3), (33, .lload 4, 2), (35, .aload_n 0, 1), (36, .iload_n 1, 1), (37, .iconst 2, 1), (38, .invokevirtual 186, 3), (41, .i2l, 1), (42, .invokestatic 224, 3), (45, .lstore 4, 2), (47, .lload 4, 2), (49, .aload_n 0, 1), (50, .iload_n 1, 1), (51, .iconst 3, 1), (52, .invokevirtual 186, 3), (55, .i2l, 1), (56, .invokestatic 224, 3), (59, .lstore 4, 2), (61, .iconst 0, 1), (62, .istore 6, 2), (64, .iload 6, 2), (66, .iconst 4, 1), (67, .if_icmp .ge 24, 3), (70, .lload 4, 2), (72, .aload_n 0, 1), (73, .iload_n 1, 1), (74, .iload 6, 2), (76, .invokevirtual 195, 3), (79, .i2l, 1), (80, .invokestatic 224, 3), (83, .lstore 4, 2), (85, .iinc 6 1, 3), (88, .goto (-24), 3), (91, .lload 4, 2), (93, .lreturn, 1)]
theorem gd_cX1_digestOfWheel_03_105 : ∀ q ∈ gl_cX1_digestOfWheel_03_105, decode cX1_digestOfWheel q.1 = .ok q.2 := fdk_of 0 (by decide +kernel)
theorem dX1_digestOfWheel_0 : decode cX1_digestOfWheel 0 = .ok (.lload_n 2, 1) := gd_cX1_digestOfWheel_03_105 (0, .lload_n 2, 1) (List.mem_of_getElem? (i := 0) rfl)
theorem dX1_digestOfWheel_1 : decode cX1_digestOfWheel 1 = .ok (.lstore 4, 2) := gd_cX1_digestOfWheel_03_105 (1, .lstore 4, 2) (List.mem_of_getElem? (i := 1) rfl)
theorem dX1_digestOfWheel_3 : decode cX1_digestOfWheel 3 = .ok (.iconst 0, 1) := gd_cX1_digestOfWheel_03_105 (3, .iconst 0, 1) (List.mem_of_getElem? (i := 2) rfl)
theorem dX1_digestOfWheel_4 : decode cX1_digestOfWheel 4 = .ok (.istore 6, 2) := gd_cX1_digestOfWheel_03_105 (4, .istore 6, 2) (List.mem_of_getElem? (i := 3) rfl)
theorem dX1_digestOfWheel_6 : decode cX1_digestOfWheel 6 = .ok (.iload 6, 2) := gd_cX1_digestOfWheel_03_105 (6, .iload 6, 2) (List.mem_of_getElem? (i := 4) rfl)
theorem dX1_digestOfWheel_8 : decode cX1_digestOfWheel 8 = .ok (.iconst 4, 1) := gd_cX1_digestOfWheel_03_105 (8, .iconst 4, 1) (List.mem_of_getElem? (i := 5) rfl)
theorem dX1_digestOfWheel_9 : decode cX1_digestOfWheel 9 = .ok (.if_icmp .gt 24, 3) := gd_cX1_digestOfWheel_03_105 (9, .if_icmp .gt 24, 3) (List.mem_of_getElem? (i := 6) rfl)
theorem dX1_digestOfWheel_12 : decode cX1_digestOfWheel 12 = .ok (.lload 4, 2) := gd_cX1_digestOfWheel_03_105 (12, .lload 4, 2) (List.mem_of_getElem? (i := 7) rfl)
theorem dX1_digestOfWheel_14 : decode cX1_digestOfWheel 14 = .ok (.aload_n 0, 1) := gd_cX1_digestOfWheel_03_105 (14, .aload_n 0, 1) (List.mem_of_getElem? (i := 8) rfl)
theorem dX1_digestOfWheel_15 : decode cX1_digestOfWheel 15 = .ok (.iload_n 1, 1) := gd_cX1_digestOfWheel_03_105 (15, .iload_n 1, 1) (List.mem_of_getElem? (i := 9) rfl)
theorem dX1_digestOfWheel_16 : decode cX1_digestOfWheel 16 = .ok (.iload 6, 2) := gd_cX1_digestOfWheel_03_105 (16, .iload 6, 2) (List.mem_of_getElem? (i := 10) rfl)
theorem dX1_digestOfWheel_18 : decode cX1_digestOfWheel 18 = .ok (.invokevirtual 152, 3) := gd_cX1_digestOfWheel_03_105 (18, .invokevirtual 152, 3) (List.mem_of_getElem? (i := 11) rfl)
theorem dX1_digestOfWheel_21 : decode cX1_digestOfWheel 21 = .ok (.i2l, 1) := gd_cX1_digestOfWheel_03_105 (21, .i2l, 1) (List.mem_of_getElem? (i := 12) rfl)
theorem dX1_digestOfWheel_22 : decode cX1_digestOfWheel 22 = .ok (.invokestatic 224, 3) := gd_cX1_digestOfWheel_03_105 (22, .invokestatic 224, 3) (List.mem_of_getElem? (i := 13) rfl)
theorem dX1_digestOfWheel_25 : decode cX1_digestOfWheel 25 = .ok (.lstore 4, 2) := gd_cX1_digestOfWheel_03_105 (25, .lstore 4, 2) (List.mem_of_getElem? (i := 14) rfl)
theorem dX1_digestOfWheel_27 : decode cX1_digestOfWheel 27 = .ok (.iinc 6 1, 3) := gd_cX1_digestOfWheel_03_105 (27, .iinc 6 1, 3) (List.mem_of_getElem? (i := 15) rfl)
theorem dX1_digestOfWheel_30 : decode cX1_digestOfWheel 30 = .ok (.goto (-24), 3) := gd_cX1_digestOfWheel_03_105 (30, .goto (-24), 3) (List.mem_of_getElem? (i := 16) rfl)
theorem dX1_digestOfWheel_33 : decode cX1_digestOfWheel 33 = .ok (.lload 4, 2) := gd_cX1_digestOfWheel_03_105 (33, .lload 4, 2) (List.mem_of_getElem? (i := 17) rfl)
theorem dX1_digestOfWheel_35 : decode cX1_digestOfWheel 35 = .ok (.aload_n 0, 1) := gd_cX1_digestOfWheel_03_105 (35, .aload_n 0, 1) (List.mem_of_getElem? (i := 18) rfl)
theorem dX1_digestOfWheel_36 : decode cX1_digestOfWheel 36 = .ok (.iload_n 1, 1) := gd_cX1_digestOfWheel_03_105 (36, .iload_n 1, 1) (List.mem_of_getElem? (i := 19) rfl)
theorem dX1_digestOfWheel_37 : decode cX1_digestOfWheel 37 = .ok (.iconst 2, 1) := gd_cX1_digestOfWheel_03_105 (37, .iconst 2, 1) (List.mem_of_getElem? (i := 20) rfl)
theorem dX1_digestOfWheel_38 : decode cX1_digestOfWheel 38 = .ok (.invokevirtual 186, 3) := gd_cX1_digestOfWheel_03_105 (38, .invokevirtual 186, 3) (List.mem_of_getElem? (i := 21) rfl)
theorem dX1_digestOfWheel_41 : decode cX1_digestOfWheel 41 = .ok (.i2l, 1) := gd_cX1_digestOfWheel_03_105 (41, .i2l, 1) (List.mem_of_getElem? (i := 22) rfl)
theorem dX1_digestOfWheel_42 : decode cX1_digestOfWheel 42 = .ok (.invokestatic 224, 3) := gd_cX1_digestOfWheel_03_105 (42, .invokestatic 224, 3) (List.mem_of_getElem? (i := 23) rfl)
theorem dX1_digestOfWheel_45 : decode cX1_digestOfWheel 45 = .ok (.lstore 4, 2) := gd_cX1_digestOfWheel_03_105 (45, .lstore 4, 2) (List.mem_of_getElem? (i := 24) rfl)
theorem dX1_digestOfWheel_47 : decode cX1_digestOfWheel 47 = .ok (.lload 4, 2) := gd_cX1_digestOfWheel_03_105 (47, .lload 4, 2) (List.mem_of_getElem? (i := 25) rfl)
theorem dX1_digestOfWheel_49 : decode cX1_digestOfWheel 49 = .ok (.aload_n 0, 1) := gd_cX1_digestOfWheel_03_105 (49, .aload_n 0, 1) (List.mem_of_getElem? (i := 26) rfl)
theorem dX1_digestOfWheel_50 : decode cX1_digestOfWheel 50 = .ok (.iload_n 1, 1) := gd_cX1_digestOfWheel_03_105 (50, .iload_n 1, 1) (List.mem_of_getElem? (i := 27) rfl)
theorem dX1_digestOfWheel_51 : decode cX1_digestOfWheel 51 = .ok (.iconst 3, 1) := gd_cX1_digestOfWheel_03_105 (51, .iconst 3, 1) (List.mem_of_getElem? (i := 28) rfl)
theorem dX1_digestOfWheel_52 : decode cX1_digestOfWheel 52 = .ok (.invokevirtual 186, 3) := gd_cX1_digestOfWheel_03_105 (52, .invokevirtual 186, 3) (List.mem_of_getElem? (i := 29) rfl)
theorem dX1_digestOfWheel_55 : decode cX1_digestOfWheel 55 = .ok (.i2l, 1) := gd_cX1_digestOfWheel_03_105 (55, .i2l, 1) (List.mem_of_getElem? (i := 30) rfl)
theorem dX1_digestOfWheel_56 : decode cX1_digestOfWheel 56 = .ok (.invokestatic 224, 3) := gd_cX1_digestOfWheel_03_105 (56, .invokestatic 224, 3) (List.mem_of_getElem? (i := 31) rfl)
theorem dX1_digestOfWheel_59 : decode cX1_digestOfWheel 59 = .ok (.lstore 4, 2) := gd_cX1_digestOfWheel_03_105 (59, .lstore 4, 2) (List.mem_of_getElem? (i := 32) rfl)
theorem dX1_digestOfWheel_61 : decode cX1_digestOfWheel 61 = .ok (.iconst 0, 1) := gd_cX1_digestOfWheel_03_105 (61, .iconst 0, 1) (List.mem_of_getElem? (i := 33) rfl)
theorem dX1_digestOfWheel_62 : decode cX1_digestOfWheel 62 = .ok (.istore 6, 2) := gd_cX1_digestOfWheel_03_105 (62, .istore 6, 2) (List.mem_of_getElem? (i := 34) rfl)
theorem dX1_digestOfWheel_64 : decode cX1_digestOfWheel 64 = .ok (.iload 6, 2) := gd_cX1_digestOfWheel_03_105 (64, .iload 6, 2) (List.mem_of_getElem? (i := 35) rfl)
theorem dX1_digestOfWheel_66 : decode cX1_digestOfWheel 66 = .ok (.iconst 4, 1) := gd_cX1_digestOfWheel_03_105 (66, .iconst 4, 1) (List.mem_of_getElem? (i := 36) rfl)
theorem dX1_digestOfWheel_67 : decode cX1_digestOfWheel 67 = .ok (.if_icmp .ge 24, 3) := gd_cX1_digestOfWheel_03_105 (67, .if_icmp .ge 24, 3) (List.mem_of_getElem? (i := 37) rfl)
theorem dX1_digestOfWheel_70 : decode cX1_digestOfWheel 70 = .ok (.lload 4, 2) := gd_cX1_digestOfWheel_03_105 (70, .lload 4, 2) (List.mem_of_getElem? (i := 38) rfl)
theorem dX1_digestOfWheel_72 : decode cX1_digestOfWheel 72 = .ok (.aload_n 0, 1) := gd_cX1_digestOfWheel_03_105 (72, .aload_n 0, 1) (List.mem_of_getElem? (i := 39) rfl)
theorem dX1_digestOfWheel_73 : decode cX1_digestOfWheel 73 = .ok (.iload_n 1, 1) := gd_cX1_digestOfWheel_03_105 (73, .iload_n 1, 1) (List.mem_of_getElem? (i := 40) rfl)
theorem dX1_digestOfWheel_74 : decode cX1_digestOfWheel 74 = .ok (.iload 6, 2) := gd_cX1_digestOfWheel_03_105 (74, .iload 6, 2) (List.mem_of_getElem? (i := 41) rfl)
theorem dX1_digestOfWheel_76 : decode cX1_digestOfWheel 76 = .ok (.invokevirtual 195, 3) := gd_cX1_digestOfWheel_03_105 (76, .invokevirtual 195, 3) (List.mem_of_getElem? (i := 42) rfl)
theorem dX1_digestOfWheel_79 : decode cX1_digestOfWheel 79 = .ok (.i2l, 1) := gd_cX1_digestOfWheel_03_105 (79, .i2l, 1) (List.mem_of_getElem? (i := 43) rfl)
theorem dX1_digestOfWheel_80 : decode cX1_digestOfWheel 80 = .ok (.invokestatic 224, 3) := gd_cX1_digestOfWheel_03_105 (80, .invokestatic 224, 3) (List.mem_of_getElem? (i := 44) rfl)
theorem dX1_digestOfWheel_83 : decode cX1_digestOfWheel 83 = .ok (.lstore 4, 2) := gd_cX1_digestOfWheel_03_105 (83, .lstore 4, 2) (List.mem_of_getElem? (i := 45) rfl)
theorem dX1_digestOfWheel_85 : decode cX1_digestOfWheel 85 = .ok (.iinc 6 1, 3) := gd_cX1_digestOfWheel_03_105 (85, .iinc 6 1, 3) (List.mem_of_getElem? (i := 46) rfl)
theorem dX1_digestOfWheel_88 : decode cX1_digestOfWheel 88 = .ok (.goto (-24), 3) := gd_cX1_digestOfWheel_03_105 (88, .goto (-24), 3) (List.mem_of_getElem? (i := 47) rfl)
theorem dX1_digestOfWheel_91 : decode cX1_digestOfWheel 91 = .ok (.lload 4, 2) := gd_cX1_digestOfWheel_03_105 (91, .lload 4, 2) (List.mem_of_getElem? (i := 48) rfl)
theorem dX1_digestOfWheel_93 : decode cX1_digestOfWheel 93 = .ok (.lreturn, 1) := gd_cX1_digestOfWheel_03_105 (93, .lreturn, 1) (List.mem_of_getElem? (i := 49) rfl)
def gl_cX2_init_03_106 : List (Nat × Instr × Nat) := [(0, .aload_n 0, 1), (1, .invokespecial 1, 3), (4, .return_, 1)]
theorem gd_cX2_init_03_106 : ∀ q ∈ gl_cX2_init_03_106, decode cX2_init q.1 = .ok q.2 := fdk_of 0 (by decide +kernel)
theorem dX2_init_0 : decode cX2_init 0 = .ok (.aload_n 0, 1) := gd_cX2_init_03_106 (0, .aload_n 0, 1) (List.mem_of_getElem? (i := 0) rfl)
theorem dX2_init_1 : decode cX2_init 1 = .ok (.invokespecial 1, 3) := gd_cX2_init_03_106 (1, .invokespecial 1, 3) (List.mem_of_getElem? (i := 1) rfl)
theorem dX2_init_4 : decode cX2_init 4 = .ok (.return_, 1) := gd_cX2_init_03_106 (4, .return_, 1) (List.mem_of_getElem? (i := 2) rfl)
