/-! names: the classes, their fields in the order of the slots, the methods and their bytes -/
def R_FW : String := "FloatWriter"
def F_FW : u_T := fun k => match k with
  | 0 => ("FloatWriter", "sheet", "LFloatWriter$Sheet;", true)
  | 1 => ("FloatWriter", "exact", "LFloatWriter$Exact;", true)
  | _ => ("FloatWriter", "shortest", "LFloatWriter$Shortest;", true)
def t_FW : Nat → FieldType := fun k => match k with
  | 0 => .object "FloatWriter$Sheet"
  | 1 => .object "FloatWriter$Exact"
  | _ => .object "FloatWriter$Shortest"
theorem n_FW : ∀ a, a < 3 → ∀ b, b < 3 → a ≠ b → (F_FW a).2.1 ≠ (F_FW b).2.1 := by decide +kernel
theorem t_FW_ok : ∀ k, k < 3 → parseFieldDescriptor (F_FW k).2.2.1 = some (t_FW k) := by decide +kernel
def R_Law : String := "FloatWriterLaw"
def R_Mo : String := "FloatWriterModel"
def F_Mo : u_T := fun k => match k with
  | 0 => ("FloatWriterModel", "thrown", "I", false)
  | 1 => ("FloatWriterModel", "unit", "[I", true)
  | 2 => ("FloatWriterModel", "limbs", "[I", true)
  | 3 => ("FloatWriterModel", "value", "[I", true)
  | 4 => ("FloatWriterModel", "low", "[I", true)
  | 5 => ("FloatWriterModel", "high", "[I", true)
  | 6 => ("FloatWriterModel", "rounded", "[I", true)
  | 7 => ("FloatWriterModel", "paper", "[I", true)
  | 8 => ("FloatWriterModel", "length", "I", false)
  | 9 => ("FloatWriterModel", "negative", "Z", false)
  | 10 => ("FloatWriterModel", "exponent", "I", false)
  | 11 => ("FloatWriterModel", "fraction", "J", false)
  | 12 => ("FloatWriterModel", "fractionBits", "I", false)
  | 13 => ("FloatWriterModel", "most", "I", false)
  | 14 => ("FloatWriterModel", "size", "J", false)
  | 15 => ("FloatWriterModel", "twos", "I", false)
  | 16 => ("FloatWriterModel", "shortest", "J", false)
  | _ => ("FloatWriterModel", "lastPlace", "I", false)
def t_Mo : Nat → FieldType := fun k => match k with
  | 0 => .int
  | 1 => .array .int
  | 2 => .array .int
  | 3 => .array .int
  | 4 => .array .int
  | 5 => .array .int
  | 6 => .array .int
  | 7 => .array .int
  | 8 => .int
  | 9 => .boolean
  | 10 => .int
  | 11 => .long
  | 12 => .int
  | 13 => .int
  | 14 => .long
  | 15 => .int
  | 16 => .long
  | _ => .int
theorem n_Mo : ∀ a, a < 18 → ∀ b, b < 18 → a ≠ b → (F_Mo a).2.1 ≠ (F_Mo b).2.1 := by decide +kernel
theorem t_Mo_ok : ∀ k, k < 18 → parseFieldDescriptor (F_Mo k).2.2.1 = some (t_Mo k) := by decide +kernel
def R_Big : String := "FloatWriter$Big"
def F_Big : u_T := fun k => match k with
  | 0 => ("FloatWriter$Big", "limbs", "[J", true)
  | _ => ("FloatWriter$Big", "count", "I", false)
def t_Big : Nat → FieldType := fun k => match k with
  | 0 => .array .long
  | _ => .int
theorem n_Big : ∀ a, a < 2 → ∀ b, b < 2 → a ≠ b → (F_Big a).2.1 ≠ (F_Big b).2.1 := by decide +kernel
theorem t_Big_ok : ∀ k, k < 2 → parseFieldDescriptor (F_Big k).2.2.1 = some (t_Big k) := by decide +kernel
def R_Exact : String := "FloatWriter$Exact"
def F_Exact : u_T := fun k => match k with
  | 0 => ("FloatWriter$Exact", "quarter", "LFloatWriter$Big;", true)
  | 1 => ("FloatWriter$Exact", "size", "LFloatWriter$Big;", true)
  | _ => ("FloatWriter$Exact", "scale", "I", false)
def t_Exact : Nat → FieldType := fun k => match k with
  | 0 => .object "FloatWriter$Big"
  | 1 => .object "FloatWriter$Big"
  | _ => .int
theorem n_Exact : ∀ a, a < 3 → ∀ b, b < 3 → a ≠ b → (F_Exact a).2.1 ≠ (F_Exact b).2.1 := by decide +kernel
theorem t_Exact_ok : ∀ k, k < 3 → parseFieldDescriptor (F_Exact k).2.2.1 = some (t_Exact k) := by decide +kernel
def R_Sheet : String := "FloatWriter$Sheet"
def F_Sheet : u_T := fun k => match k with
  | 0 => ("FloatWriter$Sheet", "bytes", "[B", true)
  | _ => ("FloatWriter$Sheet", "length", "I", false)
def t_Sheet : Nat → FieldType := fun k => match k with
  | 0 => .array .byte
  | _ => .int
theorem n_Sheet : ∀ a, a < 2 → ∀ b, b < 2 → a ≠ b → (F_Sheet a).2.1 ≠ (F_Sheet b).2.1 := by decide +kernel
theorem t_Sheet_ok : ∀ k, k < 2 → parseFieldDescriptor (F_Sheet k).2.2.1 = some (t_Sheet k) := by decide +kernel
def R_Short : String := "FloatWriter$Shortest"
def F_Short : u_T := fun k => match k with
  | 0 => ("FloatWriter$Shortest", "exact", "LFloatWriter$Exact;", true)
  | 1 => ("FloatWriter$Shortest", "bound", "LFloatWriter$Big;", true)
  | 2 => ("FloatWriter$Shortest", "size", "J", false)
  | 3 => ("FloatWriter$Shortest", "sizeIsCut", "Z", false)
  | 4 => ("FloatWriter$Shortest", "low", "J", false)
  | 5 => ("FloatWriter$Shortest", "lowIsCut", "Z", false)
  | 6 => ("FloatWriter$Shortest", "high", "J", false)
  | 7 => ("FloatWriter$Shortest", "highIsCut", "Z", false)
  | 8 => ("FloatWriter$Shortest", "boundsCount", "Z", false)
  | 9 => ("FloatWriter$Shortest", "coefficient", "J", false)
  | _ => ("FloatWriter$Shortest", "tens", "I", false)
def t_Short : Nat → FieldType := fun k => match k with
  | 0 => .object "FloatWriter$Exact"
  | 1 => .object "FloatWriter$Big"
  | 2 => .long
  | 3 => .boolean
  | 4 => .long
  | 5 => .boolean
  | 6 => .long
  | 7 => .boolean
  | 8 => .boolean
  | 9 => .long
  | _ => .int
theorem n_Short : ∀ a, a < 11 → ∀ b, b < 11 → a ≠ b → (F_Short a).2.1 ≠ (F_Short b).2.1 := by decide +kernel
theorem t_Short_ok : ∀ k, k < 11 → parseFieldDescriptor (F_Short k).2.2.1 = some (t_Short k) := by decide +kernel
def R_Str : String := "java/lang/String"
def R_Lat : String := "java/lang/StringLatin1"
def R_Pre : String := "jdk/internal/util/Preconditions"
abbrev classes : List vw_C := [(R_FW, F_FW, 3), (R_Sheet, F_Sheet, 2), (R_Big, F_Big, 2), (R_Exact, F_Exact, 3), (R_Short, F_Short, 11), (R_Mo, F_Mo, 18)]
abbrev b_FW_init : ByteArray := prog_1_method_1_code
def y_FW_init : MethodName := ⟨R_FW, "<init>", "()V"⟩
abbrev b_FW_print : ByteArray := prog_1_method_2_code
def y_FW_print : MethodName := ⟨R_FW, "print", "(JZ)I"⟩
abbrev b_FW_hexadecimal : ByteArray := prog_1_method_3_code
def y_FW_hexadecimal : MethodName := ⟨R_FW, "hexadecimal", "(JZ)I"⟩
abbrev b_FW_fixed : ByteArray := prog_1_method_4_code
def y_FW_fixed : MethodName := ⟨R_FW, "fixed", "(JZII)I"⟩
abbrev b_FW_scientific : ByteArray := prog_1_method_5_code
def y_FW_scientific : MethodName := ⟨R_FW, "scientific", "(JZII)I"⟩
abbrev b_FW_paper : ByteArray := prog_1_method_6_code
def y_FW_paper : MethodName := ⟨R_FW, "paper", "()I"⟩
abbrev b_FW_paperAt : ByteArray := prog_1_method_7_code
def y_FW_paperAt : MethodName := ⟨R_FW, "paperAt", "(I)J"⟩
abbrev b_FW_digits : ByteArray := prog_1_method_8_code
def y_FW_digits : MethodName := ⟨R_FW, "digits", "(JZ)J"⟩
abbrev b_FW_power : ByteArray := prog_1_method_9_code
def y_FW_power : MethodName := ⟨R_FW, "power", "(JZ)I"⟩
abbrev b_FW_next : ByteArray := prog_1_method_10_code
def y_FW_next : MethodName := ⟨R_FW, "next", "(JZZ)J"⟩
abbrev b_FW_narrowed : ByteArray := prog_1_method_11_code
def y_FW_narrowed : MethodName := ⟨R_FW, "narrowed", "(J)J"⟩
abbrev b_FW_widened : ByteArray := prog_1_method_12_code
def y_FW_widened : MethodName := ⟨R_FW, "widened", "(J)J"⟩
abbrev b_FW_refuseHighBits : ByteArray := prog_1_method_13_code
def y_FW_refuseHighBits : MethodName := ⟨R_FW, "refuseHighBits", "(JZ)V"⟩
abbrev b_FW_refuseOutside : ByteArray := prog_1_method_14_code
def y_FW_refuseOutside : MethodName := ⟨R_FW, "refuseOutside", "(III)V"⟩
abbrev b_FW_refuseNotFinite : ByteArray := prog_1_method_15_code
def y_FW_refuseNotFinite : MethodName := ⟨R_FW, "refuseNotFinite", "(JZ)V"⟩
abbrev b_FW_fractionBits : ByteArray := prog_1_method_16_code
def y_FW_fractionBits : MethodName := ⟨R_FW, "fractionBits", "(Z)I"⟩
abbrev b_FW_infinity : ByteArray := prog_1_method_17_code
def y_FW_infinity : MethodName := ⟨R_FW, "infinity", "(Z)J"⟩
abbrev b_FW_signBit : ByteArray := prog_1_method_18_code
def y_FW_signBit : MethodName := ⟨R_FW, "signBit", "(Z)J"⟩
abbrev b_FW_isNegative : ByteArray := prog_1_method_19_code
def y_FW_isNegative : MethodName := ⟨R_FW, "isNegative", "(JZ)Z"⟩
abbrev b_FW_sizeBits : ByteArray := prog_1_method_20_code
def y_FW_sizeBits : MethodName := ⟨R_FW, "sizeBits", "(JZ)J"⟩
abbrev b_FW_isFinite : ByteArray := prog_1_method_21_code
def y_FW_isFinite : MethodName := ⟨R_FW, "isFinite", "(JZ)Z"⟩
abbrev b_FW_exponent : ByteArray := prog_1_method_22_code
def y_FW_exponent : MethodName := ⟨R_FW, "exponent", "(JZ)I"⟩
abbrev b_FW_fraction : ByteArray := prog_1_method_23_code
def y_FW_fraction : MethodName := ⟨R_FW, "fraction", "(JZ)J"⟩
abbrev b_FW_significand : ByteArray := prog_1_method_24_code
def y_FW_significand : MethodName := ⟨R_FW, "significand", "(JZ)J"⟩
abbrev b_FW_binaryPower : ByteArray := prog_1_method_25_code
def y_FW_binaryPower : MethodName := ⟨R_FW, "binaryPower", "(JZ)I"⟩
abbrev b_FW_isCloserBelow : ByteArray := prog_1_method_26_code
def y_FW_isCloserBelow : MethodName := ⟨R_FW, "isCloserBelow", "(JZ)Z"⟩
abbrev b_FW_narrowedSize : ByteArray := prog_1_method_27_code
def y_FW_narrowedSize : MethodName := ⟨R_FW, "narrowedSize", "(J)J"⟩
abbrev b_FW_halvedToEven : ByteArray := prog_1_method_28_code
def y_FW_halvedToEven : MethodName := ⟨R_FW, "halvedToEven", "(JI)J"⟩
abbrev b_FW_widenedSize : ByteArray := prog_1_method_29_code
def y_FW_widenedSize : MethodName := ⟨R_FW, "widenedSize", "(J)J"⟩
abbrev b_FW_writeSign : ByteArray := prog_1_method_30_code
def y_FW_writeSign : MethodName := ⟨R_FW, "writeSign", "(JZ)V"⟩
abbrev b_FW_writeNotFinite : ByteArray := prog_1_method_31_code
def y_FW_writeNotFinite : MethodName := ⟨R_FW, "writeNotFinite", "(JZ)V"⟩
abbrev b_FW_writeShortSize : ByteArray := prog_1_method_32_code
def y_FW_writeShortSize : MethodName := ⟨R_FW, "writeShortSize", "(JZ)V"⟩
abbrev b_FW_writeShortPlain : ByteArray := prog_1_method_33_code
def y_FW_writeShortPlain : MethodName := ⟨R_FW, "writeShortPlain", "(I)V"⟩
abbrev b_FW_writeShortWithPower : ByteArray := prog_1_method_34_code
def y_FW_writeShortWithPower : MethodName := ⟨R_FW, "writeShortWithPower", "(I)V"⟩
abbrev b_FW_writeHexadecimalSize : ByteArray := prog_1_method_35_code
def y_FW_writeHexadecimalSize : MethodName := ⟨R_FW, "writeHexadecimalSize", "(JZ)V"⟩
abbrev b_FW_writeHexadecimalFigures : ByteArray := prog_1_method_36_code
def y_FW_writeHexadecimalFigures : MethodName := ⟨R_FW, "writeHexadecimalFigures", "(JI)V"⟩
abbrev b_FW_writeFixedSize : ByteArray := prog_1_method_37_code
def y_FW_writeFixedSize : MethodName := ⟨R_FW, "writeFixedSize", "(II)V"⟩
abbrev b_FW_writeScientificSize : ByteArray := prog_1_method_38_code
def y_FW_writeScientificSize : MethodName := ⟨R_FW, "writeScientificSize", "(II)V"⟩
abbrev b_FW_tenTo : ByteArray := prog_1_method_39_code
def y_FW_tenTo : MethodName := ⟨R_FW, "tenTo", "(I)J"⟩
abbrev b_Law_print : ByteArray := method_3_code
def y_Law_print : MethodName := ⟨R_Law, "print", "(LFloatWriter;JZ[J)I"⟩
abbrev b_Law_hexadecimal : ByteArray := method_4_code
def y_Law_hexadecimal : MethodName := ⟨R_Law, "hexadecimal", "(LFloatWriter;JZ[J)I"⟩
abbrev b_Law_fixed : ByteArray := method_5_code
def y_Law_fixed : MethodName := ⟨R_Law, "fixed", "(LFloatWriter;JZII[J)I"⟩
abbrev b_Law_scientific : ByteArray := method_6_code
def y_Law_scientific : MethodName := ⟨R_Law, "scientific", "(LFloatWriter;JZII[J)I"⟩
abbrev b_Law_digits : ByteArray := method_7_code
def y_Law_digits : MethodName := ⟨R_Law, "digits", "(LFloatWriter;JZ[J)I"⟩
abbrev b_Law_power : ByteArray := method_8_code
def y_Law_power : MethodName := ⟨R_Law, "power", "(LFloatWriter;JZ[J)I"⟩
abbrev b_Law_next : ByteArray := method_9_code
def y_Law_next : MethodName := ⟨R_Law, "next", "(LFloatWriter;JZZ[J)I"⟩
abbrev b_Law_widened : ByteArray := method_10_code
def y_Law_widened : MethodName := ⟨R_Law, "widened", "(LFloatWriter;J[J)I"⟩
abbrev b_Law_law : ByteArray := code
def y_Law_law : MethodName := ⟨R_Law, "law", "([I)Z"⟩
abbrev b_Mo_init : ByteArray := prog_7_method_1_code
def y_Mo_init : MethodName := ⟨R_Mo, "<init>", "()V"⟩
abbrev b_Mo_thrown : ByteArray := prog_7_method_2_code
def y_Mo_thrown : MethodName := ⟨R_Mo, "thrown", "()I"⟩
abbrev b_Mo_isWrong : ByteArray := prog_7_method_3_code
def y_Mo_isWrong : MethodName := ⟨R_Mo, "isWrong", "(JZ)Z"⟩
abbrev b_Mo_open : ByteArray := prog_7_method_4_code
def y_Mo_open : MethodName := ⟨R_Mo, ("op" ++ "en"), "(JZ)V"⟩
abbrev b_Mo_isFinite : ByteArray := prog_7_method_5_code
def y_Mo_isFinite : MethodName := ⟨R_Mo, "isFinite", "()Z"⟩
abbrev b_Mo_setUnit : ByteArray := prog_7_method_6_code
def y_Mo_setUnit : MethodName := ⟨R_Mo, "setUnit", "(I)V"⟩
abbrev b_Mo_set : ByteArray := prog_7_method_7_code
def y_Mo_set : MethodName := ⟨R_Mo, "set", "([IJ)V"⟩
abbrev b_Mo_setAll : ByteArray := prog_7_method_8_code
def y_Mo_setAll : MethodName := ⟨R_Mo, "setAll", "()V"⟩
abbrev b_Mo_top : ByteArray := prog_7_method_9_code
def y_Mo_top : MethodName := ⟨R_Mo, "top", "()I"⟩
abbrev b_Mo_compare : ByteArray := prog_7_method_10_code
def y_Mo_compare : MethodName := ⟨R_Mo, "compare", "([I[I)I"⟩
abbrev b_Mo_cut : ByteArray := prog_7_method_11_code
def y_Mo_cut : MethodName := ⟨R_Mo, "cut", "(IZ)V"⟩
abbrev b_Mo_readsBack : ByteArray := prog_7_method_12_code
def y_Mo_readsBack : MethodName := ⟨R_Mo, "readsBack", "()Z"⟩
abbrev b_Mo_half : ByteArray := prog_7_method_13_code
def y_Mo_half : MethodName := ⟨R_Mo, "half", "(I)I"⟩
abbrev b_Mo_leastLength : ByteArray := prog_7_method_14_code
def y_Mo_leastLength : MethodName := ⟨R_Mo, "leastLength", "()I"⟩
abbrev b_Mo_findShortest : ByteArray := prog_7_method_15_code
def y_Mo_findShortest : MethodName := ⟨R_Mo, "findShortest", "()V"⟩
abbrev b_Mo_add : ByteArray := prog_7_method_16_code
def y_Mo_add : MethodName := ⟨R_Mo, "add", "(I)V"⟩
abbrev b_Mo_begin : ByteArray := prog_7_method_17_code
def y_Mo_begin : MethodName := ⟨R_Mo, "begin", "()V"⟩
abbrev b_Mo_name : ByteArray := prog_7_method_18_code
def y_Mo_name : MethodName := ⟨R_Mo, "name", "()V"⟩
abbrev b_Mo_number : ByteArray := prog_7_method_19_code
def y_Mo_number : MethodName := ⟨R_Mo, "number", "(I)V"⟩
abbrev b_Mo_figure : ByteArray := prog_7_method_20_code
def y_Mo_figure : MethodName := ⟨R_Mo, "figure", "(I)I"⟩
abbrev b_Mo_shortestTop : ByteArray := prog_7_method_21_code
def y_Mo_shortestTop : MethodName := ⟨R_Mo, "shortestTop", "()I"⟩
abbrev b_Mo_isBelow : ByteArray := prog_7_method_22_code
def y_Mo_isBelow : MethodName := ⟨R_Mo, "isBelow", "(I)Z"⟩
abbrev b_Mo_print : ByteArray := prog_7_method_23_code
def y_Mo_print : MethodName := ⟨R_Mo, "print", "(JZ)I"⟩
abbrev b_Mo_hexadecimalFigure : ByteArray := prog_7_method_24_code
def y_Mo_hexadecimalFigure : MethodName := ⟨R_Mo, "hexadecimalFigure", "(J)V"⟩
abbrev b_Mo_hexadecimal : ByteArray := prog_7_method_25_code
def y_Mo_hexadecimal : MethodName := ⟨R_Mo, "hexadecimal", "(JZ)I"⟩
abbrev b_Mo_isMore : ByteArray := prog_7_method_26_code
def y_Mo_isMore : MethodName := ⟨R_Mo, "isMore", "(II)Z"⟩
abbrev b_Mo_figureAt : ByteArray := prog_7_method_27_code
def y_Mo_figureAt : MethodName := ⟨R_Mo, "figureAt", "(I)I"⟩
abbrev b_Mo_setValue : ByteArray := prog_7_method_28_code
def y_Mo_setValue : MethodName := ⟨R_Mo, "setValue", "()V"⟩
abbrev b_Mo_fixed : ByteArray := prog_7_method_29_code
def y_Mo_fixed : MethodName := ⟨R_Mo, "fixed", "(JZII)I"⟩
abbrev b_Mo_scientific : ByteArray := prog_7_method_30_code
def y_Mo_scientific : MethodName := ⟨R_Mo, "scientific", "(JZII)I"⟩
abbrev b_Mo_paper : ByteArray := prog_7_method_31_code
def y_Mo_paper : MethodName := ⟨R_Mo, "paper", "()I"⟩
abbrev b_Mo_paperAt : ByteArray := prog_7_method_32_code
def y_Mo_paperAt : MethodName := ⟨R_Mo, "paperAt", "(I)J"⟩
abbrev b_Mo_digits : ByteArray := prog_7_method_33_code
def y_Mo_digits : MethodName := ⟨R_Mo, "digits", "(JZ)J"⟩
abbrev b_Mo_power : ByteArray := prog_7_method_34_code
def y_Mo_power : MethodName := ⟨R_Mo, "power", "(JZ)I"⟩
abbrev b_Mo_next : ByteArray := prog_7_method_35_code
def y_Mo_next : MethodName := ⟨R_Mo, "next", "(JZZ)J"⟩
abbrev b_Mo_narrowed : ByteArray := prog_7_method_36_code
def y_Mo_narrowed : MethodName := ⟨R_Mo, "narrowed", "(J)J"⟩
abbrev b_Mo_widened : ByteArray := prog_7_method_37_code
def y_Mo_widened : MethodName := ⟨R_Mo, "widened", "(J)J"⟩
abbrev b_Big_init : ByteArray := prog_2_method_1_code
def y_Big_init : MethodName := ⟨R_Big, "<init>", "()V"⟩
abbrev b_Big_setToOne : ByteArray := prog_2_method_2_code
def y_Big_setToOne : MethodName := ⟨R_Big, "setToOne", "()V"⟩
abbrev b_Big_setToProduct : ByteArray := prog_2_method_3_code
def y_Big_setToProduct : MethodName := ⟨R_Big, "setToProduct", "(LFloatWriter$Big;J)V"⟩
abbrev b_Big_append : ByteArray := prog_2_method_4_code
def y_Big_append : MethodName := ⟨R_Big, "append", "(J)V"⟩
abbrev b_Big_isZero : ByteArray := prog_2_method_5_code
def y_Big_isZero : MethodName := ⟨R_Big, "isZero", "()Z"⟩
abbrev b_Big_multiply : ByteArray := prog_2_method_6_code
def y_Big_multiply : MethodName := ⟨R_Big, "multiply", "(J)V"⟩
abbrev b_Big_multiplyByTwos : ByteArray := prog_2_method_7_code
def y_Big_multiplyByTwos : MethodName := ⟨R_Big, "multiplyByTwos", "(I)V"⟩
abbrev b_Big_multiplyByFives : ByteArray := prog_2_method_8_code
def y_Big_multiplyByFives : MethodName := ⟨R_Big, "multiplyByFives", "(I)V"⟩
abbrev b_Big_addTenTo : ByteArray := prog_2_method_9_code
def y_Big_addTenTo : MethodName := ⟨R_Big, "addTenTo", "(I)V"⟩
abbrev b_Big_figureCount : ByteArray := prog_2_method_10_code
def y_Big_figureCount : MethodName := ⟨R_Big, "figureCount", "()I"⟩
abbrev b_Big_limbAt : ByteArray := prog_2_method_11_code
def y_Big_limbAt : MethodName := ⟨R_Big, "limbAt", "(I)J"⟩
abbrev b_Big_figureAt : ByteArray := prog_2_method_12_code
def y_Big_figureAt : MethodName := ⟨R_Big, "figureAt", "(I)I"⟩
abbrev b_Big_hasAnyBelow : ByteArray := prog_2_method_13_code
def y_Big_hasAnyBelow : MethodName := ⟨R_Big, "hasAnyBelow", "(I)Z"⟩
abbrev b_Big_from : ByteArray := prog_2_method_14_code
def y_Big_from : MethodName := ⟨R_Big, "from", "(I)J"⟩
abbrev b_Exact_init : ByteArray := prog_3_method_1_code
def y_Exact_init : MethodName := ⟨R_Exact, "<init>", "()V"⟩
abbrev b_Exact_expand : ByteArray := prog_3_method_2_code
def y_Exact_expand : MethodName := ⟨R_Exact, "expand", "(JI)V"⟩
abbrev b_Exact_setToQuarters : ByteArray := prog_3_method_3_code
def y_Exact_setToQuarters : MethodName := ⟨R_Exact, "setToQuarters", "(LFloatWriter$Big;J)V"⟩
abbrev b_Exact_scale : ByteArray := prog_3_method_4_code
def y_Exact_scale : MethodName := ⟨R_Exact, "scale", "()I"⟩
abbrev b_Exact_isZero : ByteArray := prog_3_method_5_code
def y_Exact_isZero : MethodName := ⟨R_Exact, "isZero", "()Z"⟩
abbrev b_Exact_figureCount : ByteArray := prog_3_method_6_code
def y_Exact_figureCount : MethodName := ⟨R_Exact, "figureCount", "()I"⟩
abbrev b_Exact_figureAt : ByteArray := prog_3_method_7_code
def y_Exact_figureAt : MethodName := ⟨R_Exact, "figureAt", "(I)I"⟩
abbrev b_Exact_hasAnyBelow : ByteArray := prog_3_method_8_code
def y_Exact_hasAnyBelow : MethodName := ⟨R_Exact, "hasAnyBelow", "(I)Z"⟩
abbrev b_Exact_from : ByteArray := prog_3_method_9_code
def y_Exact_from : MethodName := ⟨R_Exact, "from", "(I)J"⟩
abbrev b_Exact_roundAt : ByteArray := prog_3_method_10_code
def y_Exact_roundAt : MethodName := ⟨R_Exact, "roundAt", "(II)V"⟩
abbrev b_Exact_goesUp : ByteArray := prog_3_method_11_code
def y_Exact_goesUp : MethodName := ⟨R_Exact, "goesUp", "(II)Z"⟩
abbrev b_Sheet_init : ByteArray := prog_4_method_1_code
def y_Sheet_init : MethodName := ⟨R_Sheet, "<init>", "()V"⟩
abbrev b_Sheet_clear : ByteArray := prog_4_method_2_code
def y_Sheet_clear : MethodName := ⟨R_Sheet, "clear", "()V"⟩
abbrev b_Sheet_length : ByteArray := prog_4_method_3_code
def y_Sheet_length : MethodName := ⟨R_Sheet, "length", "()I"⟩
abbrev b_Sheet_put : ByteArray := prog_4_method_4_code
def y_Sheet_put : MethodName := ⟨R_Sheet, "put", "(C)V"⟩
abbrev b_Sheet_putText : ByteArray := prog_4_method_5_code
def y_Sheet_putText : MethodName := ⟨R_Sheet, "putText", "(Ljava/lang/String;)V"⟩
abbrev b_Sheet_putFigure : ByteArray := prog_4_method_6_code
def y_Sheet_putFigure : MethodName := ⟨R_Sheet, "putFigure", "(I)V"⟩
abbrev b_Sheet_putNumber : ByteArray := prog_4_method_7_code
def y_Sheet_putNumber : MethodName := ⟨R_Sheet, "putNumber", "(I)V"⟩
abbrev b_Sheet_eightFrom : ByteArray := prog_4_method_8_code
def y_Sheet_eightFrom : MethodName := ⟨R_Sheet, "eightFrom", "(I)J"⟩
abbrev b_Short_init : ByteArray := prog_5_method_1_code
def y_Short_init : MethodName := ⟨R_Short, "<init>", "()V"⟩
abbrev b_Short_coefficient : ByteArray := prog_5_method_2_code
def y_Short_coefficient : MethodName := ⟨R_Short, "coefficient", "()J"⟩
abbrev b_Short_tens : ByteArray := prog_5_method_3_code
def y_Short_tens : MethodName := ⟨R_Short, "tens", "()I"⟩
abbrev b_Short_firstPower : ByteArray := prog_5_method_4_code
def y_Short_firstPower : MethodName := ⟨R_Short, "firstPower", "()I"⟩
abbrev b_Short_figureAt : ByteArray := prog_5_method_5_code
def y_Short_figureAt : MethodName := ⟨R_Short, "figureAt", "(I)I"⟩
abbrev b_Short_find : ByteArray := prog_5_method_6_code
def y_Short_find : MethodName := ⟨R_Short, "find", "(JZ)V"⟩
abbrev b_Short_nearestOfLeastLength : ByteArray := prog_5_method_7_code
def y_Short_nearestOfLeastLength : MethodName := ⟨R_Short, "nearestOfLeastLength", "()J"⟩
abbrev b_Short_nearestOfUnit : ByteArray := prog_5_method_8_code
def y_Short_nearestOfUnit : MethodName := ⟨R_Short, "nearestOfUnit", "(J)J"⟩
abbrev b_Short_isNearerToOver : ByteArray := prog_5_method_9_code
def y_Short_isNearerToOver : MethodName := ⟨R_Short, "isNearerToOver", "(JJ)Z"⟩
abbrev b_Short_dropZeros : ByteArray := prog_5_method_10_code
def y_Short_dropZeros : MethodName := ⟨R_Short, "dropZeros", "()V"⟩
abbrev b_Str_length : ByteArray := prog_13_method_54_code
def y_Str_length : MethodName := ⟨R_Str, "length", "()I"⟩
abbrev b_Str_coder : ByteArray := prog_13_method_152_code
def y_Str_coder : MethodName := ⟨R_Str, "coder", "()B"⟩
abbrev b_Str_charAt : ByteArray := prog_13_method_56_code
def y_Str_charAt : MethodName := ⟨R_Str, "charAt", "(I)C"⟩
abbrev b_Str_isLatin1 : ByteArray := prog_13_method_154_code
def y_Str_isLatin1 : MethodName := ⟨R_Str, "isLatin1", "()Z"⟩
abbrev b_Lat_charAt : ByteArray := prog_14_method_2_code
def y_Lat_charAt : MethodName := ⟨R_Lat, "charAt", "([BI)C"⟩
abbrev b_Str_checkIndex : ByteArray := prog_13_method_155_code
def y_Str_checkIndex : MethodName := ⟨R_Str, "checkIndex", "(II)V"⟩
abbrev b_Pre_checkIndex : ByteArray := prog_17_method_11_code
def y_Pre_checkIndex : MethodName := ⟨R_Pre, "checkIndex", "(IILjava/util/function/BiFunction;)I"⟩
/-- the words of every contract: those of the tables that stay -/
def gT : List Cond := lw_tbl.filter goodWord
theorem gT_in {w : Cond} (i : Nat) (h : tables_1[i]? = some w) (hg : goodWord w = true) : w ∈ gT := List.mem_filter.mpr ⟨List.mem_append_right _ (List.mem_of_getElem? h), hg⟩
theorem gT_sel {w : Cond} (h : w ∈ k2_sels lw_privs) (hg : goodWord w = true) : w ∈ gT := List.mem_filter.mpr ⟨List.mem_append_left _ h, hg⟩
theorem gT_sub {w : Cond} (h : w ∈ gT) : w ∈ lw_tbl := (List.mem_filter.mp h).1
theorem i_FW : ∀ w ∈ u_ws R_FW F_FW 3, w ∈ gT := by
  intro w hw
  obtain ⟨k, hk, rfl⟩ := List.mem_map.mp hw
  have hk := List.mem_range.mp hk
  rcases (show k = 0 ∨ k = 1 ∨ k = 2 by omega) with rfl | rfl | rfl
  · exact gT_in 116 (by decide +kernel) (by decide +kernel)
  · exact gT_in 118 (by decide +kernel) (by decide +kernel)
  · exact gT_in 120 (by decide +kernel) (by decide +kernel)
theorem i_Mo : ∀ w ∈ u_ws R_Mo F_Mo 18, w ∈ gT := by
  intro w hw
  obtain ⟨k, hk, rfl⟩ := List.mem_map.mp hw
  have hk := List.mem_range.mp hk
  rcases (show k = 0 ∨ k = 1 ∨ k = 2 ∨ k = 3 ∨ k = 4 ∨ k = 5 ∨ k = 6 ∨ k = 7 ∨ k = 8 ∨ k = 9 ∨ k = 10 ∨ k = 11 ∨ k = 12 ∨ k = 13 ∨ k = 14 ∨ k = 15 ∨ k = 16 ∨ k = 17 by omega) with rfl | rfl | rfl | rfl | rfl | rfl | rfl | rfl | rfl | rfl | rfl | rfl | rfl | rfl | rfl | rfl | rfl | rfl
  · exact gT_in 647 (by decide +kernel) (by decide +kernel)
  · exact gT_in 649 (by decide +kernel) (by decide +kernel)
  · exact gT_in 651 (by decide +kernel) (by decide +kernel)
  · exact gT_in 653 (by decide +kernel) (by decide +kernel)
  · exact gT_in 655 (by decide +kernel) (by decide +kernel)
  · exact gT_in 657 (by decide +kernel) (by decide +kernel)
  · exact gT_in 659 (by decide +kernel) (by decide +kernel)
  · exact gT_in 661 (by decide +kernel) (by decide +kernel)
  · exact gT_in 663 (by decide +kernel) (by decide +kernel)
  · exact gT_in 665 (by decide +kernel) (by decide +kernel)
  · exact gT_in 667 (by decide +kernel) (by decide +kernel)
  · exact gT_in 669 (by decide +kernel) (by decide +kernel)
  · exact gT_in 671 (by decide +kernel) (by decide +kernel)
  · exact gT_in 673 (by decide +kernel) (by decide +kernel)
  · exact gT_in 675 (by decide +kernel) (by decide +kernel)
  · exact gT_in 677 (by decide +kernel) (by decide +kernel)
  · exact gT_in 679 (by decide +kernel) (by decide +kernel)
  · exact gT_in 681 (by decide +kernel) (by decide +kernel)
theorem i_Big : ∀ w ∈ u_ws R_Big F_Big 2, w ∈ gT := by
  intro w hw
  obtain ⟨k, hk, rfl⟩ := List.mem_map.mp hw
  have hk := List.mem_range.mp hk
  rcases (show k = 0 ∨ k = 1 by omega) with rfl | rfl
  · exact gT_in 53 (by decide +kernel) (by decide +kernel)
  · exact gT_in 55 (by decide +kernel) (by decide +kernel)
theorem i_Exact : ∀ w ∈ u_ws R_Exact F_Exact 3, w ∈ gT := by
  intro w hw
  obtain ⟨k, hk, rfl⟩ := List.mem_map.mp hw
  have hk := List.mem_range.mp hk
  rcases (show k = 0 ∨ k = 1 ∨ k = 2 by omega) with rfl | rfl | rfl
  · exact gT_in 62 (by decide +kernel) (by decide +kernel)
  · exact gT_in 64 (by decide +kernel) (by decide +kernel)
  · exact gT_in 66 (by decide +kernel) (by decide +kernel)
theorem i_Sheet : ∀ w ∈ u_ws R_Sheet F_Sheet 2, w ∈ gT := by
  intro w hw
  obtain ⟨k, hk, rfl⟩ := List.mem_map.mp hw
  have hk := List.mem_range.mp hk
  rcases (show k = 0 ∨ k = 1 by omega) with rfl | rfl
  · exact gT_in 33 (by decide +kernel) (by decide +kernel)
  · exact gT_in 35 (by decide +kernel) (by decide +kernel)
theorem i_Short : ∀ w ∈ u_ws R_Short F_Short 11, w ∈ gT := by
  intro w hw
  obtain ⟨k, hk, rfl⟩ := List.mem_map.mp hw
  have hk := List.mem_range.mp hk
  rcases (show k = 0 ∨ k = 1 ∨ k = 2 ∨ k = 3 ∨ k = 4 ∨ k = 5 ∨ k = 6 ∨ k = 7 ∨ k = 8 ∨ k = 9 ∨ k = 10 by omega) with rfl | rfl | rfl | rfl | rfl | rfl | rfl | rfl | rfl | rfl | rfl
  · exact gT_in 90 (by decide +kernel) (by decide +kernel)
  · exact gT_in 92 (by decide +kernel) (by decide +kernel)
  · exact gT_in 94 (by decide +kernel) (by decide +kernel)
  · exact gT_in 96 (by decide +kernel) (by decide +kernel)
  · exact gT_in 98 (by decide +kernel) (by decide +kernel)
  · exact gT_in 100 (by decide +kernel) (by decide +kernel)
  · exact gT_in 102 (by decide +kernel) (by decide +kernel)
  · exact gT_in 104 (by decide +kernel) (by decide +kernel)
  · exact gT_in 106 (by decide +kernel) (by decide +kernel)
  · exact gT_in 108 (by decide +kernel) (by decide +kernel)
  · exact gT_in 110 (by decide +kernel) (by decide +kernel)
