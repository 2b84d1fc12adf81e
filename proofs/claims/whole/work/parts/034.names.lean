def R_PatternBook_Wide : String := "PatternBook$Wide"
def R_PatternBook_Datum : String := "PatternBook$Datum"
def R_PatternBook_Binary : String := "PatternBook$Binary"
def R_PatternBook_PlainDecimal : String := "PatternBook$PlainDecimal"
def R_PatternBook_DecletDecimal : String := "PatternBook$DecletDecimal"
def R_PatternBook : String := "PatternBook"
def R_PatternBookModel : String := "PatternBookModel"
def R_java_lang_Long : String := "java/lang/Long"
def R_PatternBook_Declet : String := "PatternBook$Declet"
def R_PatternBook_Format : String := "PatternBook$Format"
def R_PatternBook_Decimal : String := "PatternBook$Decimal"
abbrev b_java_lang_Long_compare : ByteArray := prog_14_method_42_code
def y_java_lang_Long_compare : MethodName := ⟨R_java_lang_Long, "compare", "(JJ)I"⟩
abbrev b_java_lang_Long_compareUnsigned : ByteArray := prog_14_method_43_code
def y_java_lang_Long_compareUnsigned : MethodName := ⟨R_java_lang_Long, "compareUnsigned", "(JJ)I"⟩
abbrev b_PatternBook_Wide_init : ByteArray := prog_9_method_1_code
def y_PatternBook_Wide_init : MethodName := ⟨R_PatternBook_Wide, "<init>", "()V"⟩
abbrev b_PatternBook_Wide_ones : ByteArray := prog_9_method_14_code
def y_PatternBook_Wide_ones : MethodName := ⟨R_PatternBook_Wide, "ones", "(I)J"⟩
abbrev b_PatternBook_Wide_set : ByteArray := prog_9_method_2_code
def y_PatternBook_Wide_set : MethodName := ⟨R_PatternBook_Wide, "set", "(JJ)V"⟩
abbrev b_PatternBook_Wide_copy : ByteArray := prog_9_method_3_code
def y_PatternBook_Wide_copy : MethodName := ⟨R_PatternBook_Wide, "copy", "(LPatternBook$Wide;)V"⟩
abbrev b_PatternBook_Wide_half : ByteArray := prog_9_method_4_code
def y_PatternBook_Wide_half : MethodName := ⟨R_PatternBook_Wide, "half", "(Z)J"⟩
abbrev b_PatternBook_Wide_isZero : ByteArray := prog_9_method_5_code
def y_PatternBook_Wide_isZero : MethodName := ⟨R_PatternBook_Wide, "isZero", "()Z"⟩
abbrev b_PatternBook_Wide_isSame : ByteArray := prog_9_method_6_code
def y_PatternBook_Wide_isSame : MethodName := ⟨R_PatternBook_Wide, "isSame", "(LPatternBook$Wide;)Z"⟩
abbrev b_PatternBook_Wide_isAbove : ByteArray := prog_9_method_7_code
def y_PatternBook_Wide_isAbove : MethodName := ⟨R_PatternBook_Wide, "isAbove", "(LPatternBook$Wide;)Z"⟩
abbrev b_PatternBook_Wide_fits : ByteArray := prog_9_method_8_code
def y_PatternBook_Wide_fits : MethodName := ⟨R_PatternBook_Wide, "fits", "(I)Z"⟩
abbrev b_PatternBook_Wide_keepLowest : ByteArray := prog_9_method_9_code
def y_PatternBook_Wide_keepLowest : MethodName := ⟨R_PatternBook_Wide, "keepLowest", "(I)V"⟩
abbrev b_PatternBook_Wide_bitsAt : ByteArray := prog_9_method_10_code
def y_PatternBook_Wide_bitsAt : MethodName := ⟨R_PatternBook_Wide, "bitsAt", "(II)J"⟩
abbrev b_PatternBook_Wide_addBits : ByteArray := prog_9_method_11_code
def y_PatternBook_Wide_addBits : MethodName := ⟨R_PatternBook_Wide, "addBits", "(IJ)V"⟩
abbrev b_PatternBook_Wide_timesPlus : ByteArray := prog_9_method_12_code
def y_PatternBook_Wide_timesPlus : MethodName := ⟨R_PatternBook_Wide, "timesPlus", "(II)V"⟩
abbrev b_PatternBook_Wide_takeThreeDigits : ByteArray := prog_9_method_13_code
def y_PatternBook_Wide_takeThreeDigits : MethodName := ⟨R_PatternBook_Wide, "takeThreeDigits", "()I"⟩
abbrev b_PatternBook_Datum_init : ByteArray := prog_3_method_1_code
def y_PatternBook_Datum_init : MethodName := ⟨R_PatternBook_Datum, "<init>", "()V"⟩
abbrev b_PatternBook_Datum_become : ByteArray := prog_3_method_2_code
def y_PatternBook_Datum_become : MethodName := ⟨R_PatternBook_Datum, "become", "(II)V"⟩
abbrev b_PatternBook_Declet_join : ByteArray := prog_5_method_4_code
def y_PatternBook_Declet_join : MethodName := ⟨R_PatternBook_Declet, "join", "(III)I"⟩
abbrev b_PatternBook_Declet_bits : ByteArray := prog_5_method_6_code
def y_PatternBook_Declet_bits : MethodName := ⟨R_PatternBook_Declet, "bits", "(III)I"⟩
abbrev b_PatternBook_Declet_readTwoLarge : ByteArray := prog_5_method_3_code
def y_PatternBook_Declet_readTwoLarge : MethodName := ⟨R_PatternBook_Declet, "readTwoLarge", "(III)I"⟩
abbrev b_PatternBook_Declet_read : ByteArray := prog_5_method_2_code
def y_PatternBook_Declet_read : MethodName := ⟨R_PatternBook_Declet, "read", "(I)I"⟩
abbrev b_PatternBook_Declet_write : ByteArray := prog_5_method_5_code
def y_PatternBook_Declet_write : MethodName := ⟨R_PatternBook_Declet, "write", "(I)I"⟩
abbrev b_PatternBook_Binary_hasNumber : ByteArray := prog_2_method_2_code
def y_PatternBook_Binary_hasNumber : MethodName := ⟨R_PatternBook_Binary, "hasNumber", "(LPatternBook$Datum;)Z"⟩
abbrev b_PatternBook_Binary_hasNan : ByteArray := prog_2_method_3_code
def y_PatternBook_Binary_hasNan : MethodName := ⟨R_PatternBook_Binary, "hasNan", "(LPatternBook$Datum;)Z"⟩
abbrev b_PatternBook_Binary_readSpecial : ByteArray := prog_2_method_5_code
def y_PatternBook_Binary_readSpecial : MethodName := ⟨R_PatternBook_Binary, "readSpecial", "(LPatternBook$Datum;)V"⟩
abbrev b_PatternBook_Binary_readUnsigned : ByteArray := prog_2_method_4_code
def y_PatternBook_Binary_readUnsigned : MethodName := ⟨R_PatternBook_Binary, "readUnsigned", "(LPatternBook$Wide;LPatternBook$Datum;)V"⟩
abbrev b_PatternBook_Binary_fieldOf : ByteArray := prog_2_method_7_code
def y_PatternBook_Binary_fieldOf : MethodName := ⟨R_PatternBook_Binary, "fieldOf", "(LPatternBook$Datum;)J"⟩
abbrev b_PatternBook_Binary_writeUnsigned : ByteArray := prog_2_method_6_code
def y_PatternBook_Binary_writeUnsigned : MethodName := ⟨R_PatternBook_Binary, "writeUnsigned", "(LPatternBook$Datum;LPatternBook$Wide;)V"⟩
abbrev b_PatternBook_Format_has : ByteArray := prog_7_method_5_code
def y_PatternBook_Format_has : MethodName := ⟨R_PatternBook_Format, "has", "(LPatternBook$Datum;)Z"⟩
abbrev b_PatternBook_Format_cut : ByteArray := prog_7_method_2_code
def y_PatternBook_Format_cut : MethodName := ⟨R_PatternBook_Format, "cut", "(JJLPatternBook$Wide;)V"⟩
abbrev b_PatternBook_Format_read : ByteArray := prog_7_method_3_code
def y_PatternBook_Format_read : MethodName := ⟨R_PatternBook_Format, "read", "(LPatternBook$Wide;LPatternBook$Datum;)V"⟩
abbrev b_PatternBook_Format_write : ByteArray := prog_7_method_4_code
def y_PatternBook_Format_write : MethodName := ⟨R_PatternBook_Format, "write", "(LPatternBook$Datum;LPatternBook$Wide;)Z"⟩
abbrev b_PatternBook_Decimal_beginsWithOnes : ByteArray := prog_4_method_8_code
def y_PatternBook_Decimal_beginsWithOnes : MethodName := ⟨R_PatternBook_Decimal, "beginsWithOnes", "(J)Z"⟩
abbrev b_PatternBook_PlainDecimal_fieldOf : ByteArray := prog_8_method_2_code
def y_PatternBook_PlainDecimal_fieldOf : MethodName := ⟨R_PatternBook_PlainDecimal, "fieldOf", "(J)J"⟩
abbrev b_PatternBook_PlainDecimal_leadOf : ByteArray := prog_8_method_3_code
def y_PatternBook_PlainDecimal_leadOf : MethodName := ⟨R_PatternBook_PlainDecimal, "leadOf", "(J)I"⟩
abbrev b_PatternBook_PlainDecimal_headOf : ByteArray := prog_8_method_4_code
def y_PatternBook_PlainDecimal_headOf : MethodName := ⟨R_PatternBook_PlainDecimal, "headOf", "(JI)J"⟩
abbrev b_PatternBook_Decimal_hasNumber : ByteArray := prog_4_method_3_code
def y_PatternBook_Decimal_hasNumber : MethodName := ⟨R_PatternBook_Decimal, "hasNumber", "(LPatternBook$Datum;)Z"⟩
abbrev b_PatternBook_Decimal_hasNan : ByteArray := prog_4_method_4_code
def y_PatternBook_Decimal_hasNan : MethodName := ⟨R_PatternBook_Decimal, "hasNan", "(LPatternBook$Datum;)Z"⟩
abbrev b_PatternBook_Decimal_headFor : ByteArray := prog_4_method_7_code
def y_PatternBook_Decimal_headFor : MethodName := ⟨R_PatternBook_Decimal, "headFor", "(LPatternBook$Datum;I)J"⟩
abbrev b_PatternBook_PlainDecimal_readBody : ByteArray := prog_8_method_5_code
def y_PatternBook_PlainDecimal_readBody : MethodName := ⟨R_PatternBook_PlainDecimal, "readBody", "(ILPatternBook$Wide;LPatternBook$Wide;LPatternBook$Wide;)V"⟩
abbrev b_PatternBook_PlainDecimal_writeTail : ByteArray := prog_8_method_6_code
def y_PatternBook_PlainDecimal_writeTail : MethodName := ⟨R_PatternBook_PlainDecimal, "writeTail", "(LPatternBook$Wide;LPatternBook$Wide;)I"⟩
abbrev b_PatternBook_Decimal_readUnsigned : ByteArray := prog_4_method_5_code
def y_PatternBook_Decimal_readUnsigned : MethodName := ⟨R_PatternBook_Decimal, "readUnsigned", "(LPatternBook$Wide;LPatternBook$Datum;)V"⟩
abbrev b_PatternBook_Decimal_writeUnsigned : ByteArray := prog_4_method_6_code
def y_PatternBook_Decimal_writeUnsigned : MethodName := ⟨R_PatternBook_Decimal, "writeUnsigned", "(LPatternBook$Datum;LPatternBook$Wide;)V"⟩
abbrev b_PatternBook_DecletDecimal_fieldOf : ByteArray := prog_6_method_2_code
def y_PatternBook_DecletDecimal_fieldOf : MethodName := ⟨R_PatternBook_DecletDecimal, "fieldOf", "(J)J"⟩
abbrev b_PatternBook_DecletDecimal_leadOf : ByteArray := prog_6_method_3_code
def y_PatternBook_DecletDecimal_leadOf : MethodName := ⟨R_PatternBook_DecletDecimal, "leadOf", "(J)I"⟩
abbrev b_PatternBook_DecletDecimal_headOf : ByteArray := prog_6_method_4_code
def y_PatternBook_DecletDecimal_headOf : MethodName := ⟨R_PatternBook_DecletDecimal, "headOf", "(JI)J"⟩
abbrev b_PatternBook_DecletDecimal_readBody : ByteArray := prog_6_method_5_code
def y_PatternBook_DecletDecimal_readBody : MethodName := ⟨R_PatternBook_DecletDecimal, "readBody", "(ILPatternBook$Wide;LPatternBook$Wide;LPatternBook$Wide;)V"⟩
abbrev b_PatternBook_DecletDecimal_writeTail : ByteArray := prog_6_method_6_code
def y_PatternBook_DecletDecimal_writeTail : MethodName := ⟨R_PatternBook_DecletDecimal, "writeTail", "(LPatternBook$Wide;LPatternBook$Wide;)I"⟩
def F_PatternBook_Wide : u_T := fun k => match k with
  | 0 => ("PatternBook$Wide", "high", "J", false)
  | _ => ("PatternBook$Wide", "low", "J", false)
def t_PatternBook_Wide : Nat → FieldType := fun k => match k with
  | 0 => .long
  | _ => .long
theorem n_PatternBook_Wide : ∀ a, a < 2 → ∀ b, b < 2 → a ≠ b → (F_PatternBook_Wide a).2.1 ≠ (F_PatternBook_Wide b).2.1 := by decide +kernel
theorem t_PatternBook_Wide_ok : ∀ k, k < 2 → parseFieldDescriptor (F_PatternBook_Wide k).2.2.1 = some (t_PatternBook_Wide k) := by decide +kernel
theorem i_PatternBook_Wide0 : ∀ w ∈ u_ws R_PatternBook_Wide F_PatternBook_Wide 2, w ∈ xtbl := by decide +kernel
theorem i_PatternBook_Wide1 : ∀ w ∈ u_ws R_PatternBook_Wide F_PatternBook_Wide 2, goodWord w = true := by decide +kernel
theorem i_PatternBook_Wide : ∀ w ∈ u_ws R_PatternBook_Wide F_PatternBook_Wide 2, w ∈ wt := fun w h => in_wt (i_PatternBook_Wide0 w h) (i_PatternBook_Wide1 w h)
def F_PatternBook_Datum : u_T := fun k => match k with
  | 0 => ("PatternBook$Datum", "kind", "I", false)
  | 1 => ("PatternBook$Datum", "negative", "Z", false)
  | 2 => ("PatternBook$Datum", "exponent", "I", false)
  | _ => ("PatternBook$Datum", "body", "LPatternBook$Wide;", true)
def t_PatternBook_Datum : Nat → FieldType := fun k => match k with
  | 0 => .int
  | 1 => .boolean
  | 2 => .int
  | _ => .object "PatternBook$Wide"
theorem n_PatternBook_Datum : ∀ a, a < 4 → ∀ b, b < 4 → a ≠ b → (F_PatternBook_Datum a).2.1 ≠ (F_PatternBook_Datum b).2.1 := by decide +kernel
theorem t_PatternBook_Datum_ok : ∀ k, k < 4 → parseFieldDescriptor (F_PatternBook_Datum k).2.2.1 = some (t_PatternBook_Datum k) := by decide +kernel
theorem i_PatternBook_Datum0 : ∀ w ∈ u_ws R_PatternBook_Datum F_PatternBook_Datum 4, w ∈ xtbl := by decide +kernel
theorem i_PatternBook_Datum1 : ∀ w ∈ u_ws R_PatternBook_Datum F_PatternBook_Datum 4, goodWord w = true := by decide +kernel
theorem i_PatternBook_Datum : ∀ w ∈ u_ws R_PatternBook_Datum F_PatternBook_Datum 4, w ∈ wt := fun w h => in_wt (i_PatternBook_Datum0 w h) (i_PatternBook_Datum1 w h)
def F_PatternBook_Binary : u_T := fun k => match k with
  | 0 => ("PatternBook$Format", "bits", "I", true)
  | 1 => ("PatternBook$Format", "places", "I", true)
  | 2 => ("PatternBook$Format", "leastExponent", "I", true)
  | 3 => ("PatternBook$Format", "greatestExponent", "I", true)
  | 4 => ("PatternBook$Binary", "tailBits", "I", true)
  | 5 => ("PatternBook$Binary", "fieldBits", "I", true)
  | _ => ("PatternBook$Binary", "fullField", "J", true)
def t_PatternBook_Binary : Nat → FieldType := fun k => match k with
  | 0 => .int
  | 1 => .int
  | 2 => .int
  | 3 => .int
  | 4 => .int
  | 5 => .int
  | _ => .long
theorem n_PatternBook_Binary : ∀ a, a < 7 → ∀ b, b < 7 → a ≠ b → (F_PatternBook_Binary a).2.1 ≠ (F_PatternBook_Binary b).2.1 := by decide +kernel
theorem t_PatternBook_Binary_ok : ∀ k, k < 7 → parseFieldDescriptor (F_PatternBook_Binary k).2.2.1 = some (t_PatternBook_Binary k) := by decide +kernel
theorem i_PatternBook_Binary0 : ∀ w ∈ u_ws R_PatternBook_Binary F_PatternBook_Binary 7, w ∈ xtbl := by decide +kernel
theorem i_PatternBook_Binary1 : ∀ w ∈ u_ws R_PatternBook_Binary F_PatternBook_Binary 7, goodWord w = true := by decide +kernel
theorem i_PatternBook_Binary : ∀ w ∈ u_ws R_PatternBook_Binary F_PatternBook_Binary 7, w ∈ wt := fun w h => in_wt (i_PatternBook_Binary0 w h) (i_PatternBook_Binary1 w h)
def F_PatternBook_PlainDecimal : u_T := fun k => match k with
  | 0 => ("PatternBook$Format", "bits", "I", true)
  | 1 => ("PatternBook$Format", "places", "I", true)
  | 2 => ("PatternBook$Format", "leastExponent", "I", true)
  | 3 => ("PatternBook$Format", "greatestExponent", "I", true)
  | 4 => ("PatternBook$Decimal", "declets", "I", true)
  | 5 => ("PatternBook$Decimal", "tailBits", "I", true)
  | 6 => ("PatternBook$Decimal", "headBits", "I", true)
  | 7 => ("PatternBook$Decimal", "mostNumber", "LPatternBook$Wide;", true)
  | _ => ("PatternBook$Decimal", "mostPayload", "LPatternBook$Wide;", true)
def t_PatternBook_PlainDecimal : Nat → FieldType := fun k => match k with
  | 0 => .int
  | 1 => .int
  | 2 => .int
  | 3 => .int
  | 4 => .int
  | 5 => .int
  | 6 => .int
  | 7 => .object "PatternBook$Wide"
  | _ => .object "PatternBook$Wide"
theorem n_PatternBook_PlainDecimal : ∀ a, a < 9 → ∀ b, b < 9 → a ≠ b → (F_PatternBook_PlainDecimal a).2.1 ≠ (F_PatternBook_PlainDecimal b).2.1 := by decide +kernel
theorem t_PatternBook_PlainDecimal_ok : ∀ k, k < 9 → parseFieldDescriptor (F_PatternBook_PlainDecimal k).2.2.1 = some (t_PatternBook_PlainDecimal k) := by decide +kernel
theorem i_PatternBook_PlainDecimal0 : ∀ w ∈ u_ws R_PatternBook_PlainDecimal F_PatternBook_PlainDecimal 9, w ∈ xtbl := by decide +kernel
theorem i_PatternBook_PlainDecimal1 : ∀ w ∈ u_ws R_PatternBook_PlainDecimal F_PatternBook_PlainDecimal 9, goodWord w = true := by decide +kernel
theorem i_PatternBook_PlainDecimal : ∀ w ∈ u_ws R_PatternBook_PlainDecimal F_PatternBook_PlainDecimal 9, w ∈ wt := fun w h => in_wt (i_PatternBook_PlainDecimal0 w h) (i_PatternBook_PlainDecimal1 w h)
def F_PatternBook_DecletDecimal : u_T := fun k => match k with
  | 0 => ("PatternBook$Format", "bits", "I", true)
  | 1 => ("PatternBook$Format", "places", "I", true)
  | 2 => ("PatternBook$Format", "leastExponent", "I", true)
  | 3 => ("PatternBook$Format", "greatestExponent", "I", true)
  | 4 => ("PatternBook$Decimal", "declets", "I", true)
  | 5 => ("PatternBook$Decimal", "tailBits", "I", true)
  | 6 => ("PatternBook$Decimal", "headBits", "I", true)
  | 7 => ("PatternBook$Decimal", "mostNumber", "LPatternBook$Wide;", true)
  | 8 => ("PatternBook$Decimal", "mostPayload", "LPatternBook$Wide;", true)
  | 9 => ("PatternBook$DecletDecimal", "restBits", "I", true)
  | _ => ("PatternBook$DecletDecimal", "left", "LPatternBook$Wide;", true)
def t_PatternBook_DecletDecimal : Nat → FieldType := fun k => match k with
  | 0 => .int
  | 1 => .int
  | 2 => .int
  | 3 => .int
  | 4 => .int
  | 5 => .int
  | 6 => .int
  | 7 => .object "PatternBook$Wide"
  | 8 => .object "PatternBook$Wide"
  | 9 => .int
  | _ => .object "PatternBook$Wide"
theorem n_PatternBook_DecletDecimal : ∀ a, a < 11 → ∀ b, b < 11 → a ≠ b → (F_PatternBook_DecletDecimal a).2.1 ≠ (F_PatternBook_DecletDecimal b).2.1 := by decide +kernel
theorem t_PatternBook_DecletDecimal_ok : ∀ k, k < 11 → parseFieldDescriptor (F_PatternBook_DecletDecimal k).2.2.1 = some (t_PatternBook_DecletDecimal k) := by decide +kernel
theorem i_PatternBook_DecletDecimal0 : ∀ w ∈ u_ws R_PatternBook_DecletDecimal F_PatternBook_DecletDecimal 11, w ∈ xtbl := by decide +kernel
theorem i_PatternBook_DecletDecimal1 : ∀ w ∈ u_ws R_PatternBook_DecletDecimal F_PatternBook_DecletDecimal 11, goodWord w = true := by decide +kernel
theorem i_PatternBook_DecletDecimal : ∀ w ∈ u_ws R_PatternBook_DecletDecimal F_PatternBook_DecletDecimal 11, w ∈ wt := fun w h => in_wt (i_PatternBook_DecletDecimal0 w h) (i_PatternBook_DecletDecimal1 w h)
def F_PatternBook : u_T := fun k => match k with
  | 0 => ("PatternBook", "formats", "[LPatternBook$Format;", true)
  | 1 => ("PatternBook", "datum", "LPatternBook$Datum;", true)
  | 2 => ("PatternBook", "made", "LPatternBook$Wide;", true)
  | 3 => ("PatternBook", "given", "LPatternBook$Wide;", true)
  | 4 => ("PatternBook", "trialDatum", "LPatternBook$Datum;", true)
  | _ => ("PatternBook", "trialPattern", "LPatternBook$Wide;", true)
def t_PatternBook : Nat → FieldType := fun k => match k with
  | 0 => (.array (.object "PatternBook$Format"))
  | 1 => .object "PatternBook$Datum"
  | 2 => .object "PatternBook$Wide"
  | 3 => .object "PatternBook$Wide"
  | 4 => .object "PatternBook$Datum"
  | _ => .object "PatternBook$Wide"
theorem n_PatternBook : ∀ a, a < 6 → ∀ b, b < 6 → a ≠ b → (F_PatternBook a).2.1 ≠ (F_PatternBook b).2.1 := by decide +kernel
theorem t_PatternBook_ok : ∀ k, k < 6 → parseFieldDescriptor (F_PatternBook k).2.2.1 = some (t_PatternBook k) := by decide +kernel
theorem i_PatternBook0 : ∀ w ∈ u_ws R_PatternBook F_PatternBook 6, w ∈ xtbl := by decide +kernel
theorem i_PatternBook1 : ∀ w ∈ u_ws R_PatternBook F_PatternBook 6, goodWord w = true := by decide +kernel
theorem i_PatternBook : ∀ w ∈ u_ws R_PatternBook F_PatternBook 6, w ∈ wt := fun w h => in_wt (i_PatternBook0 w h) (i_PatternBook1 w h)
def F_PatternBookModel : u_T := fun k => match k with
  | 0 => ("PatternBookModel", "code", "I", false)
  | 1 => ("PatternBookModel", "kind", "I", false)
  | 2 => ("PatternBookModel", "sign", "I", false)
  | 3 => ("PatternBookModel", "exponent", "I", false)
  | 4 => ("PatternBookModel", "word", "[J", true)
  | 5 => ("PatternBookModel", "high", "J", false)
  | 6 => ("PatternBookModel", "low", "J", false)
  | 7 => ("PatternBookModel", "lookHigh", "J", false)
  | 8 => ("PatternBookModel", "lookLow", "J", false)
  | 9 => ("PatternBookModel", "spelled", "[I", true)
  | _ => ("PatternBookModel", "made", "[I", true)
def t_PatternBookModel : Nat → FieldType := fun k => match k with
  | 0 => .int
  | 1 => .int
  | 2 => .int
  | 3 => .int
  | 4 => (.array .long)
  | 5 => .long
  | 6 => .long
  | 7 => .long
  | 8 => .long
  | 9 => (.array .int)
  | _ => (.array .int)
theorem n_PatternBookModel : ∀ a, a < 11 → ∀ b, b < 11 → a ≠ b → (F_PatternBookModel a).2.1 ≠ (F_PatternBookModel b).2.1 := by decide +kernel
theorem t_PatternBookModel_ok : ∀ k, k < 11 → parseFieldDescriptor (F_PatternBookModel k).2.2.1 = some (t_PatternBookModel k) := by decide +kernel
theorem i_PatternBookModel0 : ∀ w ∈ u_ws R_PatternBookModel F_PatternBookModel 11, w ∈ xtbl := by decide +kernel
theorem i_PatternBookModel1 : ∀ w ∈ u_ws R_PatternBookModel F_PatternBookModel 11, goodWord w = true := by decide +kernel
theorem i_PatternBookModel : ∀ w ∈ u_ws R_PatternBookModel F_PatternBookModel 11, w ∈ wt := fun w h => in_wt (i_PatternBookModel0 w h) (i_PatternBookModel1 w h)
abbrev classes : List vw_C := [(R_PatternBook_Wide, F_PatternBook_Wide, 2), (R_PatternBook_Datum, F_PatternBook_Datum, 4), (R_PatternBook_Binary, F_PatternBook_Binary, 7), (R_PatternBook_PlainDecimal, F_PatternBook_PlainDecimal, 9), (R_PatternBook_DecletDecimal, F_PatternBook_DecletDecimal, 11), (R_PatternBook, F_PatternBook, 6), (R_PatternBookModel, F_PatternBookModel, 11)]
