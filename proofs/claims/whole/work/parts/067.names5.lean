def R_java_lang_IndexOutOfBoundsException : String := "java/lang/IndexOutOfBoundsException"
def R_PatternBookLaw : String := "PatternBookLaw"
abbrev b_PatternBookLaw_unpack : ByteArray := method_3_code
def y_PatternBookLaw_unpack : MethodName := ⟨R_PatternBookLaw, "unpack", "(LPatternBook;IJJ[J)I"⟩
abbrev b_PatternBookLaw_canonical : ByteArray := method_4_code
def y_PatternBookLaw_canonical : MethodName := ⟨R_PatternBookLaw, "canonical", "(LPatternBook;IJJ[J)I"⟩
abbrev b_PatternBookLaw_pack : ByteArray := method_5_code
def y_PatternBookLaw_pack : MethodName := ⟨R_PatternBookLaw, "pack", "(LPatternBook;I[J)I"⟩
