theorem k_1 : Cond.constantLong R_java_lang_Long 168 (-9223372036854775808) ∈ wt := in_wt (List.mem_of_getElem? (i := 445) (by decide +kernel)) rfl
theorem k_2 : Cond.code y_java_lang_Long_compare b_java_lang_Long_compare 4 (some .int) ∈ wt := in_wt (List.mem_of_getElem? (i := 448) (by decide +kernel)) rfl
theorem k_3 : Cond.initialized R_java_lang_Long ∈ wt := in_wt (List.mem_of_getElem? (i := 49) (by decide +kernel)) rfl
theorem k_4 : Cond.methodLink R_java_lang_Long 302 y_java_lang_Long_compare ∈ wt := in_wt (List.mem_of_getElem? (i := 446) (by decide +kernel)) rfl
theorem k_5 : Cond.static y_java_lang_Long_compare ∈ wt := in_wt (List.mem_of_getElem? (i := 447) (by decide +kernel)) rfl
theorem k_6 : Cond.methodLink R_PatternBook_Wide 1 objectInit ∈ wt := in_wt (List.mem_of_getElem? (i := 117) (by decide +kernel)) rfl
theorem k_7 : Cond.instanceMethod objectInit ∈ wt := in_wt (List.mem_of_getElem? (i := 56) (by decide +kernel)) rfl
theorem k_8 : Cond.code objectInit ⟨#[0xb1]⟩ 1 none ∈ wt := in_wt (List.mem_of_getElem? (i := 57) (by decide +kernel)) rfl
theorem k_9 : Cond.fieldLink R_PatternBook_Wide 7 R_PatternBook_Wide "high" "J" ∈ wt := in_wt (List.mem_of_getElem? (i := 118) (by decide +kernel)) rfl
theorem k_10 : Cond.fieldLink R_PatternBook_Wide 13 R_PatternBook_Wide "low" "J" ∈ wt := in_wt (List.mem_of_getElem? (i := 119) (by decide +kernel)) rfl
theorem k_11 : Cond.code y_PatternBook_Wide_set b_PatternBook_Wide_set 5 none ∈ wt := in_wt (List.mem_of_getElem? (i := 244) (by decide +kernel)) rfl
theorem k_12 : Cond.initialized R_PatternBook_Wide ∈ wt := in_wt (List.mem_of_getElem? (i := 38) (by decide +kernel)) rfl
theorem k_13 : Cond.methodLink R_PatternBook_Wide 16 y_PatternBook_Wide_set ∈ wt := in_wt (List.mem_of_getElem? (i := 402) (by decide +kernel)) rfl
theorem k_14 : Cond.instanceMethod y_PatternBook_Wide_set ∈ wt := in_wt (List.mem_of_getElem? (i := 242) (by decide +kernel)) rfl
theorem k_15 : Cond.selects R_PatternBook_Wide y_PatternBook_Wide_set y_PatternBook_Wide_set ∈ wt := in_wt (List.mem_of_getElem? (i := 243) (by decide +kernel)) rfl
theorem k_16 : Cond.code y_java_lang_Long_compareUnsigned b_java_lang_Long_compareUnsigned 4 (some .int) ∈ wt := in_wt (List.mem_of_getElem? (i := 444) (by decide +kernel)) rfl
theorem k_17 : Cond.methodLink R_PatternBook_Wide 20 y_java_lang_Long_compareUnsigned ∈ wt := in_wt (List.mem_of_getElem? (i := 442) (by decide +kernel)) rfl
theorem k_18 : Cond.static y_java_lang_Long_compareUnsigned ∈ wt := in_wt (List.mem_of_getElem? (i := 443) (by decide +kernel)) rfl
theorem k_19 : Cond.code y_PatternBook_Wide_ones b_PatternBook_Wide_ones 1 (some .long) ∈ wt := in_wt (List.mem_of_getElem? (i := 71) (by decide +kernel)) rfl
theorem k_20 : Cond.methodLink R_PatternBook_Wide 26 y_PatternBook_Wide_ones ∈ wt := in_wt (List.mem_of_getElem? (i := 379) (by decide +kernel)) rfl
theorem k_21 : Cond.static y_PatternBook_Wide_ones ∈ wt := in_wt (List.mem_of_getElem? (i := 70) (by decide +kernel)) rfl
theorem k_22 : Cond.constantLong R_PatternBook_Wide 30 4294967295 ∈ wt := in_wt (List.mem_of_getElem? (i := 129) (by decide +kernel)) rfl
theorem k_23 : Cond.constantLong R_PatternBook_Wide 32 1000 ∈ wt := in_wt (List.mem_of_getElem? (i := 553) (by decide +kernel)) rfl
theorem k_24 : Cond.methodLink R_PatternBook_Datum 3 objectInit ∈ wt := in_wt (List.mem_of_getElem? (i := 187) (by decide +kernel)) rfl
theorem k_25 : Cond.fieldLink R_PatternBook_Datum 9 R_PatternBook_Datum "kind" "I" ∈ wt := in_wt (List.mem_of_getElem? (i := 190) (by decide +kernel)) rfl
theorem k_26 : Cond.fieldLink R_PatternBook_Datum 15 R_PatternBook_Datum "negative" "Z" ∈ wt := in_wt (List.mem_of_getElem? (i := 195) (by decide +kernel)) rfl
theorem k_27 : Cond.fieldLink R_PatternBook_Datum 19 R_PatternBook_Datum "exponent" "I" ∈ wt := in_wt (List.mem_of_getElem? (i := 198) (by decide +kernel)) rfl
theorem k_28 : Cond.classLink R_PatternBook_Datum 22 R_PatternBook_Wide ∈ wt := in_wt (List.mem_of_getElem? (i := 188) (by decide +kernel)) rfl
theorem k_29 : Cond.instantiable R_PatternBook_Wide 2 ∈ wt := in_wt (List.mem_of_getElem? (i := 113) (by decide +kernel)) rfl
theorem k_30 : Cond.code y_PatternBook_Wide_init b_PatternBook_Wide_init 1 none ∈ wt := in_wt (List.mem_of_getElem? (i := 116) (by decide +kernel)) rfl
theorem kn_1 : Cond.methodLinkNest R_PatternBook_Datum 24 y_PatternBook_Wide_init "PatternBook" ∈ nwL := in_nw (List.mem_of_getElem? (i := 189) (by decide +kernel)) rfl
theorem k_31 : Cond.instanceMethod y_PatternBook_Wide_init ∈ wt := in_wt (List.mem_of_getElem? (i := 115) (by decide +kernel)) rfl
theorem k_32 : Cond.fieldLink R_PatternBook_Datum 25 R_PatternBook_Datum "body" "LPatternBook$Wide;" ∈ wt := in_wt (List.mem_of_getElem? (i := 203) (by decide +kernel)) rfl
theorem k_33 : Cond.methodLink R_PatternBook_Datum 29 y_PatternBook_Wide_set ∈ wt := in_wt (List.mem_of_getElem? (i := 249) (by decide +kernel)) rfl
theorem k_34 : Cond.code y_PatternBook_Declet_join b_PatternBook_Declet_join 3 (some .int) ∈ wt := in_wt (List.mem_of_getElem? (i := 275) (by decide +kernel)) rfl
theorem k_35 : Cond.initialized R_PatternBook_Declet ∈ wt := in_wt (List.mem_of_getElem? (i := 48) (by decide +kernel)) rfl
theorem k_36 : Cond.methodLink R_PatternBook_Declet 9 y_PatternBook_Declet_join ∈ wt := in_wt (List.mem_of_getElem? (i := 273) (by decide +kernel)) rfl
theorem k_37 : Cond.static y_PatternBook_Declet_join ∈ wt := in_wt (List.mem_of_getElem? (i := 274) (by decide +kernel)) rfl
theorem k_38 : Cond.code y_PatternBook_Declet_readTwoLarge b_PatternBook_Declet_readTwoLarge 5 (some .int) ∈ wt := in_wt (List.mem_of_getElem? (i := 278) (by decide +kernel)) rfl
theorem k_39 : Cond.methodLink R_PatternBook_Declet 13 y_PatternBook_Declet_readTwoLarge ∈ wt := in_wt (List.mem_of_getElem? (i := 276) (by decide +kernel)) rfl
theorem k_40 : Cond.static y_PatternBook_Declet_readTwoLarge ∈ wt := in_wt (List.mem_of_getElem? (i := 277) (by decide +kernel)) rfl
theorem k_41 : Cond.code y_PatternBook_Declet_bits b_PatternBook_Declet_bits 3 (some .int) ∈ wt := in_wt (List.mem_of_getElem? (i := 288) (by decide +kernel)) rfl
theorem k_42 : Cond.methodLink R_PatternBook_Declet 16 y_PatternBook_Declet_bits ∈ wt := in_wt (List.mem_of_getElem? (i := 286) (by decide +kernel)) rfl
theorem k_43 : Cond.static y_PatternBook_Declet_bits ∈ wt := in_wt (List.mem_of_getElem? (i := 287) (by decide +kernel)) rfl
theorem kn_2 : Cond.fieldLinkNest R_PatternBook_Binary 28 R_PatternBook_Datum "body" "LPatternBook$Wide;" "PatternBook" ∈ nwL := in_nw (List.mem_of_getElem? (i := 204) (by decide +kernel)) rfl
theorem k_44 : Cond.fieldLink R_PatternBook_Binary 9 R_PatternBook_Binary "tailBits" "I" ∈ wt := in_wt (List.mem_of_getElem? (i := 72) (by decide +kernel)) rfl
theorem k_45 : Cond.code y_PatternBook_Wide_fits b_PatternBook_Wide_fits 2 (some .boolean) ∈ wt := in_wt (List.mem_of_getElem? (i := 513) (by decide +kernel)) rfl
theorem k_46 : Cond.methodLink R_PatternBook_Binary 34 y_PatternBook_Wide_fits ∈ wt := in_wt (List.mem_of_getElem? (i := 510) (by decide +kernel)) rfl
theorem k_47 : Cond.instanceMethod y_PatternBook_Wide_fits ∈ wt := in_wt (List.mem_of_getElem? (i := 511) (by decide +kernel)) rfl
theorem k_48 : Cond.selects R_PatternBook_Wide y_PatternBook_Wide_fits y_PatternBook_Wide_fits ∈ wt := in_wt (List.mem_of_getElem? (i := 512) (by decide +kernel)) rfl
theorem k_49 : Cond.sameField R_PatternBook_Binary R_PatternBook_Format "places" "I" ∈ wt := in_wt (List.mem_of_getElem? (i := 78) (by decide +kernel)) rfl
theorem k_50 : Cond.fieldLink R_PatternBook_Binary 44 R_PatternBook_Binary "places" "I" ∈ wt := in_wt (List.mem_of_getElem? (i := 77) (by decide +kernel)) rfl
theorem kn_3 : Cond.fieldLinkNest R_PatternBook_Binary 38 R_PatternBook_Datum "exponent" "I" "PatternBook" ∈ nwL := in_nw (List.mem_of_getElem? (i := 199) (by decide +kernel)) rfl
theorem k_51 : Cond.sameField R_PatternBook_Binary R_PatternBook_Format "leastExponent" "I" ∈ wt := in_wt (List.mem_of_getElem? (i := 81) (by decide +kernel)) rfl
theorem k_52 : Cond.fieldLink R_PatternBook_Binary 41 R_PatternBook_Binary "leastExponent" "I" ∈ wt := in_wt (List.mem_of_getElem? (i := 80) (by decide +kernel)) rfl
theorem kn_4 : Cond.fieldLinkNest R_PatternBook_Binary 47 R_PatternBook_Datum "kind" "I" "PatternBook" ∈ nwL := in_nw (List.mem_of_getElem? (i := 192) (by decide +kernel)) rfl
theorem k_53 : Cond.code y_PatternBook_Wide_isZero b_PatternBook_Wide_isZero 1 (some .boolean) ∈ wt := in_wt (List.mem_of_getElem? (i := 411) (by decide +kernel)) rfl
theorem k_54 : Cond.methodLink R_PatternBook_Binary 50 y_PatternBook_Wide_isZero ∈ wt := in_wt (List.mem_of_getElem? (i := 408) (by decide +kernel)) rfl
theorem k_55 : Cond.instanceMethod y_PatternBook_Wide_isZero ∈ wt := in_wt (List.mem_of_getElem? (i := 409) (by decide +kernel)) rfl
theorem k_56 : Cond.selects R_PatternBook_Wide y_PatternBook_Wide_isZero y_PatternBook_Wide_isZero ∈ wt := in_wt (List.mem_of_getElem? (i := 410) (by decide +kernel)) rfl
theorem k_57 : Cond.code y_PatternBook_Wide_bitsAt b_PatternBook_Wide_bitsAt 5 (some .long) ∈ wt := in_wt (List.mem_of_getElem? (i := 390) (by decide +kernel)) rfl
theorem k_58 : Cond.methodLink R_PatternBook_Binary 54 y_PatternBook_Wide_bitsAt ∈ wt := in_wt (List.mem_of_getElem? (i := 397) (by decide +kernel)) rfl
theorem k_59 : Cond.instanceMethod y_PatternBook_Wide_bitsAt ∈ wt := in_wt (List.mem_of_getElem? (i := 388) (by decide +kernel)) rfl
theorem k_60 : Cond.selects R_PatternBook_Wide y_PatternBook_Wide_bitsAt y_PatternBook_Wide_bitsAt ∈ wt := in_wt (List.mem_of_getElem? (i := 389) (by decide +kernel)) rfl
theorem k_61 : Cond.code y_PatternBook_Wide_keepLowest b_PatternBook_Wide_keepLowest 2 none ∈ wt := in_wt (List.mem_of_getElem? (i := 378) (by decide +kernel)) rfl
theorem k_62 : Cond.methodLink R_PatternBook_Binary 62 y_PatternBook_Wide_keepLowest ∈ wt := in_wt (List.mem_of_getElem? (i := 403) (by decide +kernel)) rfl
theorem k_63 : Cond.instanceMethod y_PatternBook_Wide_keepLowest ∈ wt := in_wt (List.mem_of_getElem? (i := 376) (by decide +kernel)) rfl
theorem k_64 : Cond.selects R_PatternBook_Wide y_PatternBook_Wide_keepLowest y_PatternBook_Wide_keepLowest ∈ wt := in_wt (List.mem_of_getElem? (i := 377) (by decide +kernel)) rfl
theorem k_65 : Cond.code y_PatternBook_Datum_become b_PatternBook_Datum_become 3 none ∈ wt := in_wt (List.mem_of_getElem? (i := 248) (by decide +kernel)) rfl
theorem k_66 : Cond.initialized R_PatternBook_Datum ∈ wt := in_wt (List.mem_of_getElem? (i := 42) (by decide +kernel)) rfl
theorem k_67 : Cond.methodLink R_PatternBook_Binary 70 y_PatternBook_Datum_become ∈ wt := in_wt (List.mem_of_getElem? (i := 412) (by decide +kernel)) rfl
theorem k_68 : Cond.instanceMethod y_PatternBook_Datum_become ∈ wt := in_wt (List.mem_of_getElem? (i := 246) (by decide +kernel)) rfl
theorem k_69 : Cond.selects R_PatternBook_Datum y_PatternBook_Datum_become y_PatternBook_Datum_become ∈ wt := in_wt (List.mem_of_getElem? (i := 247) (by decide +kernel)) rfl
theorem k_70 : Cond.fieldLink R_PatternBook_Binary 15 R_PatternBook_Binary "fieldBits" "I" ∈ wt := in_wt (List.mem_of_getElem? (i := 73) (by decide +kernel)) rfl
theorem k_71 : Cond.code y_PatternBook_Wide_copy b_PatternBook_Wide_copy 2 none ∈ wt := in_wt (List.mem_of_getElem? (i := 401) (by decide +kernel)) rfl
theorem k_72 : Cond.methodLink R_PatternBook_Binary 58 y_PatternBook_Wide_copy ∈ wt := in_wt (List.mem_of_getElem? (i := 398) (by decide +kernel)) rfl
theorem k_73 : Cond.instanceMethod y_PatternBook_Wide_copy ∈ wt := in_wt (List.mem_of_getElem? (i := 399) (by decide +kernel)) rfl
theorem k_74 : Cond.selects R_PatternBook_Wide y_PatternBook_Wide_copy y_PatternBook_Wide_copy ∈ wt := in_wt (List.mem_of_getElem? (i := 400) (by decide +kernel)) rfl
theorem k_75 : Cond.fieldLink R_PatternBook_Binary 24 R_PatternBook_Binary "fullField" "J" ∈ wt := in_wt (List.mem_of_getElem? (i := 74) (by decide +kernel)) rfl
theorem k_76 : Cond.code y_PatternBook_Wide_addBits b_PatternBook_Wide_addBits 4 none ∈ wt := in_wt (List.mem_of_getElem? (i := 416) (by decide +kernel)) rfl
theorem k_77 : Cond.methodLink R_PatternBook_Binary 74 y_PatternBook_Wide_addBits ∈ wt := in_wt (List.mem_of_getElem? (i := 413) (by decide +kernel)) rfl
theorem k_78 : Cond.instanceMethod y_PatternBook_Wide_addBits ∈ wt := in_wt (List.mem_of_getElem? (i := 414) (by decide +kernel)) rfl
theorem k_79 : Cond.selects R_PatternBook_Wide y_PatternBook_Wide_addBits y_PatternBook_Wide_addBits ∈ wt := in_wt (List.mem_of_getElem? (i := 415) (by decide +kernel)) rfl
theorem k_80 : Cond.code y_PatternBook_Binary_readSpecial b_PatternBook_Binary_readSpecial 3 none ∈ wt := in_wt (List.mem_of_getElem? (i := 407) (by decide +kernel)) rfl
theorem k_81 : Cond.initialized R_PatternBook_Binary ∈ wt := in_wt (List.mem_of_getElem? (i := 37) (by decide +kernel)) rfl
theorem k_82 : Cond.methodLink R_PatternBook_Binary 66 y_PatternBook_Binary_readSpecial ∈ wt := in_wt (List.mem_of_getElem? (i := 404) (by decide +kernel)) rfl
theorem k_83 : Cond.instanceMethod y_PatternBook_Binary_readSpecial ∈ wt := in_wt (List.mem_of_getElem? (i := 406) (by decide +kernel)) rfl
theorem k_84 : Cond.selects R_PatternBook_Binary y_PatternBook_Binary_readSpecial y_PatternBook_Binary_readSpecial ∈ wt := in_wt (List.mem_of_getElem? (i := 7) (by decide +kernel)) rfl
theorem k_85 : Cond.code y_PatternBook_Binary_fieldOf b_PatternBook_Binary_fieldOf 2 (some .long) ∈ wt := in_wt (List.mem_of_getElem? (i := 538) (by decide +kernel)) rfl
theorem k_86 : Cond.methodLink R_PatternBook_Binary 78 y_PatternBook_Binary_fieldOf ∈ wt := in_wt (List.mem_of_getElem? (i := 535) (by decide +kernel)) rfl
theorem k_87 : Cond.instanceMethod y_PatternBook_Binary_fieldOf ∈ wt := in_wt (List.mem_of_getElem? (i := 537) (by decide +kernel)) rfl
theorem k_88 : Cond.selects R_PatternBook_Binary y_PatternBook_Binary_fieldOf y_PatternBook_Binary_fieldOf ∈ wt := in_wt (List.mem_of_getElem? (i := 8) (by decide +kernel)) rfl
theorem kn_5 : Cond.fieldLinkNest R_PatternBook_Format 60 R_PatternBook_Datum "kind" "I" "PatternBook" ∈ nwL := in_nw (List.mem_of_getElem? (i := 193) (by decide +kernel)) rfl
theorem kn_6 : Cond.fieldLinkNest R_PatternBook_Format 63 R_PatternBook_Datum "exponent" "I" "PatternBook" ∈ nwL := in_nw (List.mem_of_getElem? (i := 200) (by decide +kernel)) rfl
theorem k_89 : Cond.fieldLink R_PatternBook_Format 18 R_PatternBook_Format "leastExponent" "I" ∈ wt := in_wt (List.mem_of_getElem? (i := 79) (by decide +kernel)) rfl
theorem k_90 : Cond.fieldLink R_PatternBook_Format 21 R_PatternBook_Format "greatestExponent" "I" ∈ wt := in_wt (List.mem_of_getElem? (i := 84) (by decide +kernel)) rfl
theorem k_91 : Cond.code y_PatternBook_Binary_hasNumber b_PatternBook_Binary_hasNumber 2 (some .boolean) ∈ wt := in_wt (List.mem_of_getElem? (i := 509) (by decide +kernel)) rfl
theorem kn_7 : Cond.declares ⟨R_PatternBook_Format, "hasNumber", "(LPatternBook$Datum;)Z"⟩ ∈ nwL := in_nw (List.mem_of_getElem? (i := 505) (by decide +kernel)) rfl
theorem k_92 : Cond.methodLink R_PatternBook_Format 66 ⟨R_PatternBook_Format, "hasNumber", "(LPatternBook$Datum;)Z"⟩ ∈ wt := in_wt (List.mem_of_getElem? (i := 504) (by decide +kernel)) rfl
theorem k_93 : Cond.sameMethod R_PatternBook_Format R_PatternBook_Format "hasNumber" "(LPatternBook$Datum;)Z" ∈ wt := in_wt (List.mem_of_getElem? (i := 506) (by decide +kernel)) rfl
theorem k_94 : Cond.selects R_PatternBook_Binary ⟨R_PatternBook_Format, "hasNumber", "(LPatternBook$Datum;)Z"⟩ y_PatternBook_Binary_hasNumber ∈ wt := in_wt (List.mem_of_getElem? (i := 507) (by decide +kernel)) rfl
theorem k_95 : Cond.instanceMethod y_PatternBook_Binary_hasNumber ∈ wt := in_wt (List.mem_of_getElem? (i := 508) (by decide +kernel)) rfl
theorem k_96 : Cond.code y_PatternBook_Binary_hasNan b_PatternBook_Binary_hasNan 3 (some .boolean) ∈ wt := in_wt (List.mem_of_getElem? (i := 524) (by decide +kernel)) rfl
theorem kn_8 : Cond.declares ⟨R_PatternBook_Format, "hasNan", "(LPatternBook$Datum;)Z"⟩ ∈ nwL := in_nw (List.mem_of_getElem? (i := 520) (by decide +kernel)) rfl
theorem k_97 : Cond.methodLink R_PatternBook_Format 69 ⟨R_PatternBook_Format, "hasNan", "(LPatternBook$Datum;)Z"⟩ ∈ wt := in_wt (List.mem_of_getElem? (i := 519) (by decide +kernel)) rfl
theorem k_98 : Cond.sameMethod R_PatternBook_Format R_PatternBook_Format "hasNan" "(LPatternBook$Datum;)Z" ∈ wt := in_wt (List.mem_of_getElem? (i := 521) (by decide +kernel)) rfl
theorem k_99 : Cond.selects R_PatternBook_Binary ⟨R_PatternBook_Format, "hasNan", "(LPatternBook$Datum;)Z"⟩ y_PatternBook_Binary_hasNan ∈ wt := in_wt (List.mem_of_getElem? (i := 522) (by decide +kernel)) rfl
theorem k_100 : Cond.instanceMethod y_PatternBook_Binary_hasNan ∈ wt := in_wt (List.mem_of_getElem? (i := 523) (by decide +kernel)) rfl
theorem k_101 : Cond.methodLink R_PatternBook_Format 24 y_PatternBook_Wide_set ∈ wt := in_wt (List.mem_of_getElem? (i := 374) (by decide +kernel)) rfl
theorem k_102 : Cond.fieldLink R_PatternBook_Format 9 R_PatternBook_Format "bits" "I" ∈ wt := in_wt (List.mem_of_getElem? (i := 75) (by decide +kernel)) rfl
theorem k_103 : Cond.methodLink R_PatternBook_Format 30 y_PatternBook_Wide_keepLowest ∈ wt := in_wt (List.mem_of_getElem? (i := 375) (by decide +kernel)) rfl
theorem k_104 : Cond.methodLink R_PatternBook_Format 34 y_PatternBook_Wide_bitsAt ∈ wt := in_wt (List.mem_of_getElem? (i := 387) (by decide +kernel)) rfl
theorem kn_9 : Cond.fieldLinkNest R_PatternBook_Format 38 R_PatternBook_Datum "negative" "Z" "PatternBook" ∈ nwL := in_nw (List.mem_of_getElem? (i := 196) (by decide +kernel)) rfl
theorem k_105 : Cond.code y_PatternBook_Binary_readUnsigned b_PatternBook_Binary_readUnsigned 5 none ∈ wt := in_wt (List.mem_of_getElem? (i := 396) (by decide +kernel)) rfl
theorem kn_10 : Cond.declares ⟨R_PatternBook_Format, "readUnsigned", "(LPatternBook$Wide;LPatternBook$Datum;)V"⟩ ∈ nwL := in_nw (List.mem_of_getElem? (i := 392) (by decide +kernel)) rfl
theorem k_106 : Cond.methodLink R_PatternBook_Format 44 ⟨R_PatternBook_Format, "readUnsigned", "(LPatternBook$Wide;LPatternBook$Datum;)V"⟩ ∈ wt := in_wt (List.mem_of_getElem? (i := 391) (by decide +kernel)) rfl
theorem k_107 : Cond.sameMethod R_PatternBook_Format R_PatternBook_Format "readUnsigned" "(LPatternBook$Wide;LPatternBook$Datum;)V" ∈ wt := in_wt (List.mem_of_getElem? (i := 393) (by decide +kernel)) rfl
theorem k_108 : Cond.selects R_PatternBook_Binary ⟨R_PatternBook_Format, "readUnsigned", "(LPatternBook$Wide;LPatternBook$Datum;)V"⟩ y_PatternBook_Binary_readUnsigned ∈ wt := in_wt (List.mem_of_getElem? (i := 394) (by decide +kernel)) rfl
theorem k_109 : Cond.instanceMethod y_PatternBook_Binary_readUnsigned ∈ wt := in_wt (List.mem_of_getElem? (i := 395) (by decide +kernel)) rfl
theorem k_110 : Cond.code y_PatternBook_Format_has b_PatternBook_Format_has 2 (some .boolean) ∈ wt := in_wt (List.mem_of_getElem? (i := 503) (by decide +kernel)) rfl
theorem k_111 : Cond.initialized R_PatternBook_Format ∈ wt := in_wt (List.mem_of_getElem? (i := 36) (by decide +kernel)) rfl
theorem k_112 : Cond.methodLink R_PatternBook_Format 48 y_PatternBook_Format_has ∈ wt := in_wt (List.mem_of_getElem? (i := 500) (by decide +kernel)) rfl
theorem k_113 : Cond.instanceMethod y_PatternBook_Format_has ∈ wt := in_wt (List.mem_of_getElem? (i := 502) (by decide +kernel)) rfl
theorem k_114 : Cond.selects R_PatternBook_Binary y_PatternBook_Format_has y_PatternBook_Format_has ∈ wt := in_wt (List.mem_of_getElem? (i := 0) (by decide +kernel)) rfl
theorem k_115 : Cond.code y_PatternBook_Binary_writeUnsigned b_PatternBook_Binary_writeUnsigned 3 none ∈ wt := in_wt (List.mem_of_getElem? (i := 534) (by decide +kernel)) rfl
theorem kn_11 : Cond.declares ⟨R_PatternBook_Format, "writeUnsigned", "(LPatternBook$Datum;LPatternBook$Wide;)V"⟩ ∈ nwL := in_nw (List.mem_of_getElem? (i := 530) (by decide +kernel)) rfl
theorem k_116 : Cond.methodLink R_PatternBook_Format 52 ⟨R_PatternBook_Format, "writeUnsigned", "(LPatternBook$Datum;LPatternBook$Wide;)V"⟩ ∈ wt := in_wt (List.mem_of_getElem? (i := 529) (by decide +kernel)) rfl
theorem k_117 : Cond.sameMethod R_PatternBook_Format R_PatternBook_Format "writeUnsigned" "(LPatternBook$Datum;LPatternBook$Wide;)V" ∈ wt := in_wt (List.mem_of_getElem? (i := 531) (by decide +kernel)) rfl
theorem k_118 : Cond.selects R_PatternBook_Binary ⟨R_PatternBook_Format, "writeUnsigned", "(LPatternBook$Datum;LPatternBook$Wide;)V"⟩ y_PatternBook_Binary_writeUnsigned ∈ wt := in_wt (List.mem_of_getElem? (i := 532) (by decide +kernel)) rfl
theorem k_119 : Cond.instanceMethod y_PatternBook_Binary_writeUnsigned ∈ wt := in_wt (List.mem_of_getElem? (i := 533) (by decide +kernel)) rfl
theorem k_120 : Cond.methodLink R_PatternBook_Format 56 y_PatternBook_Wide_addBits ∈ wt := in_wt (List.mem_of_getElem? (i := 579) (by decide +kernel)) rfl
theorem k_121 : Cond.fieldLink R_PatternBook_Decimal 18 R_PatternBook_Decimal "headBits" "I" ∈ wt := in_wt (List.mem_of_getElem? (i := 138) (by decide +kernel)) rfl
theorem k_122 : Cond.constantLong R_PatternBook_Decimal 100 3 ∈ wt := in_wt (List.mem_of_getElem? (i := 464) (by decide +kernel)) rfl
theorem k_123 : Cond.code y_PatternBook_Decimal_beginsWithOnes b_PatternBook_Decimal_beginsWithOnes 3 (some .boolean) ∈ wt := in_wt (List.mem_of_getElem? (i := 463) (by decide +kernel)) rfl
theorem k_124 : Cond.initialized R_PatternBook_Decimal ∈ wt := in_wt (List.mem_of_getElem? (i := 39) (by decide +kernel)) rfl
theorem k_125 : Cond.instanceMethod y_PatternBook_Decimal_beginsWithOnes ∈ wt := in_wt (List.mem_of_getElem? (i := 462) (by decide +kernel)) rfl
theorem k_126 : Cond.methodLink R_PatternBook_PlainDecimal 7 ⟨R_PatternBook_PlainDecimal, "beginsWithOnes", "(J)Z"⟩ ∈ wt := in_wt (List.mem_of_getElem? (i := 469) (by decide +kernel)) rfl
theorem k_127 : Cond.sameMethod R_PatternBook_PlainDecimal R_PatternBook_Decimal "beginsWithOnes" "(J)Z" ∈ wt := in_wt (List.mem_of_getElem? (i := 470) (by decide +kernel)) rfl
theorem k_128 : Cond.selects R_PatternBook_PlainDecimal ⟨R_PatternBook_PlainDecimal, "beginsWithOnes", "(J)Z"⟩ y_PatternBook_Decimal_beginsWithOnes ∈ wt := in_wt (List.mem_of_getElem? (i := 471) (by decide +kernel)) rfl
theorem k_129 : Cond.sameField R_PatternBook_PlainDecimal R_PatternBook_Decimal "headBits" "I" ∈ wt := in_wt (List.mem_of_getElem? (i := 140) (by decide +kernel)) rfl
theorem k_130 : Cond.fieldLink R_PatternBook_PlainDecimal 13 R_PatternBook_PlainDecimal "headBits" "I" ∈ wt := in_wt (List.mem_of_getElem? (i := 139) (by decide +kernel)) rfl
theorem k_131 : Cond.methodLink R_PatternBook_PlainDecimal 17 y_PatternBook_Wide_ones ∈ wt := in_wt (List.mem_of_getElem? (i := 484) (by decide +kernel)) rfl
theorem k_132 : Cond.constantLong R_PatternBook_PlainDecimal 23 7 ∈ wt := in_wt (List.mem_of_getElem? (i := 472) (by decide +kernel)) rfl
theorem k_133 : Cond.constantLong R_PatternBook_PlainDecimal 25 3 ∈ wt := in_wt (List.mem_of_getElem? (i := 575) (by decide +kernel)) rfl
theorem kn_12 : Cond.fieldLinkNest R_PatternBook_Decimal 41 R_PatternBook_Datum "body" "LPatternBook$Wide;" "PatternBook" ∈ nwL := in_nw (List.mem_of_getElem? (i := 205) (by decide +kernel)) rfl
theorem k_134 : Cond.fieldLink R_PatternBook_Decimal 25 R_PatternBook_Decimal "mostNumber" "LPatternBook$Wide;" ∈ wt := in_wt (List.mem_of_getElem? (i := 141) (by decide +kernel)) rfl
theorem k_135 : Cond.code y_PatternBook_Wide_isAbove b_PatternBook_Wide_isAbove 2 (some .boolean) ∈ wt := in_wt (List.mem_of_getElem? (i := 441) (by decide +kernel)) rfl
theorem k_136 : Cond.methodLink R_PatternBook_Decimal 46 y_PatternBook_Wide_isAbove ∈ wt := in_wt (List.mem_of_getElem? (i := 517) (by decide +kernel)) rfl
theorem k_137 : Cond.instanceMethod y_PatternBook_Wide_isAbove ∈ wt := in_wt (List.mem_of_getElem? (i := 439) (by decide +kernel)) rfl
theorem k_138 : Cond.selects R_PatternBook_Wide y_PatternBook_Wide_isAbove y_PatternBook_Wide_isAbove ∈ wt := in_wt (List.mem_of_getElem? (i := 440) (by decide +kernel)) rfl
theorem k_139 : Cond.fieldLink R_PatternBook_Decimal 29 R_PatternBook_Decimal "mostPayload" "LPatternBook$Wide;" ∈ wt := in_wt (List.mem_of_getElem? (i := 142) (by decide +kernel)) rfl
theorem kn_13 : Cond.fieldLinkNest R_PatternBook_Decimal 88 R_PatternBook_Datum "kind" "I" "PatternBook" ∈ nwL := in_nw (List.mem_of_getElem? (i := 194) (by decide +kernel)) rfl
theorem kn_14 : Cond.fieldLinkNest R_PatternBook_Decimal 91 R_PatternBook_Datum "exponent" "I" "PatternBook" ∈ nwL := in_nw (List.mem_of_getElem? (i := 201) (by decide +kernel)) rfl
theorem k_140 : Cond.sameField R_PatternBook_Decimal R_PatternBook_Format "leastExponent" "I" ∈ wt := in_wt (List.mem_of_getElem? (i := 83) (by decide +kernel)) rfl
theorem k_141 : Cond.fieldLink R_PatternBook_Decimal 73 R_PatternBook_Decimal "leastExponent" "I" ∈ wt := in_wt (List.mem_of_getElem? (i := 82) (by decide +kernel)) rfl
theorem k_142 : Cond.code y_PatternBook_PlainDecimal_headOf b_PatternBook_PlainDecimal_headOf 4 (some .long) ∈ wt := in_wt (List.mem_of_getElem? (i := 574) (by decide +kernel)) rfl
theorem k_143 : Cond.initialized R_PatternBook_PlainDecimal ∈ wt := in_wt (List.mem_of_getElem? (i := 40) (by decide +kernel)) rfl
theorem kn_15 : Cond.declares ⟨R_PatternBook_Decimal, "headOf", "(JI)J"⟩ ∈ nwL := in_nw (List.mem_of_getElem? (i := 566) (by decide +kernel)) rfl
theorem k_144 : Cond.methodLink R_PatternBook_Decimal 94 ⟨R_PatternBook_Decimal, "headOf", "(JI)J"⟩ ∈ wt := in_wt (List.mem_of_getElem? (i := 565) (by decide +kernel)) rfl
theorem k_145 : Cond.sameMethod R_PatternBook_Decimal R_PatternBook_Decimal "headOf" "(JI)J" ∈ wt := in_wt (List.mem_of_getElem? (i := 567) (by decide +kernel)) rfl
theorem k_146 : Cond.selects R_PatternBook_PlainDecimal ⟨R_PatternBook_Decimal, "headOf", "(JI)J"⟩ y_PatternBook_PlainDecimal_headOf ∈ wt := in_wt (List.mem_of_getElem? (i := 572) (by decide +kernel)) rfl
theorem k_147 : Cond.instanceMethod y_PatternBook_PlainDecimal_headOf ∈ wt := in_wt (List.mem_of_getElem? (i := 573) (by decide +kernel)) rfl
theorem k_148 : Cond.constantLong R_PatternBook_Decimal 63 30 ∈ wt := in_wt (List.mem_of_getElem? (i := 451) (by decide +kernel)) rfl
theorem k_149 : Cond.constantLong R_PatternBook_Decimal 54 31 ∈ wt := in_wt (List.mem_of_getElem? (i := 421) (by decide +kernel)) rfl
theorem k_150 : Cond.constantLong R_PatternBook_Decimal 98 63 ∈ wt := in_wt (List.mem_of_getElem? (i := 576) (by decide +kernel)) rfl
theorem k_151 : Cond.methodLink R_PatternBook_PlainDecimal 27 y_PatternBook_Wide_copy ∈ wt := in_wt (List.mem_of_getElem? (i := 435) (by decide +kernel)) rfl
theorem k_152 : Cond.sameField R_PatternBook_PlainDecimal R_PatternBook_Decimal "tailBits" "I" ∈ wt := in_wt (List.mem_of_getElem? (i := 135) (by decide +kernel)) rfl
theorem k_153 : Cond.fieldLink R_PatternBook_PlainDecimal 31 R_PatternBook_PlainDecimal "tailBits" "I" ∈ wt := in_wt (List.mem_of_getElem? (i := 134) (by decide +kernel)) rfl
theorem k_154 : Cond.methodLink R_PatternBook_PlainDecimal 34 y_PatternBook_Wide_keepLowest ∈ wt := in_wt (List.mem_of_getElem? (i := 436) (by decide +kernel)) rfl
theorem k_155 : Cond.methodLink R_PatternBook_PlainDecimal 38 y_PatternBook_Wide_addBits ∈ wt := in_wt (List.mem_of_getElem? (i := 437) (by decide +kernel)) rfl
theorem k_156 : Cond.methodLink R_PatternBook_PlainDecimal 42 y_PatternBook_Wide_isAbove ∈ wt := in_wt (List.mem_of_getElem? (i := 438) (by decide +kernel)) rfl
theorem k_157 : Cond.methodLink R_PatternBook_PlainDecimal 46 y_PatternBook_Wide_set ∈ wt := in_wt (List.mem_of_getElem? (i := 449) (by decide +kernel)) rfl
theorem k_158 : Cond.methodLink R_PatternBook_PlainDecimal 50 y_PatternBook_Wide_bitsAt ∈ wt := in_wt (List.mem_of_getElem? (i := 560) (by decide +kernel)) rfl
theorem k_159 : Cond.fieldLink R_PatternBook_Decimal 15 R_PatternBook_Decimal "tailBits" "I" ∈ wt := in_wt (List.mem_of_getElem? (i := 133) (by decide +kernel)) rfl
theorem k_160 : Cond.methodLink R_PatternBook_Decimal 50 y_PatternBook_Wide_bitsAt ∈ wt := in_wt (List.mem_of_getElem? (i := 420) (by decide +kernel)) rfl
theorem k_161 : Cond.code y_PatternBook_PlainDecimal_leadOf b_PatternBook_PlainDecimal_leadOf 3 (some .int) ∈ wt := in_wt (List.mem_of_getElem? (i := 468) (by decide +kernel)) rfl
theorem kn_16 : Cond.declares ⟨R_PatternBook_Decimal, "leadOf", "(J)I"⟩ ∈ nwL := in_nw (List.mem_of_getElem? (i := 453) (by decide +kernel)) rfl
theorem k_162 : Cond.methodLink R_PatternBook_Decimal 65 ⟨R_PatternBook_Decimal, "leadOf", "(J)I"⟩ ∈ wt := in_wt (List.mem_of_getElem? (i := 452) (by decide +kernel)) rfl
theorem k_163 : Cond.sameMethod R_PatternBook_Decimal R_PatternBook_Decimal "leadOf" "(J)I" ∈ wt := in_wt (List.mem_of_getElem? (i := 454) (by decide +kernel)) rfl
theorem k_164 : Cond.selects R_PatternBook_PlainDecimal ⟨R_PatternBook_Decimal, "leadOf", "(J)I"⟩ y_PatternBook_PlainDecimal_leadOf ∈ wt := in_wt (List.mem_of_getElem? (i := 466) (by decide +kernel)) rfl
theorem k_165 : Cond.instanceMethod y_PatternBook_PlainDecimal_leadOf ∈ wt := in_wt (List.mem_of_getElem? (i := 467) (by decide +kernel)) rfl
theorem k_166 : Cond.code y_PatternBook_PlainDecimal_readBody b_PatternBook_PlainDecimal_readBody 5 none ∈ wt := in_wt (List.mem_of_getElem? (i := 434) (by decide +kernel)) rfl
theorem kn_17 : Cond.declares ⟨R_PatternBook_Decimal, "readBody", "(ILPatternBook$Wide;LPatternBook$Wide;LPatternBook$Wide;)V"⟩ ∈ nwL := in_nw (List.mem_of_getElem? (i := 423) (by decide +kernel)) rfl
theorem k_167 : Cond.methodLink R_PatternBook_Decimal 56 ⟨R_PatternBook_Decimal, "readBody", "(ILPatternBook$Wide;LPatternBook$Wide;LPatternBook$Wide;)V"⟩ ∈ wt := in_wt (List.mem_of_getElem? (i := 422) (by decide +kernel)) rfl
theorem k_168 : Cond.sameMethod R_PatternBook_Decimal R_PatternBook_Decimal "readBody" "(ILPatternBook$Wide;LPatternBook$Wide;LPatternBook$Wide;)V" ∈ wt := in_wt (List.mem_of_getElem? (i := 424) (by decide +kernel)) rfl
theorem k_169 : Cond.selects R_PatternBook_PlainDecimal ⟨R_PatternBook_Decimal, "readBody", "(ILPatternBook$Wide;LPatternBook$Wide;LPatternBook$Wide;)V"⟩ y_PatternBook_PlainDecimal_readBody ∈ wt := in_wt (List.mem_of_getElem? (i := 432) (by decide +kernel)) rfl
theorem k_170 : Cond.instanceMethod y_PatternBook_PlainDecimal_readBody ∈ wt := in_wt (List.mem_of_getElem? (i := 433) (by decide +kernel)) rfl
theorem k_171 : Cond.code y_PatternBook_PlainDecimal_fieldOf b_PatternBook_PlainDecimal_fieldOf 3 (some .long) ∈ wt := in_wt (List.mem_of_getElem? (i := 483) (by decide +kernel)) rfl
theorem kn_18 : Cond.declares ⟨R_PatternBook_Decimal, "fieldOf", "(J)J"⟩ ∈ nwL := in_nw (List.mem_of_getElem? (i := 474) (by decide +kernel)) rfl
theorem k_172 : Cond.methodLink R_PatternBook_Decimal 69 ⟨R_PatternBook_Decimal, "fieldOf", "(J)J"⟩ ∈ wt := in_wt (List.mem_of_getElem? (i := 473) (by decide +kernel)) rfl
theorem k_173 : Cond.sameMethod R_PatternBook_Decimal R_PatternBook_Decimal "fieldOf" "(J)J" ∈ wt := in_wt (List.mem_of_getElem? (i := 475) (by decide +kernel)) rfl
theorem k_174 : Cond.selects R_PatternBook_PlainDecimal ⟨R_PatternBook_Decimal, "fieldOf", "(J)J"⟩ y_PatternBook_PlainDecimal_fieldOf ∈ wt := in_wt (List.mem_of_getElem? (i := 481) (by decide +kernel)) rfl
theorem k_175 : Cond.instanceMethod y_PatternBook_PlainDecimal_fieldOf ∈ wt := in_wt (List.mem_of_getElem? (i := 482) (by decide +kernel)) rfl
theorem k_176 : Cond.methodLink R_PatternBook_Decimal 60 y_PatternBook_Datum_become ∈ wt := in_wt (List.mem_of_getElem? (i := 450) (by decide +kernel)) rfl
theorem k_177 : Cond.code y_PatternBook_PlainDecimal_writeTail b_PatternBook_PlainDecimal_writeTail 3 (some .int) ∈ wt := in_wt (List.mem_of_getElem? (i := 559) (by decide +kernel)) rfl
theorem kn_19 : Cond.declares ⟨R_PatternBook_Decimal, "writeTail", "(LPatternBook$Wide;LPatternBook$Wide;)I"⟩ ∈ nwL := in_nw (List.mem_of_getElem? (i := 543) (by decide +kernel)) rfl
theorem k_178 : Cond.methodLink R_PatternBook_Decimal 76 ⟨R_PatternBook_Decimal, "writeTail", "(LPatternBook$Wide;LPatternBook$Wide;)I"⟩ ∈ wt := in_wt (List.mem_of_getElem? (i := 542) (by decide +kernel)) rfl
theorem k_179 : Cond.sameMethod R_PatternBook_Decimal R_PatternBook_Decimal "writeTail" "(LPatternBook$Wide;LPatternBook$Wide;)I" ∈ wt := in_wt (List.mem_of_getElem? (i := 544) (by decide +kernel)) rfl
theorem k_180 : Cond.selects R_PatternBook_PlainDecimal ⟨R_PatternBook_Decimal, "writeTail", "(LPatternBook$Wide;LPatternBook$Wide;)I"⟩ y_PatternBook_PlainDecimal_writeTail ∈ wt := in_wt (List.mem_of_getElem? (i := 557) (by decide +kernel)) rfl
theorem k_181 : Cond.instanceMethod y_PatternBook_PlainDecimal_writeTail ∈ wt := in_wt (List.mem_of_getElem? (i := 558) (by decide +kernel)) rfl
theorem k_182 : Cond.code y_PatternBook_Decimal_headFor b_PatternBook_Decimal_headFor 3 (some .long) ∈ wt := in_wt (List.mem_of_getElem? (i := 564) (by decide +kernel)) rfl
theorem k_183 : Cond.methodLink R_PatternBook_Decimal 80 y_PatternBook_Decimal_headFor ∈ wt := in_wt (List.mem_of_getElem? (i := 561) (by decide +kernel)) rfl
theorem k_184 : Cond.instanceMethod y_PatternBook_Decimal_headFor ∈ wt := in_wt (List.mem_of_getElem? (i := 563) (by decide +kernel)) rfl
theorem k_185 : Cond.selects R_PatternBook_PlainDecimal y_PatternBook_Decimal_headFor y_PatternBook_Decimal_headFor ∈ wt := in_wt (List.mem_of_getElem? (i := 3) (by decide +kernel)) rfl
theorem k_186 : Cond.methodLink R_PatternBook_Decimal 84 y_PatternBook_Wide_addBits ∈ wt := in_wt (List.mem_of_getElem? (i := 577) (by decide +kernel)) rfl
theorem k_187 : Cond.code y_PatternBook_Decimal_hasNumber b_PatternBook_Decimal_hasNumber 2 (some .boolean) ∈ wt := in_wt (List.mem_of_getElem? (i := 516) (by decide +kernel)) rfl
theorem k_188 : Cond.selects R_PatternBook_PlainDecimal ⟨R_PatternBook_Format, "hasNumber", "(LPatternBook$Datum;)Z"⟩ y_PatternBook_Decimal_hasNumber ∈ wt := in_wt (List.mem_of_getElem? (i := 518) (by decide +kernel)) rfl
theorem k_189 : Cond.instanceMethod y_PatternBook_Decimal_hasNumber ∈ wt := in_wt (List.mem_of_getElem? (i := 515) (by decide +kernel)) rfl
theorem k_190 : Cond.code y_PatternBook_Decimal_hasNan b_PatternBook_Decimal_hasNan 2 (some .boolean) ∈ wt := in_wt (List.mem_of_getElem? (i := 527) (by decide +kernel)) rfl
theorem k_191 : Cond.selects R_PatternBook_PlainDecimal ⟨R_PatternBook_Format, "hasNan", "(LPatternBook$Datum;)Z"⟩ y_PatternBook_Decimal_hasNan ∈ wt := in_wt (List.mem_of_getElem? (i := 528) (by decide +kernel)) rfl
theorem k_192 : Cond.instanceMethod y_PatternBook_Decimal_hasNan ∈ wt := in_wt (List.mem_of_getElem? (i := 526) (by decide +kernel)) rfl
theorem k_193 : Cond.code y_PatternBook_Decimal_readUnsigned b_PatternBook_Decimal_readUnsigned 8 none ∈ wt := in_wt (List.mem_of_getElem? (i := 419) (by decide +kernel)) rfl
theorem k_194 : Cond.selects R_PatternBook_PlainDecimal ⟨R_PatternBook_Format, "readUnsigned", "(LPatternBook$Wide;LPatternBook$Datum;)V"⟩ y_PatternBook_Decimal_readUnsigned ∈ wt := in_wt (List.mem_of_getElem? (i := 485) (by decide +kernel)) rfl
theorem k_195 : Cond.instanceMethod y_PatternBook_Decimal_readUnsigned ∈ wt := in_wt (List.mem_of_getElem? (i := 418) (by decide +kernel)) rfl
theorem k_196 : Cond.selects R_PatternBook_PlainDecimal y_PatternBook_Format_has y_PatternBook_Format_has ∈ wt := in_wt (List.mem_of_getElem? (i := 1) (by decide +kernel)) rfl
theorem k_197 : Cond.code y_PatternBook_Decimal_writeUnsigned b_PatternBook_Decimal_writeUnsigned 4 none ∈ wt := in_wt (List.mem_of_getElem? (i := 541) (by decide +kernel)) rfl
theorem k_198 : Cond.selects R_PatternBook_PlainDecimal ⟨R_PatternBook_Format, "writeUnsigned", "(LPatternBook$Datum;LPatternBook$Wide;)V"⟩ y_PatternBook_Decimal_writeUnsigned ∈ wt := in_wt (List.mem_of_getElem? (i := 578) (by decide +kernel)) rfl
theorem k_199 : Cond.instanceMethod y_PatternBook_Decimal_writeUnsigned ∈ wt := in_wt (List.mem_of_getElem? (i := 540) (by decide +kernel)) rfl
theorem k_200 : Cond.methodLink R_PatternBook_DecletDecimal 25 ⟨R_PatternBook_DecletDecimal, "beginsWithOnes", "(J)Z"⟩ ∈ wt := in_wt (List.mem_of_getElem? (i := 458) (by decide +kernel)) rfl
theorem k_201 : Cond.sameMethod R_PatternBook_DecletDecimal R_PatternBook_Decimal "beginsWithOnes" "(J)Z" ∈ wt := in_wt (List.mem_of_getElem? (i := 459) (by decide +kernel)) rfl
theorem k_202 : Cond.selects R_PatternBook_DecletDecimal ⟨R_PatternBook_DecletDecimal, "beginsWithOnes", "(J)Z"⟩ y_PatternBook_Decimal_beginsWithOnes ∈ wt := in_wt (List.mem_of_getElem? (i := 461) (by decide +kernel)) rfl
theorem k_203 : Cond.fieldLink R_PatternBook_DecletDecimal 13 R_PatternBook_DecletDecimal "restBits" "I" ∈ wt := in_wt (List.mem_of_getElem? (i := 166) (by decide +kernel)) rfl
theorem k_204 : Cond.methodLink R_PatternBook_DecletDecimal 31 y_PatternBook_Wide_ones ∈ wt := in_wt (List.mem_of_getElem? (i := 480) (by decide +kernel)) rfl
theorem k_205 : Cond.constantLong R_PatternBook_DecletDecimal 29 3 ∈ wt := in_wt (List.mem_of_getElem? (i := 479) (by decide +kernel)) rfl
theorem k_206 : Cond.constantLong R_PatternBook_DecletDecimal 35 7 ∈ wt := in_wt (List.mem_of_getElem? (i := 465) (by decide +kernel)) rfl
theorem k_207 : Cond.constantLong R_PatternBook_DecletDecimal 37 24 ∈ wt := in_wt (List.mem_of_getElem? (i := 571) (by decide +kernel)) rfl
theorem k_208 : Cond.code y_PatternBook_DecletDecimal_headOf b_PatternBook_DecletDecimal_headOf 8 (some .long) ∈ wt := in_wt (List.mem_of_getElem? (i := 570) (by decide +kernel)) rfl
theorem k_209 : Cond.initialized R_PatternBook_DecletDecimal ∈ wt := in_wt (List.mem_of_getElem? (i := 41) (by decide +kernel)) rfl
theorem k_210 : Cond.selects R_PatternBook_DecletDecimal ⟨R_PatternBook_Decimal, "headOf", "(JI)J"⟩ y_PatternBook_DecletDecimal_headOf ∈ wt := in_wt (List.mem_of_getElem? (i := 568) (by decide +kernel)) rfl
theorem k_211 : Cond.instanceMethod y_PatternBook_DecletDecimal_headOf ∈ wt := in_wt (List.mem_of_getElem? (i := 569) (by decide +kernel)) rfl
theorem k_212 : Cond.methodLink R_PatternBook_DecletDecimal 39 y_PatternBook_Wide_set ∈ wt := in_wt (List.mem_of_getElem? (i := 428) (by decide +kernel)) rfl
theorem k_213 : Cond.sameField R_PatternBook_DecletDecimal R_PatternBook_Decimal "declets" "I" ∈ wt := in_wt (List.mem_of_getElem? (i := 132) (by decide +kernel)) rfl
theorem k_214 : Cond.fieldLink R_PatternBook_DecletDecimal 43 R_PatternBook_DecletDecimal "declets" "I" ∈ wt := in_wt (List.mem_of_getElem? (i := 131) (by decide +kernel)) rfl
theorem k_215 : Cond.methodLink R_PatternBook_DecletDecimal 46 y_PatternBook_Wide_bitsAt ∈ wt := in_wt (List.mem_of_getElem? (i := 429) (by decide +kernel)) rfl
theorem k_216 : Cond.code y_PatternBook_Declet_read b_PatternBook_Declet_read 5 (some .int) ∈ wt := in_wt (List.mem_of_getElem? (i := 272) (by decide +kernel)) rfl
theorem k_217 : Cond.methodLink R_PatternBook_DecletDecimal 50 y_PatternBook_Declet_read ∈ wt := in_wt (List.mem_of_getElem? (i := 430) (by decide +kernel)) rfl
theorem k_218 : Cond.static y_PatternBook_Declet_read ∈ wt := in_wt (List.mem_of_getElem? (i := 271) (by decide +kernel)) rfl
theorem k_219 : Cond.code y_PatternBook_Wide_timesPlus b_PatternBook_Wide_timesPlus 11 none ∈ wt := in_wt (List.mem_of_getElem? (i := 128) (by decide +kernel)) rfl
theorem k_220 : Cond.methodLink R_PatternBook_DecletDecimal 56 y_PatternBook_Wide_timesPlus ∈ wt := in_wt (List.mem_of_getElem? (i := 431) (by decide +kernel)) rfl
theorem k_221 : Cond.instanceMethod y_PatternBook_Wide_timesPlus ∈ wt := in_wt (List.mem_of_getElem? (i := 126) (by decide +kernel)) rfl
theorem k_222 : Cond.selects R_PatternBook_Wide y_PatternBook_Wide_timesPlus y_PatternBook_Wide_timesPlus ∈ wt := in_wt (List.mem_of_getElem? (i := 127) (by decide +kernel)) rfl
theorem k_223 : Cond.fieldLink R_PatternBook_DecletDecimal 21 R_PatternBook_DecletDecimal "left" "LPatternBook$Wide;" ∈ wt := in_wt (List.mem_of_getElem? (i := 167) (by decide +kernel)) rfl
theorem k_224 : Cond.methodLink R_PatternBook_DecletDecimal 60 y_PatternBook_Wide_copy ∈ wt := in_wt (List.mem_of_getElem? (i := 548) (by decide +kernel)) rfl
theorem k_225 : Cond.code y_PatternBook_Wide_half b_PatternBook_Wide_half 2 (some .long) ∈ wt := in_wt (List.mem_of_getElem? (i := 257) (by decide +kernel)) rfl
theorem k_226 : Cond.methodLink R_PatternBook_DecletDecimal 75 y_PatternBook_Wide_half ∈ wt := in_wt (List.mem_of_getElem? (i := 556) (by decide +kernel)) rfl
theorem k_227 : Cond.instanceMethod y_PatternBook_Wide_half ∈ wt := in_wt (List.mem_of_getElem? (i := 255) (by decide +kernel)) rfl
theorem k_228 : Cond.selects R_PatternBook_Wide y_PatternBook_Wide_half y_PatternBook_Wide_half ∈ wt := in_wt (List.mem_of_getElem? (i := 256) (by decide +kernel)) rfl
theorem k_229 : Cond.code y_PatternBook_Wide_takeThreeDigits b_PatternBook_Wide_takeThreeDigits 9 (some .int) ∈ wt := in_wt (List.mem_of_getElem? (i := 552) (by decide +kernel)) rfl
theorem k_230 : Cond.methodLink R_PatternBook_DecletDecimal 64 y_PatternBook_Wide_takeThreeDigits ∈ wt := in_wt (List.mem_of_getElem? (i := 549) (by decide +kernel)) rfl
theorem k_231 : Cond.instanceMethod y_PatternBook_Wide_takeThreeDigits ∈ wt := in_wt (List.mem_of_getElem? (i := 550) (by decide +kernel)) rfl
theorem k_232 : Cond.selects R_PatternBook_Wide y_PatternBook_Wide_takeThreeDigits y_PatternBook_Wide_takeThreeDigits ∈ wt := in_wt (List.mem_of_getElem? (i := 551) (by decide +kernel)) rfl
theorem k_233 : Cond.code y_PatternBook_Declet_write b_PatternBook_Declet_write 7 (some .int) ∈ wt := in_wt (List.mem_of_getElem? (i := 285) (by decide +kernel)) rfl
theorem k_234 : Cond.methodLink R_PatternBook_DecletDecimal 68 y_PatternBook_Declet_write ∈ wt := in_wt (List.mem_of_getElem? (i := 554) (by decide +kernel)) rfl
theorem k_235 : Cond.static y_PatternBook_Declet_write ∈ wt := in_wt (List.mem_of_getElem? (i := 284) (by decide +kernel)) rfl
theorem k_236 : Cond.methodLink R_PatternBook_DecletDecimal 71 y_PatternBook_Wide_addBits ∈ wt := in_wt (List.mem_of_getElem? (i := 555) (by decide +kernel)) rfl
theorem k_237 : Cond.code y_PatternBook_DecletDecimal_leadOf b_PatternBook_DecletDecimal_leadOf 3 (some .int) ∈ wt := in_wt (List.mem_of_getElem? (i := 457) (by decide +kernel)) rfl
theorem k_238 : Cond.selects R_PatternBook_DecletDecimal ⟨R_PatternBook_Decimal, "leadOf", "(J)I"⟩ y_PatternBook_DecletDecimal_leadOf ∈ wt := in_wt (List.mem_of_getElem? (i := 455) (by decide +kernel)) rfl
theorem k_239 : Cond.instanceMethod y_PatternBook_DecletDecimal_leadOf ∈ wt := in_wt (List.mem_of_getElem? (i := 456) (by decide +kernel)) rfl
theorem k_240 : Cond.code y_PatternBook_DecletDecimal_readBody b_PatternBook_DecletDecimal_readBody 6 none ∈ wt := in_wt (List.mem_of_getElem? (i := 427) (by decide +kernel)) rfl
theorem k_241 : Cond.selects R_PatternBook_DecletDecimal ⟨R_PatternBook_Decimal, "readBody", "(ILPatternBook$Wide;LPatternBook$Wide;LPatternBook$Wide;)V"⟩ y_PatternBook_DecletDecimal_readBody ∈ wt := in_wt (List.mem_of_getElem? (i := 425) (by decide +kernel)) rfl
theorem k_242 : Cond.instanceMethod y_PatternBook_DecletDecimal_readBody ∈ wt := in_wt (List.mem_of_getElem? (i := 426) (by decide +kernel)) rfl
theorem k_243 : Cond.code y_PatternBook_DecletDecimal_fieldOf b_PatternBook_DecletDecimal_fieldOf 5 (some .long) ∈ wt := in_wt (List.mem_of_getElem? (i := 478) (by decide +kernel)) rfl
theorem k_244 : Cond.selects R_PatternBook_DecletDecimal ⟨R_PatternBook_Decimal, "fieldOf", "(J)J"⟩ y_PatternBook_DecletDecimal_fieldOf ∈ wt := in_wt (List.mem_of_getElem? (i := 476) (by decide +kernel)) rfl
theorem k_245 : Cond.instanceMethod y_PatternBook_DecletDecimal_fieldOf ∈ wt := in_wt (List.mem_of_getElem? (i := 477) (by decide +kernel)) rfl
theorem k_246 : Cond.code y_PatternBook_DecletDecimal_writeTail b_PatternBook_DecletDecimal_writeTail 4 (some .int) ∈ wt := in_wt (List.mem_of_getElem? (i := 547) (by decide +kernel)) rfl
theorem k_247 : Cond.selects R_PatternBook_DecletDecimal ⟨R_PatternBook_Decimal, "writeTail", "(LPatternBook$Wide;LPatternBook$Wide;)I"⟩ y_PatternBook_DecletDecimal_writeTail ∈ wt := in_wt (List.mem_of_getElem? (i := 545) (by decide +kernel)) rfl
theorem k_248 : Cond.instanceMethod y_PatternBook_DecletDecimal_writeTail ∈ wt := in_wt (List.mem_of_getElem? (i := 546) (by decide +kernel)) rfl
theorem k_249 : Cond.selects R_PatternBook_DecletDecimal y_PatternBook_Decimal_headFor y_PatternBook_Decimal_headFor ∈ wt := in_wt (List.mem_of_getElem? (i := 4) (by decide +kernel)) rfl
theorem k_250 : Cond.selects R_PatternBook_DecletDecimal ⟨R_PatternBook_Format, "hasNumber", "(LPatternBook$Datum;)Z"⟩ y_PatternBook_Decimal_hasNumber ∈ wt := in_wt (List.mem_of_getElem? (i := 514) (by decide +kernel)) rfl
theorem k_251 : Cond.selects R_PatternBook_DecletDecimal ⟨R_PatternBook_Format, "hasNan", "(LPatternBook$Datum;)Z"⟩ y_PatternBook_Decimal_hasNan ∈ wt := in_wt (List.mem_of_getElem? (i := 525) (by decide +kernel)) rfl
theorem k_252 : Cond.selects R_PatternBook_DecletDecimal ⟨R_PatternBook_Format, "readUnsigned", "(LPatternBook$Wide;LPatternBook$Datum;)V"⟩ y_PatternBook_Decimal_readUnsigned ∈ wt := in_wt (List.mem_of_getElem? (i := 417) (by decide +kernel)) rfl
theorem k_253 : Cond.selects R_PatternBook_DecletDecimal y_PatternBook_Format_has y_PatternBook_Format_has ∈ wt := in_wt (List.mem_of_getElem? (i := 2) (by decide +kernel)) rfl
theorem k_254 : Cond.selects R_PatternBook_DecletDecimal ⟨R_PatternBook_Format, "writeUnsigned", "(LPatternBook$Datum;LPatternBook$Wide;)V"⟩ y_PatternBook_Decimal_writeUnsigned ∈ wt := in_wt (List.mem_of_getElem? (i := 539) (by decide +kernel)) rfl
