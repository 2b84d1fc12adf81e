theorem k_427 : Cond.methodLink R_PatternBook_Format 3 objectInit ∈ wt := in_wt (List.mem_of_getElem? (i := 68) (by decide +kernel)) rfl
theorem k_428 : Cond.fieldLink R_PatternBook_Format 15 R_PatternBook_Format "places" "I" ∈ wt := in_wt (List.mem_of_getElem? (i := 76) (by decide +kernel)) rfl
theorem k_429 : Cond.code y_PatternBook_Format_init b_PatternBook_Format_init 4 none ∈ wt := in_wt (List.mem_of_getElem? (i := 67) (by decide +kernel)) rfl
theorem k_430 : Cond.methodLink R_PatternBook_Binary 3 y_PatternBook_Format_init ∈ wt := in_wt (List.mem_of_getElem? (i := 65) (by decide +kernel)) rfl
theorem k_431 : Cond.instanceMethod y_PatternBook_Format_init ∈ wt := in_wt (List.mem_of_getElem? (i := 66) (by decide +kernel)) rfl
theorem k_432 : Cond.methodLink R_PatternBook_Binary 18 y_PatternBook_Wide_ones ∈ wt := in_wt (List.mem_of_getElem? (i := 69) (by decide +kernel)) rfl
theorem k_433 : Cond.classLink R_PatternBook_Decimal 32 R_PatternBook_Wide ∈ wt := in_wt (List.mem_of_getElem? (i := 112) (by decide +kernel)) rfl
theorem kn_24 : Cond.methodLinkNest R_PatternBook_Decimal 34 y_PatternBook_Wide_init "PatternBook" ∈ nwL := in_nw (List.mem_of_getElem? (i := 114) (by decide +kernel)) rfl
theorem k_434 : Cond.methodLink R_PatternBook_Decimal 37 y_PatternBook_Wide_timesPlus ∈ wt := in_wt (List.mem_of_getElem? (i := 125) (by decide +kernel)) rfl
theorem k_435 : Cond.methodLink R_PatternBook_Decimal 3 y_PatternBook_Format_init ∈ wt := in_wt (List.mem_of_getElem? (i := 108) (by decide +kernel)) rfl
theorem k_436 : Cond.fieldLink R_PatternBook_Decimal 9 R_PatternBook_Decimal "declets" "I" ∈ wt := in_wt (List.mem_of_getElem? (i := 130) (by decide +kernel)) rfl
theorem k_437 : Cond.code y_PatternBook_Decimal_nines b_PatternBook_Decimal_nines 3 (some (.object "PatternBook$Wide")) ∈ wt := in_wt (List.mem_of_getElem? (i := 111) (by decide +kernel)) rfl
theorem k_438 : Cond.methodLink R_PatternBook_Decimal 21 y_PatternBook_Decimal_nines ∈ wt := in_wt (List.mem_of_getElem? (i := 109) (by decide +kernel)) rfl
theorem k_439 : Cond.static y_PatternBook_Decimal_nines ∈ wt := in_wt (List.mem_of_getElem? (i := 110) (by decide +kernel)) rfl
theorem k_440 : Cond.code y_PatternBook_Decimal_init b_PatternBook_Decimal_init 4 none ∈ wt := in_wt (List.mem_of_getElem? (i := 107) (by decide +kernel)) rfl
theorem k_441 : Cond.methodLink R_PatternBook_PlainDecimal 1 y_PatternBook_Decimal_init ∈ wt := in_wt (List.mem_of_getElem? (i := 105) (by decide +kernel)) rfl
theorem k_442 : Cond.instanceMethod y_PatternBook_Decimal_init ∈ wt := in_wt (List.mem_of_getElem? (i := 106) (by decide +kernel)) rfl
theorem k_443 : Cond.methodLink R_PatternBook_DecletDecimal 1 y_PatternBook_Decimal_init ∈ wt := in_wt (List.mem_of_getElem? (i := 163) (by decide +kernel)) rfl
theorem k_444 : Cond.sameField R_PatternBook_DecletDecimal R_PatternBook_Decimal "headBits" "I" ∈ wt := in_wt (List.mem_of_getElem? (i := 137) (by decide +kernel)) rfl
theorem k_445 : Cond.fieldLink R_PatternBook_DecletDecimal 7 R_PatternBook_DecletDecimal "headBits" "I" ∈ wt := in_wt (List.mem_of_getElem? (i := 136) (by decide +kernel)) rfl
theorem k_446 : Cond.classLink R_PatternBook_DecletDecimal 16 R_PatternBook_Wide ∈ wt := in_wt (List.mem_of_getElem? (i := 164) (by decide +kernel)) rfl
theorem kn_25 : Cond.methodLinkNest R_PatternBook_DecletDecimal 18 y_PatternBook_Wide_init "PatternBook" ∈ nwL := in_nw (List.mem_of_getElem? (i := 165) (by decide +kernel)) rfl
theorem k_447 : Cond.methodLink R_PatternBook 1 objectInit ∈ wt := in_wt (List.mem_of_getElem? (i := 55) (by decide +kernel)) rfl
theorem k_448 : Cond.classLink R_PatternBook 7 R_PatternBook_Format ∈ wt := in_wt (List.mem_of_getElem? (i := 58) (by decide +kernel)) rfl
theorem kn_26 : Cond.arrayOver (.object "PatternBook$Format") ∈ nwL := in_nw (List.mem_of_getElem? (i := 59) (by decide +kernel)) rfl
theorem k_449 : Cond.classLink R_PatternBook 9 R_PatternBook_Binary ∈ wt := in_wt (List.mem_of_getElem? (i := 60) (by decide +kernel)) rfl
theorem k_450 : Cond.instantiable R_PatternBook_Binary 7 ∈ wt := in_wt (List.mem_of_getElem? (i := 61) (by decide +kernel)) rfl
theorem k_451 : Cond.code y_PatternBook_Binary_init b_PatternBook_Binary_init 4 none ∈ wt := in_wt (List.mem_of_getElem? (i := 64) (by decide +kernel)) rfl
theorem k_452 : Cond.methodLink R_PatternBook 11 y_PatternBook_Binary_init ∈ wt := in_wt (List.mem_of_getElem? (i := 62) (by decide +kernel)) rfl
theorem k_453 : Cond.instanceMethod y_PatternBook_Binary_init ∈ wt := in_wt (List.mem_of_getElem? (i := 63) (by decide +kernel)) rfl
theorem kn_27 : Cond.castable R_PatternBook_Binary R_PatternBook_Format ∈ nwL := in_nw (List.mem_of_getElem? (i := 805) (by decide +kernel)) rfl
theorem k_454 : Cond.classLink R_PatternBook 14 R_PatternBook_PlainDecimal ∈ wt := in_wt (List.mem_of_getElem? (i := 100) (by decide +kernel)) rfl
theorem k_455 : Cond.instantiable R_PatternBook_PlainDecimal 9 ∈ wt := in_wt (List.mem_of_getElem? (i := 101) (by decide +kernel)) rfl
theorem k_456 : Cond.code y_PatternBook_PlainDecimal_init b_PatternBook_PlainDecimal_init 4 none ∈ wt := in_wt (List.mem_of_getElem? (i := 104) (by decide +kernel)) rfl
theorem k_457 : Cond.methodLink R_PatternBook 16 y_PatternBook_PlainDecimal_init ∈ wt := in_wt (List.mem_of_getElem? (i := 102) (by decide +kernel)) rfl
theorem k_458 : Cond.instanceMethod y_PatternBook_PlainDecimal_init ∈ wt := in_wt (List.mem_of_getElem? (i := 103) (by decide +kernel)) rfl
theorem kn_28 : Cond.castable R_PatternBook_PlainDecimal R_PatternBook_Format ∈ nwL := in_nw (List.mem_of_getElem? (i := 807) (by decide +kernel)) rfl
theorem k_459 : Cond.classLink R_PatternBook 17 R_PatternBook_DecletDecimal ∈ wt := in_wt (List.mem_of_getElem? (i := 158) (by decide +kernel)) rfl
theorem k_460 : Cond.instantiable R_PatternBook_DecletDecimal 11 ∈ wt := in_wt (List.mem_of_getElem? (i := 159) (by decide +kernel)) rfl
theorem k_461 : Cond.code y_PatternBook_DecletDecimal_init b_PatternBook_DecletDecimal_init 4 none ∈ wt := in_wt (List.mem_of_getElem? (i := 162) (by decide +kernel)) rfl
theorem k_462 : Cond.methodLink R_PatternBook 19 y_PatternBook_DecletDecimal_init ∈ wt := in_wt (List.mem_of_getElem? (i := 160) (by decide +kernel)) rfl
theorem k_463 : Cond.instanceMethod y_PatternBook_DecletDecimal_init ∈ wt := in_wt (List.mem_of_getElem? (i := 161) (by decide +kernel)) rfl
theorem kn_29 : Cond.castable R_PatternBook_DecletDecimal R_PatternBook_Format ∈ nwL := in_nw (List.mem_of_getElem? (i := 806) (by decide +kernel)) rfl
theorem k_464 : Cond.classLink R_PatternBook 26 R_PatternBook_Datum ∈ wt := in_wt (List.mem_of_getElem? (i := 182) (by decide +kernel)) rfl
theorem k_465 : Cond.instantiable R_PatternBook_Datum 4 ∈ wt := in_wt (List.mem_of_getElem? (i := 183) (by decide +kernel)) rfl
theorem k_466 : Cond.code y_PatternBook_Datum_init b_PatternBook_Datum_init 1 none ∈ wt := in_wt (List.mem_of_getElem? (i := 186) (by decide +kernel)) rfl
theorem k_467 : Cond.methodLink R_PatternBook 28 y_PatternBook_Datum_init ∈ wt := in_wt (List.mem_of_getElem? (i := 184) (by decide +kernel)) rfl
theorem k_468 : Cond.instanceMethod y_PatternBook_Datum_init ∈ wt := in_wt (List.mem_of_getElem? (i := 185) (by decide +kernel)) rfl
theorem k_469 : Cond.classLink R_PatternBook 33 R_PatternBook_Wide ∈ wt := in_wt (List.mem_of_getElem? (i := 216) (by decide +kernel)) rfl
theorem kn_30 : Cond.methodLinkNest R_PatternBook 35 y_PatternBook_Wide_init "PatternBook" ∈ nwL := in_nw (List.mem_of_getElem? (i := 217) (by decide +kernel)) rfl
theorem k_470 : Cond.arrayClass .int ∈ wt := in_wt (List.mem_of_getElem? (i := 638) (by decide +kernel)) rfl
theorem k_471 : Cond.code y_PatternBookModel_bitsOf b_PatternBookModel_bitsOf 3 (some (.array .int)) ∈ wt := in_wt (List.mem_of_getElem? (i := 602) (by decide +kernel)) rfl
theorem k_472 : Cond.methodLink R_PatternBookModel 62 y_PatternBookModel_bitsOf ∈ wt := in_wt (List.mem_of_getElem? (i := 600) (by decide +kernel)) rfl
theorem k_473 : Cond.static y_PatternBookModel_bitsOf ∈ wt := in_wt (List.mem_of_getElem? (i := 601) (by decide +kernel)) rfl
theorem k_474 : Cond.methodLink R_PatternBookModel 1 objectInit ∈ wt := in_wt (List.mem_of_getElem? (i := 596) (by decide +kernel)) rfl
theorem k_475 : Cond.arrayClass .long ∈ wt := in_wt (List.mem_of_getElem? (i := 637) (by decide +kernel)) rfl
theorem k_476 : Cond.code y_PatternBookModel_spell b_PatternBookModel_spell 16 (some .int) ∈ wt := in_wt (List.mem_of_getElem? (i := 599) (by decide +kernel)) rfl
theorem k_477 : Cond.methodLink R_PatternBookModel 20 y_PatternBookModel_spell ∈ wt := in_wt (List.mem_of_getElem? (i := 597) (by decide +kernel)) rfl
theorem k_478 : Cond.static y_PatternBookModel_spell ∈ wt := in_wt (List.mem_of_getElem? (i := 598) (by decide +kernel)) rfl
