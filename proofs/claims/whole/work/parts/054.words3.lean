theorem k_389 : Cond.fieldLink R_PatternBook 29 R_PatternBook "datum" "LPatternBook$Datum;" ∈ wt := in_wt (List.mem_of_getElem? (i := 219) (by decide +kernel)) rfl
theorem kn_20 : Cond.fieldLinkNest R_PatternBook 73 R_PatternBook_Datum "negative" "Z" "PatternBook" ∈ nwL := in_nw (List.mem_of_getElem? (i := 197) (by decide +kernel)) rfl
theorem kn_21 : Cond.fieldLinkNest R_PatternBook 77 R_PatternBook_Datum "body" "LPatternBook$Wide;" "PatternBook" ∈ nwL := in_nw (List.mem_of_getElem? (i := 206) (by decide +kernel)) rfl
theorem k_390 : Cond.methodLink R_PatternBook 80 y_PatternBook_Wide_set ∈ wt := in_wt (List.mem_of_getElem? (i := 241) (by decide +kernel)) rfl
theorem k_391 : Cond.methodLink R_PatternBook 84 y_PatternBook_Datum_become ∈ wt := in_wt (List.mem_of_getElem? (i := 245) (by decide +kernel)) rfl
theorem k_392 : Cond.fieldLink R_PatternBook 36 R_PatternBook "made" "LPatternBook$Wide;" ∈ wt := in_wt (List.mem_of_getElem? (i := 220) (by decide +kernel)) rfl
theorem k_393 : Cond.methodLink R_PatternBook 88 y_PatternBook_Wide_half ∈ wt := in_wt (List.mem_of_getElem? (i := 254) (by decide +kernel)) rfl
theorem kn_22 : Cond.fieldLinkNest R_PatternBook 61 R_PatternBook_Datum "kind" "I" "PatternBook" ∈ nwL := in_nw (List.mem_of_getElem? (i := 191) (by decide +kernel)) rfl
theorem kn_23 : Cond.fieldLinkNest R_PatternBook 92 R_PatternBook_Datum "exponent" "I" "PatternBook" ∈ nwL := in_nw (List.mem_of_getElem? (i := 202) (by decide +kernel)) rfl
theorem k_394 : Cond.methodLink R_PatternBook 95 y_PatternBook_Declet_read ∈ wt := in_wt (List.mem_of_getElem? (i := 270) (by decide +kernel)) rfl
theorem k_395 : Cond.methodLink R_PatternBook 100 y_PatternBook_Declet_write ∈ wt := in_wt (List.mem_of_getElem? (i := 283) (by decide +kernel)) rfl
theorem k_396 : Cond.fieldLink R_PatternBook 20 R_PatternBook "formats" "[LPatternBook$Format;" ∈ wt := in_wt (List.mem_of_getElem? (i := 218) (by decide +kernel)) rfl
theorem k_397 : Cond.code y_PatternBook_formatAt b_PatternBook_formatAt 2 (some (.object "PatternBook$Format")) ∈ wt := in_wt (List.mem_of_getElem? (i := 300) (by decide +kernel)) rfl
theorem k_398 : Cond.initialized R_PatternBook ∈ wt := in_wt (List.mem_of_getElem? (i := 35) (by decide +kernel)) rfl
theorem k_399 : Cond.methodLink R_PatternBook 49 y_PatternBook_formatAt ∈ wt := in_wt (List.mem_of_getElem? (i := 297) (by decide +kernel)) rfl
theorem k_400 : Cond.instanceMethod y_PatternBook_formatAt ∈ wt := in_wt (List.mem_of_getElem? (i := 299) (by decide +kernel)) rfl
theorem k_401 : Cond.selects R_PatternBook y_PatternBook_formatAt y_PatternBook_formatAt ∈ wt := in_wt (List.mem_of_getElem? (i := 5) (by decide +kernel)) rfl
theorem k_402 : Cond.fieldLink R_PatternBook 40 R_PatternBook "given" "LPatternBook$Wide;" ∈ wt := in_wt (List.mem_of_getElem? (i := 221) (by decide +kernel)) rfl
theorem k_403 : Cond.code y_PatternBook_Format_cut b_PatternBook_Format_cut 6 none ∈ wt := in_wt (List.mem_of_getElem? (i := 373) (by decide +kernel)) rfl
theorem k_404 : Cond.methodLink R_PatternBook 53 y_PatternBook_Format_cut ∈ wt := in_wt (List.mem_of_getElem? (i := 367) (by decide +kernel)) rfl
theorem k_405 : Cond.instanceMethod y_PatternBook_Format_cut ∈ wt := in_wt (List.mem_of_getElem? (i := 368) (by decide +kernel)) rfl
theorem k_406 : Cond.selects R_PatternBook_Binary y_PatternBook_Format_cut y_PatternBook_Format_cut ∈ wt := in_wt (List.mem_of_getElem? (i := 370) (by decide +kernel)) rfl
theorem k_407 : Cond.code y_PatternBook_Format_read b_PatternBook_Format_read 3 none ∈ wt := in_wt (List.mem_of_getElem? (i := 386) (by decide +kernel)) rfl
theorem k_408 : Cond.methodLink R_PatternBook 57 y_PatternBook_Format_read ∈ wt := in_wt (List.mem_of_getElem? (i := 380) (by decide +kernel)) rfl
theorem k_409 : Cond.instanceMethod y_PatternBook_Format_read ∈ wt := in_wt (List.mem_of_getElem? (i := 381) (by decide +kernel)) rfl
theorem k_410 : Cond.selects R_PatternBook_Binary y_PatternBook_Format_read y_PatternBook_Format_read ∈ wt := in_wt (List.mem_of_getElem? (i := 383) (by decide +kernel)) rfl
theorem k_411 : Cond.code y_PatternBook_Format_write b_PatternBook_Format_write 3 (some .boolean) ∈ wt := in_wt (List.mem_of_getElem? (i := 499) (by decide +kernel)) rfl
theorem k_412 : Cond.methodLink R_PatternBook 65 y_PatternBook_Format_write ∈ wt := in_wt (List.mem_of_getElem? (i := 493) (by decide +kernel)) rfl
theorem k_413 : Cond.instanceMethod y_PatternBook_Format_write ∈ wt := in_wt (List.mem_of_getElem? (i := 494) (by decide +kernel)) rfl
theorem k_414 : Cond.selects R_PatternBook_Binary y_PatternBook_Format_write y_PatternBook_Format_write ∈ wt := in_wt (List.mem_of_getElem? (i := 496) (by decide +kernel)) rfl
theorem k_415 : Cond.fieldLink R_PatternBook 43 R_PatternBook "trialDatum" "LPatternBook$Datum;" ∈ wt := in_wt (List.mem_of_getElem? (i := 222) (by decide +kernel)) rfl
theorem k_416 : Cond.fieldLink R_PatternBook 46 R_PatternBook "trialPattern" "LPatternBook$Wide;" ∈ wt := in_wt (List.mem_of_getElem? (i := 223) (by decide +kernel)) rfl
theorem k_417 : Cond.code y_PatternBook_Wide_isSame b_PatternBook_Wide_isSame 2 (some .boolean) ∈ wt := in_wt (List.mem_of_getElem? (i := 583) (by decide +kernel)) rfl
theorem k_418 : Cond.methodLink R_PatternBook 69 y_PatternBook_Wide_isSame ∈ wt := in_wt (List.mem_of_getElem? (i := 580) (by decide +kernel)) rfl
theorem k_419 : Cond.instanceMethod y_PatternBook_Wide_isSame ∈ wt := in_wt (List.mem_of_getElem? (i := 581) (by decide +kernel)) rfl
theorem k_420 : Cond.selects R_PatternBook_Wide y_PatternBook_Wide_isSame y_PatternBook_Wide_isSame ∈ wt := in_wt (List.mem_of_getElem? (i := 582) (by decide +kernel)) rfl
theorem k_421 : Cond.selects R_PatternBook_PlainDecimal y_PatternBook_Format_cut y_PatternBook_Format_cut ∈ wt := in_wt (List.mem_of_getElem? (i := 372) (by decide +kernel)) rfl
theorem k_422 : Cond.selects R_PatternBook_PlainDecimal y_PatternBook_Format_read y_PatternBook_Format_read ∈ wt := in_wt (List.mem_of_getElem? (i := 385) (by decide +kernel)) rfl
theorem k_423 : Cond.selects R_PatternBook_PlainDecimal y_PatternBook_Format_write y_PatternBook_Format_write ∈ wt := in_wt (List.mem_of_getElem? (i := 498) (by decide +kernel)) rfl
theorem k_424 : Cond.selects R_PatternBook_DecletDecimal y_PatternBook_Format_cut y_PatternBook_Format_cut ∈ wt := in_wt (List.mem_of_getElem? (i := 371) (by decide +kernel)) rfl
theorem k_425 : Cond.selects R_PatternBook_DecletDecimal y_PatternBook_Format_read y_PatternBook_Format_read ∈ wt := in_wt (List.mem_of_getElem? (i := 384) (by decide +kernel)) rfl
theorem k_426 : Cond.selects R_PatternBook_DecletDecimal y_PatternBook_Format_write y_PatternBook_Format_write ∈ wt := in_wt (List.mem_of_getElem? (i := 497) (by decide +kernel)) rfl
