theorem k_479 : Cond.classLink R_PatternBook 102 R_java_lang_IndexOutOfBoundsException ∈ wt := in_wt (List.mem_of_getElem? (i := 301) (by decide +kernel)) rfl
theorem k_480 : Cond.initialized R_java_lang_IndexOutOfBoundsException ∈ wt := in_wt (List.mem_of_getElem? (i := 47) (by decide +kernel)) rfl
theorem k_481 : Cond.code y_PatternBook_unpack b_PatternBook_unpack 7 (some .int) ∈ wt := in_wt (List.mem_of_getElem? (i := 296) (by decide +kernel)) rfl
theorem k_482 : Cond.code y_PatternBook_canonical b_PatternBook_canonical 7 (some .boolean) ∈ wt := in_wt (List.mem_of_getElem? (i := 492) (by decide +kernel)) rfl
theorem k_483 : Cond.code y_PatternBook_pack b_PatternBook_pack 2 (some .boolean) ∈ wt := in_wt (List.mem_of_getElem? (i := 590) (by decide +kernel)) rfl
theorem k_484 : Cond.methodLink R_PatternBookLaw 7 y_PatternBook_unpack ∈ wt := in_wt (List.mem_of_getElem? (i := 293) (by decide +kernel)) rfl
theorem k_485 : Cond.selects R_PatternBook y_PatternBook_unpack y_PatternBook_unpack ∈ wt := in_wt (List.mem_of_getElem? (i := 295) (by decide +kernel)) rfl
theorem k_486 : Cond.instanceMethod y_PatternBook_unpack ∈ wt := in_wt (List.mem_of_getElem? (i := 294) (by decide +kernel)) rfl
theorem k_487 : Cond.classLink R_PatternBookLaw 13 R_java_lang_IndexOutOfBoundsException ∈ wt := in_wt (List.mem_of_getElem? (i := 292) (by decide +kernel)) rfl
theorem k_488 : Cond.methodLink R_PatternBookLaw 15 y_PatternBook_canonical ∈ wt := in_wt (List.mem_of_getElem? (i := 489) (by decide +kernel)) rfl
theorem k_489 : Cond.selects R_PatternBook y_PatternBook_canonical y_PatternBook_canonical ∈ wt := in_wt (List.mem_of_getElem? (i := 491) (by decide +kernel)) rfl
theorem k_490 : Cond.instanceMethod y_PatternBook_canonical ∈ wt := in_wt (List.mem_of_getElem? (i := 490) (by decide +kernel)) rfl
theorem k_491 : Cond.methodLink R_PatternBookLaw 19 y_PatternBook_pack ∈ wt := in_wt (List.mem_of_getElem? (i := 587) (by decide +kernel)) rfl
theorem k_492 : Cond.selects R_PatternBook y_PatternBook_pack y_PatternBook_pack ∈ wt := in_wt (List.mem_of_getElem? (i := 589) (by decide +kernel)) rfl
theorem k_493 : Cond.instanceMethod y_PatternBook_pack ∈ wt := in_wt (List.mem_of_getElem? (i := 588) (by decide +kernel)) rfl
