theorem k_568 : Cond.constantLong R_PatternBookLaw 27 4294967295 ∈ wt := in_wt (List.mem_of_getElem? (i := 801) (by decide +kernel)) rfl
theorem k_569 : Cond.classLink R_PatternBookLaw 8 R_PatternBook ∈ wt := in_wt (List.mem_of_getElem? (i := 50) (by decide +kernel)) rfl
theorem k_570 : Cond.instantiable R_PatternBook 6 ∈ wt := in_wt (List.mem_of_getElem? (i := 51) (by decide +kernel)) rfl
theorem k_571 : Cond.code y_PatternBook_init b_PatternBook_init 1 none ∈ wt := in_wt (List.mem_of_getElem? (i := 54) (by decide +kernel)) rfl
theorem k_572 : Cond.methodLink R_PatternBookLaw 23 y_PatternBook_init ∈ wt := in_wt (List.mem_of_getElem? (i := 52) (by decide +kernel)) rfl
theorem k_573 : Cond.instanceMethod y_PatternBook_init ∈ wt := in_wt (List.mem_of_getElem? (i := 53) (by decide +kernel)) rfl
theorem k_574 : Cond.classLink R_PatternBookLaw 24 R_PatternBookModel ∈ wt := in_wt (List.mem_of_getElem? (i := 591) (by decide +kernel)) rfl
theorem k_575 : Cond.instantiable R_PatternBookModel 11 ∈ wt := in_wt (List.mem_of_getElem? (i := 592) (by decide +kernel)) rfl
theorem k_576 : Cond.code y_PatternBookModel_init b_PatternBookModel_init 2 none ∈ wt := in_wt (List.mem_of_getElem? (i := 595) (by decide +kernel)) rfl
theorem k_577 : Cond.methodLink R_PatternBookLaw 26 y_PatternBookModel_init ∈ wt := in_wt (List.mem_of_getElem? (i := 593) (by decide +kernel)) rfl
theorem k_578 : Cond.instanceMethod y_PatternBookModel_init ∈ wt := in_wt (List.mem_of_getElem? (i := 594) (by decide +kernel)) rfl
