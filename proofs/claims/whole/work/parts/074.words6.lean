theorem k_494 : Cond.code y_PatternBook_put b_PatternBook_put 8 (some .boolean) ∈ wt := in_wt (List.mem_of_getElem? (i := 240) (by decide +kernel)) rfl
theorem k_495 : Cond.methodLink R_PatternBookLaw 42 y_PatternBook_put ∈ wt := in_wt (List.mem_of_getElem? (i := 237) (by decide +kernel)) rfl
theorem k_496 : Cond.instanceMethod y_PatternBook_put ∈ wt := in_wt (List.mem_of_getElem? (i := 238) (by decide +kernel)) rfl
theorem k_497 : Cond.selects R_PatternBook y_PatternBook_put y_PatternBook_put ∈ wt := in_wt (List.mem_of_getElem? (i := 239) (by decide +kernel)) rfl
theorem k_498 : Cond.code y_PatternBook_pattern b_PatternBook_pattern 2 (some .long) ∈ wt := in_wt (List.mem_of_getElem? (i := 253) (by decide +kernel)) rfl
theorem k_499 : Cond.methodLink R_PatternBookLaw 51 y_PatternBook_pattern ∈ wt := in_wt (List.mem_of_getElem? (i := 250) (by decide +kernel)) rfl
theorem k_500 : Cond.instanceMethod y_PatternBook_pattern ∈ wt := in_wt (List.mem_of_getElem? (i := 251) (by decide +kernel)) rfl
theorem k_501 : Cond.selects R_PatternBook y_PatternBook_pattern y_PatternBook_pattern ∈ wt := in_wt (List.mem_of_getElem? (i := 252) (by decide +kernel)) rfl
theorem k_502 : Cond.code y_PatternBook_look b_PatternBook_look 2 (some .int) ∈ wt := in_wt (List.mem_of_getElem? (i := 261) (by decide +kernel)) rfl
theorem k_503 : Cond.methodLink R_PatternBookLaw 56 y_PatternBook_look ∈ wt := in_wt (List.mem_of_getElem? (i := 258) (by decide +kernel)) rfl
theorem k_504 : Cond.instanceMethod y_PatternBook_look ∈ wt := in_wt (List.mem_of_getElem? (i := 259) (by decide +kernel)) rfl
theorem k_505 : Cond.selects R_PatternBook y_PatternBook_look y_PatternBook_look ∈ wt := in_wt (List.mem_of_getElem? (i := 260) (by decide +kernel)) rfl
theorem k_506 : Cond.code y_PatternBook_part b_PatternBook_part 2 (some .long) ∈ wt := in_wt (List.mem_of_getElem? (i := 265) (by decide +kernel)) rfl
theorem k_507 : Cond.methodLink R_PatternBookLaw 61 y_PatternBook_part ∈ wt := in_wt (List.mem_of_getElem? (i := 262) (by decide +kernel)) rfl
theorem k_508 : Cond.instanceMethod y_PatternBook_part ∈ wt := in_wt (List.mem_of_getElem? (i := 263) (by decide +kernel)) rfl
theorem k_509 : Cond.selects R_PatternBook y_PatternBook_part y_PatternBook_part ∈ wt := in_wt (List.mem_of_getElem? (i := 264) (by decide +kernel)) rfl
theorem k_510 : Cond.code y_PatternBook_digits b_PatternBook_digits 2 (some .int) ∈ wt := in_wt (List.mem_of_getElem? (i := 269) (by decide +kernel)) rfl
theorem k_511 : Cond.methodLink R_PatternBookLaw 65 y_PatternBook_digits ∈ wt := in_wt (List.mem_of_getElem? (i := 266) (by decide +kernel)) rfl
theorem k_512 : Cond.instanceMethod y_PatternBook_digits ∈ wt := in_wt (List.mem_of_getElem? (i := 267) (by decide +kernel)) rfl
theorem k_513 : Cond.selects R_PatternBook y_PatternBook_digits y_PatternBook_digits ∈ wt := in_wt (List.mem_of_getElem? (i := 268) (by decide +kernel)) rfl
theorem k_514 : Cond.code y_PatternBook_declet b_PatternBook_declet 2 (some .int) ∈ wt := in_wt (List.mem_of_getElem? (i := 282) (by decide +kernel)) rfl
theorem k_515 : Cond.methodLink R_PatternBookLaw 69 y_PatternBook_declet ∈ wt := in_wt (List.mem_of_getElem? (i := 279) (by decide +kernel)) rfl
theorem k_516 : Cond.instanceMethod y_PatternBook_declet ∈ wt := in_wt (List.mem_of_getElem? (i := 280) (by decide +kernel)) rfl
theorem k_517 : Cond.selects R_PatternBook y_PatternBook_declet y_PatternBook_declet ∈ wt := in_wt (List.mem_of_getElem? (i := 281) (by decide +kernel)) rfl
theorem k_518 : Cond.code y_PatternBookModel_unpack b_PatternBookModel_unpack 6 (some .int) ∈ wt := in_wt (List.mem_of_getElem? (i := 646) (by decide +kernel)) rfl
theorem k_519 : Cond.methodLink R_PatternBookLaw 34 y_PatternBookModel_unpack ∈ wt := in_wt (List.mem_of_getElem? (i := 643) (by decide +kernel)) rfl
theorem k_520 : Cond.instanceMethod y_PatternBookModel_unpack ∈ wt := in_wt (List.mem_of_getElem? (i := 644) (by decide +kernel)) rfl
theorem k_521 : Cond.selects R_PatternBookModel y_PatternBookModel_unpack y_PatternBookModel_unpack ∈ wt := in_wt (List.mem_of_getElem? (i := 645) (by decide +kernel)) rfl
theorem k_522 : Cond.code y_PatternBookModel_canonical b_PatternBookModel_canonical 22 (some .boolean) ∈ wt := in_wt (List.mem_of_getElem? (i := 729) (by decide +kernel)) rfl
theorem k_523 : Cond.methodLink R_PatternBookLaw 41 y_PatternBookModel_canonical ∈ wt := in_wt (List.mem_of_getElem? (i := 726) (by decide +kernel)) rfl
theorem k_524 : Cond.instanceMethod y_PatternBookModel_canonical ∈ wt := in_wt (List.mem_of_getElem? (i := 727) (by decide +kernel)) rfl
theorem k_525 : Cond.selects R_PatternBookModel y_PatternBookModel_canonical y_PatternBookModel_canonical ∈ wt := in_wt (List.mem_of_getElem? (i := 728) (by decide +kernel)) rfl
theorem k_526 : Cond.code y_PatternBookModel_pack b_PatternBookModel_pack 2 (some .boolean) ∈ wt := in_wt (List.mem_of_getElem? (i := 773) (by decide +kernel)) rfl
theorem k_527 : Cond.methodLink R_PatternBookLaw 50 y_PatternBookModel_pack ∈ wt := in_wt (List.mem_of_getElem? (i := 770) (by decide +kernel)) rfl
theorem k_528 : Cond.instanceMethod y_PatternBookModel_pack ∈ wt := in_wt (List.mem_of_getElem? (i := 771) (by decide +kernel)) rfl
theorem k_529 : Cond.selects R_PatternBookModel y_PatternBookModel_pack y_PatternBookModel_pack ∈ wt := in_wt (List.mem_of_getElem? (i := 772) (by decide +kernel)) rfl
theorem k_530 : Cond.code y_PatternBookModel_thrown b_PatternBookModel_thrown 1 (some .int) ∈ wt := in_wt (List.mem_of_getElem? (i := 642) (by decide +kernel)) rfl
theorem k_531 : Cond.methodLink R_PatternBookLaw 35 y_PatternBookModel_thrown ∈ wt := in_wt (List.mem_of_getElem? (i := 639) (by decide +kernel)) rfl
theorem k_532 : Cond.instanceMethod y_PatternBookModel_thrown ∈ wt := in_wt (List.mem_of_getElem? (i := 640) (by decide +kernel)) rfl
theorem k_533 : Cond.selects R_PatternBookModel y_PatternBookModel_thrown y_PatternBookModel_thrown ∈ wt := in_wt (List.mem_of_getElem? (i := 641) (by decide +kernel)) rfl
theorem k_534 : Cond.code y_PatternBookModel_put b_PatternBookModel_put 8 (some .boolean) ∈ wt := in_wt (List.mem_of_getElem? (i := 769) (by decide +kernel)) rfl
theorem k_535 : Cond.methodLink R_PatternBookLaw 46 y_PatternBookModel_put ∈ wt := in_wt (List.mem_of_getElem? (i := 766) (by decide +kernel)) rfl
theorem k_536 : Cond.instanceMethod y_PatternBookModel_put ∈ wt := in_wt (List.mem_of_getElem? (i := 767) (by decide +kernel)) rfl
theorem k_537 : Cond.selects R_PatternBookModel y_PatternBookModel_put y_PatternBookModel_put ∈ wt := in_wt (List.mem_of_getElem? (i := 768) (by decide +kernel)) rfl
theorem k_538 : Cond.code y_PatternBookModel_pattern b_PatternBookModel_pattern 2 (some .long) ∈ wt := in_wt (List.mem_of_getElem? (i := 784) (by decide +kernel)) rfl
theorem k_539 : Cond.methodLink R_PatternBookLaw 55 y_PatternBookModel_pattern ∈ wt := in_wt (List.mem_of_getElem? (i := 781) (by decide +kernel)) rfl
theorem k_540 : Cond.instanceMethod y_PatternBookModel_pattern ∈ wt := in_wt (List.mem_of_getElem? (i := 782) (by decide +kernel)) rfl
theorem k_541 : Cond.selects R_PatternBookModel y_PatternBookModel_pattern y_PatternBookModel_pattern ∈ wt := in_wt (List.mem_of_getElem? (i := 783) (by decide +kernel)) rfl
theorem k_542 : Cond.code y_PatternBookModel_look b_PatternBookModel_look 2 (some .int) ∈ wt := in_wt (List.mem_of_getElem? (i := 788) (by decide +kernel)) rfl
theorem k_543 : Cond.methodLink R_PatternBookLaw 60 y_PatternBookModel_look ∈ wt := in_wt (List.mem_of_getElem? (i := 785) (by decide +kernel)) rfl
theorem k_544 : Cond.instanceMethod y_PatternBookModel_look ∈ wt := in_wt (List.mem_of_getElem? (i := 786) (by decide +kernel)) rfl
theorem k_545 : Cond.selects R_PatternBookModel y_PatternBookModel_look y_PatternBookModel_look ∈ wt := in_wt (List.mem_of_getElem? (i := 787) (by decide +kernel)) rfl
theorem k_546 : Cond.code y_PatternBookModel_part b_PatternBookModel_part 2 (some .long) ∈ wt := in_wt (List.mem_of_getElem? (i := 792) (by decide +kernel)) rfl
theorem k_547 : Cond.methodLink R_PatternBookLaw 64 y_PatternBookModel_part ∈ wt := in_wt (List.mem_of_getElem? (i := 789) (by decide +kernel)) rfl
theorem k_548 : Cond.instanceMethod y_PatternBookModel_part ∈ wt := in_wt (List.mem_of_getElem? (i := 790) (by decide +kernel)) rfl
theorem k_549 : Cond.selects R_PatternBookModel y_PatternBookModel_part y_PatternBookModel_part ∈ wt := in_wt (List.mem_of_getElem? (i := 791) (by decide +kernel)) rfl
theorem k_550 : Cond.code y_PatternBookModel_digits b_PatternBookModel_digits 2 (some .int) ∈ wt := in_wt (List.mem_of_getElem? (i := 796) (by decide +kernel)) rfl
theorem k_551 : Cond.methodLink R_PatternBookLaw 68 y_PatternBookModel_digits ∈ wt := in_wt (List.mem_of_getElem? (i := 793) (by decide +kernel)) rfl
theorem k_552 : Cond.instanceMethod y_PatternBookModel_digits ∈ wt := in_wt (List.mem_of_getElem? (i := 794) (by decide +kernel)) rfl
theorem k_553 : Cond.selects R_PatternBookModel y_PatternBookModel_digits y_PatternBookModel_digits ∈ wt := in_wt (List.mem_of_getElem? (i := 795) (by decide +kernel)) rfl
theorem k_554 : Cond.code y_PatternBookModel_declet b_PatternBookModel_declet 2 (some .int) ∈ wt := in_wt (List.mem_of_getElem? (i := 800) (by decide +kernel)) rfl
theorem k_555 : Cond.methodLink R_PatternBookLaw 72 y_PatternBookModel_declet ∈ wt := in_wt (List.mem_of_getElem? (i := 797) (by decide +kernel)) rfl
theorem k_556 : Cond.instanceMethod y_PatternBookModel_declet ∈ wt := in_wt (List.mem_of_getElem? (i := 798) (by decide +kernel)) rfl
theorem k_557 : Cond.selects R_PatternBookModel y_PatternBookModel_declet y_PatternBookModel_declet ∈ wt := in_wt (List.mem_of_getElem? (i := 799) (by decide +kernel)) rfl
theorem k_558 : Cond.codeWith y_PatternBookLaw_unpack b_PatternBookLaw_unpack 8 (some .int) [(0, 13, 16, 13)] ∈ wt := in_wt (List.mem_of_getElem? (i := 291) (by decide +kernel)) rfl
theorem k_559 : Cond.initialized R_PatternBookLaw ∈ wt := in_wt (List.mem_of_getElem? (i := 34) (by decide +kernel)) rfl
theorem k_560 : Cond.methodLink R_PatternBookLaw 29 y_PatternBookLaw_unpack ∈ wt := in_wt (List.mem_of_getElem? (i := 289) (by decide +kernel)) rfl
theorem k_561 : Cond.static y_PatternBookLaw_unpack ∈ wt := in_wt (List.mem_of_getElem? (i := 290) (by decide +kernel)) rfl
theorem k_562 : Cond.codeWith y_PatternBookLaw_canonical b_PatternBookLaw_canonical 8 (some .int) [(0, 20, 23, 13)] ∈ wt := in_wt (List.mem_of_getElem? (i := 488) (by decide +kernel)) rfl
theorem k_563 : Cond.methodLink R_PatternBookLaw 39 y_PatternBookLaw_canonical ∈ wt := in_wt (List.mem_of_getElem? (i := 486) (by decide +kernel)) rfl
theorem k_564 : Cond.static y_PatternBookLaw_canonical ∈ wt := in_wt (List.mem_of_getElem? (i := 487) (by decide +kernel)) rfl
theorem k_565 : Cond.codeWith y_PatternBookLaw_pack b_PatternBookLaw_pack 4 (some .int) [(0, 16, 19, 13)] ∈ wt := in_wt (List.mem_of_getElem? (i := 586) (by decide +kernel)) rfl
theorem k_566 : Cond.methodLink R_PatternBookLaw 47 y_PatternBookLaw_pack ∈ wt := in_wt (List.mem_of_getElem? (i := 584) (by decide +kernel)) rfl
theorem k_567 : Cond.static y_PatternBookLaw_pack ∈ wt := in_wt (List.mem_of_getElem? (i := 585) (by decide +kernel)) rfl
