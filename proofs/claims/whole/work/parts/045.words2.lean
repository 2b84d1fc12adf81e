theorem k_255 : Cond.fieldLink R_PatternBookModel 24 R_PatternBookModel "code" "I" ∈ wt := in_wt (List.mem_of_getElem? (i := 603) (by decide +kernel)) rfl
theorem k_256 : Cond.code y_PatternBookModel_most b_PatternBookModel_most 1 (some .int) ∈ wt := in_wt (List.mem_of_getElem? (i := 702) (by decide +kernel)) rfl
theorem k_257 : Cond.initialized R_PatternBookModel ∈ wt := in_wt (List.mem_of_getElem? (i := 43) (by decide +kernel)) rfl
theorem k_258 : Cond.methodLink R_PatternBookModel 28 y_PatternBookModel_most ∈ wt := in_wt (List.mem_of_getElem? (i := 700) (by decide +kernel)) rfl
theorem k_259 : Cond.static y_PatternBookModel_most ∈ wt := in_wt (List.mem_of_getElem? (i := 701) (by decide +kernel)) rfl
theorem k_260 : Cond.code y_PatternBookModel_digitsOf b_PatternBookModel_digitsOf 1 (some .int) ∈ wt := in_wt (List.mem_of_getElem? (i := 675) (by decide +kernel)) rfl
theorem k_261 : Cond.methodLink R_PatternBookModel 31 y_PatternBookModel_digitsOf ∈ wt := in_wt (List.mem_of_getElem? (i := 673) (by decide +kernel)) rfl
theorem k_262 : Cond.static y_PatternBookModel_digitsOf ∈ wt := in_wt (List.mem_of_getElem? (i := 674) (by decide +kernel)) rfl
theorem k_263 : Cond.fieldLink R_PatternBookModel 7 R_PatternBookModel "word" "[J" ∈ wt := in_wt (List.mem_of_getElem? (i := 607) (by decide +kernel)) rfl
theorem k_264 : Cond.constantLong R_PatternBookModel 34 4294967295 ∈ wt := in_wt (List.mem_of_getElem? (i := 688) (by decide +kernel)) rfl
theorem k_265 : Cond.code y_PatternBookModel_be b_PatternBookModel_be 4 none ∈ wt := in_wt (List.mem_of_getElem? (i := 687) (by decide +kernel)) rfl
theorem k_266 : Cond.methodLink R_PatternBookModel 36 y_PatternBookModel_be ∈ wt := in_wt (List.mem_of_getElem? (i := 684) (by decide +kernel)) rfl
theorem k_267 : Cond.instanceMethod y_PatternBookModel_be ∈ wt := in_wt (List.mem_of_getElem? (i := 686) (by decide +kernel)) rfl
theorem k_268 : Cond.selects R_PatternBookModel y_PatternBookModel_be y_PatternBookModel_be ∈ wt := in_wt (List.mem_of_getElem? (i := 16) (by decide +kernel)) rfl
theorem k_269 : Cond.code y_PatternBookModel_times b_PatternBookModel_times 9 none ∈ wt := in_wt (List.mem_of_getElem? (i := 692) (by decide +kernel)) rfl
theorem k_270 : Cond.methodLink R_PatternBookModel 40 y_PatternBookModel_times ∈ wt := in_wt (List.mem_of_getElem? (i := 689) (by decide +kernel)) rfl
theorem k_271 : Cond.instanceMethod y_PatternBookModel_times ∈ wt := in_wt (List.mem_of_getElem? (i := 691) (by decide +kernel)) rfl
theorem k_272 : Cond.selects R_PatternBookModel y_PatternBookModel_times y_PatternBookModel_times ∈ wt := in_wt (List.mem_of_getElem? (i := 17) (by decide +kernel)) rfl
theorem k_273 : Cond.fieldLink R_PatternBookModel 48 R_PatternBookModel "lookHigh" "J" ∈ wt := in_wt (List.mem_of_getElem? (i := 610) (by decide +kernel)) rfl
theorem k_274 : Cond.fieldLink R_PatternBookModel 44 R_PatternBookModel "lookLow" "J" ∈ wt := in_wt (List.mem_of_getElem? (i := 611) (by decide +kernel)) rfl
theorem k_275 : Cond.code y_PatternBookModel_bit b_PatternBookModel_bit 2 (some .int) ∈ wt := in_wt (List.mem_of_getElem? (i := 668) (by decide +kernel)) rfl
theorem k_276 : Cond.methodLink R_PatternBookModel 51 y_PatternBookModel_bit ∈ wt := in_wt (List.mem_of_getElem? (i := 665) (by decide +kernel)) rfl
theorem k_277 : Cond.instanceMethod y_PatternBookModel_bit ∈ wt := in_wt (List.mem_of_getElem? (i := 667) (by decide +kernel)) rfl
theorem k_278 : Cond.selects R_PatternBookModel y_PatternBookModel_bit y_PatternBookModel_bit ∈ wt := in_wt (List.mem_of_getElem? (i := 12) (by decide +kernel)) rfl
theorem k_279 : Cond.code y_PatternBookModel_set b_PatternBookModel_set 3 none ∈ wt := in_wt (List.mem_of_getElem? (i := 737) (by decide +kernel)) rfl
theorem k_280 : Cond.methodLink R_PatternBookModel 54 y_PatternBookModel_set ∈ wt := in_wt (List.mem_of_getElem? (i := 734) (by decide +kernel)) rfl
theorem k_281 : Cond.instanceMethod y_PatternBookModel_set ∈ wt := in_wt (List.mem_of_getElem? (i := 736) (by decide +kernel)) rfl
theorem k_282 : Cond.selects R_PatternBookModel y_PatternBookModel_set y_PatternBookModel_set ∈ wt := in_wt (List.mem_of_getElem? (i := 25) (by decide +kernel)) rfl
theorem k_283 : Cond.code y_PatternBookModel_bitOf b_PatternBookModel_bitOf 3 (some .int) ∈ wt := in_wt (List.mem_of_getElem? (i := 753) (by decide +kernel)) rfl
theorem k_284 : Cond.methodLink R_PatternBookModel 58 y_PatternBookModel_bitOf ∈ wt := in_wt (List.mem_of_getElem? (i := 750) (by decide +kernel)) rfl
theorem k_285 : Cond.instanceMethod y_PatternBookModel_bitOf ∈ wt := in_wt (List.mem_of_getElem? (i := 752) (by decide +kernel)) rfl
theorem k_286 : Cond.selects R_PatternBookModel y_PatternBookModel_bitOf y_PatternBookModel_bitOf ∈ wt := in_wt (List.mem_of_getElem? (i := 29) (by decide +kernel)) rfl
theorem k_287 : Cond.code y_PatternBookModel_width b_PatternBookModel_width 1 (some .int) ∈ wt := in_wt (List.mem_of_getElem? (i := 664) (by decide +kernel)) rfl
theorem k_288 : Cond.methodLink R_PatternBookModel 66 y_PatternBookModel_width ∈ wt := in_wt (List.mem_of_getElem? (i := 662) (by decide +kernel)) rfl
theorem k_289 : Cond.static y_PatternBookModel_width ∈ wt := in_wt (List.mem_of_getElem? (i := 663) (by decide +kernel)) rfl
theorem k_290 : Cond.code y_PatternBookModel_take b_PatternBookModel_take 4 none ∈ wt := in_wt (List.mem_of_getElem? (i := 683) (by decide +kernel)) rfl
theorem k_291 : Cond.methodLink R_PatternBookModel 91 y_PatternBookModel_take ∈ wt := in_wt (List.mem_of_getElem? (i := 680) (by decide +kernel)) rfl
theorem k_292 : Cond.instanceMethod y_PatternBookModel_take ∈ wt := in_wt (List.mem_of_getElem? (i := 682) (by decide +kernel)) rfl
theorem k_293 : Cond.selects R_PatternBookModel y_PatternBookModel_take y_PatternBookModel_take ∈ wt := in_wt (List.mem_of_getElem? (i := 15) (by decide +kernel)) rfl
theorem k_294 : Cond.code y_PatternBookModel_power b_PatternBookModel_power 5 none ∈ wt := in_wt (List.mem_of_getElem? (i := 721) (by decide +kernel)) rfl
theorem k_295 : Cond.methodLink R_PatternBookModel 111 y_PatternBookModel_power ∈ wt := in_wt (List.mem_of_getElem? (i := 718) (by decide +kernel)) rfl
theorem k_296 : Cond.instanceMethod y_PatternBookModel_power ∈ wt := in_wt (List.mem_of_getElem? (i := 720) (by decide +kernel)) rfl
theorem k_297 : Cond.selects R_PatternBookModel y_PatternBookModel_power y_PatternBookModel_power ∈ wt := in_wt (List.mem_of_getElem? (i := 22) (by decide +kernel)) rfl
theorem k_298 : Cond.code y_PatternBookModel_isBelow b_PatternBookModel_isBelow 4 (some .boolean) ∈ wt := in_wt (List.mem_of_getElem? (i := 725) (by decide +kernel)) rfl
theorem k_299 : Cond.methodLink R_PatternBookModel 114 y_PatternBookModel_isBelow ∈ wt := in_wt (List.mem_of_getElem? (i := 722) (by decide +kernel)) rfl
theorem k_300 : Cond.instanceMethod y_PatternBookModel_isBelow ∈ wt := in_wt (List.mem_of_getElem? (i := 724) (by decide +kernel)) rfl
theorem k_301 : Cond.selects R_PatternBookModel y_PatternBookModel_isBelow y_PatternBookModel_isBelow ∈ wt := in_wt (List.mem_of_getElem? (i := 23) (by decide +kernel)) rfl
theorem k_302 : Cond.code y_PatternBookModel_tail b_PatternBookModel_tail 1 (some .int) ∈ wt := in_wt (List.mem_of_getElem? (i := 709) (by decide +kernel)) rfl
theorem k_303 : Cond.methodLink R_PatternBookModel 101 y_PatternBookModel_tail ∈ wt := in_wt (List.mem_of_getElem? (i := 707) (by decide +kernel)) rfl
theorem k_304 : Cond.static y_PatternBookModel_tail ∈ wt := in_wt (List.mem_of_getElem? (i := 708) (by decide +kernel)) rfl
theorem k_305 : Cond.fieldLink R_PatternBookModel 13 R_PatternBookModel "spelled" "[I" ∈ wt := in_wt (List.mem_of_getElem? (i := 612) (by decide +kernel)) rfl
theorem k_306 : Cond.code y_PatternBookModel_field b_PatternBookModel_field 5 (some .int) ∈ wt := in_wt (List.mem_of_getElem? (i := 679) (by decide +kernel)) rfl
theorem k_307 : Cond.methodLink R_PatternBookModel 88 y_PatternBookModel_field ∈ wt := in_wt (List.mem_of_getElem? (i := 676) (by decide +kernel)) rfl
theorem k_308 : Cond.instanceMethod y_PatternBookModel_field ∈ wt := in_wt (List.mem_of_getElem? (i := 678) (by decide +kernel)) rfl
theorem k_309 : Cond.selects R_PatternBookModel y_PatternBookModel_field y_PatternBookModel_field ∈ wt := in_wt (List.mem_of_getElem? (i := 14) (by decide +kernel)) rfl
theorem k_310 : Cond.code y_PatternBookModel_least b_PatternBookModel_least 1 (some .int) ∈ wt := in_wt (List.mem_of_getElem? (i := 699) (by decide +kernel)) rfl
theorem k_311 : Cond.methodLink R_PatternBookModel 98 y_PatternBookModel_least ∈ wt := in_wt (List.mem_of_getElem? (i := 697) (by decide +kernel)) rfl
theorem k_312 : Cond.static y_PatternBookModel_least ∈ wt := in_wt (List.mem_of_getElem? (i := 698) (by decide +kernel)) rfl
theorem k_313 : Cond.fieldLink R_PatternBookModel 79 R_PatternBookModel "exponent" "I" ∈ wt := in_wt (List.mem_of_getElem? (i := 606) (by decide +kernel)) rfl
theorem k_314 : Cond.code y_PatternBookModel_isZero b_PatternBookModel_isZero 2 (some .boolean) ∈ wt := in_wt (List.mem_of_getElem? (i := 696) (by decide +kernel)) rfl
theorem k_315 : Cond.methodLink R_PatternBookModel 94 y_PatternBookModel_isZero ∈ wt := in_wt (List.mem_of_getElem? (i := 693) (by decide +kernel)) rfl
theorem k_316 : Cond.instanceMethod y_PatternBookModel_isZero ∈ wt := in_wt (List.mem_of_getElem? (i := 695) (by decide +kernel)) rfl
theorem k_317 : Cond.selects R_PatternBookModel y_PatternBookModel_isZero y_PatternBookModel_isZero ∈ wt := in_wt (List.mem_of_getElem? (i := 18) (by decide +kernel)) rfl
theorem k_318 : Cond.fieldLink R_PatternBookModel 76 R_PatternBookModel "kind" "I" ∈ wt := in_wt (List.mem_of_getElem? (i := 604) (by decide +kernel)) rfl
theorem k_319 : Cond.code y_PatternBookModel_takeAtMost b_PatternBookModel_takeAtMost 6 none ∈ wt := in_wt (List.mem_of_getElem? (i := 717) (by decide +kernel)) rfl
theorem k_320 : Cond.methodLink R_PatternBookModel 107 y_PatternBookModel_takeAtMost ∈ wt := in_wt (List.mem_of_getElem? (i := 714) (by decide +kernel)) rfl
theorem k_321 : Cond.instanceMethod y_PatternBookModel_takeAtMost ∈ wt := in_wt (List.mem_of_getElem? (i := 716) (by decide +kernel)) rfl
theorem k_322 : Cond.selects R_PatternBookModel y_PatternBookModel_takeAtMost y_PatternBookModel_takeAtMost ∈ wt := in_wt (List.mem_of_getElem? (i := 21) (by decide +kernel)) rfl
theorem k_323 : Cond.code y_PatternBookModel_takeDigits b_PatternBookModel_takeDigits 3 none ∈ wt := in_wt (List.mem_of_getElem? (i := 713) (by decide +kernel)) rfl
theorem k_324 : Cond.methodLink R_PatternBookModel 104 y_PatternBookModel_takeDigits ∈ wt := in_wt (List.mem_of_getElem? (i := 710) (by decide +kernel)) rfl
theorem k_325 : Cond.instanceMethod y_PatternBookModel_takeDigits ∈ wt := in_wt (List.mem_of_getElem? (i := 712) (by decide +kernel)) rfl
theorem k_326 : Cond.selects R_PatternBookModel y_PatternBookModel_takeDigits y_PatternBookModel_takeDigits ∈ wt := in_wt (List.mem_of_getElem? (i := 20) (by decide +kernel)) rfl
theorem k_327 : Cond.code y_PatternBookModel_mask b_PatternBookModel_mask 3 none ∈ wt := in_wt (List.mem_of_getElem? (i := 661) (by decide +kernel)) rfl
theorem k_328 : Cond.methodLink R_PatternBookModel 69 y_PatternBookModel_mask ∈ wt := in_wt (List.mem_of_getElem? (i := 658) (by decide +kernel)) rfl
theorem k_329 : Cond.instanceMethod y_PatternBookModel_mask ∈ wt := in_wt (List.mem_of_getElem? (i := 660) (by decide +kernel)) rfl
theorem k_330 : Cond.selects R_PatternBookModel y_PatternBookModel_mask y_PatternBookModel_mask ∈ wt := in_wt (List.mem_of_getElem? (i := 11) (by decide +kernel)) rfl
theorem k_331 : Cond.fieldLink R_PatternBookModel 73 R_PatternBookModel "sign" "I" ∈ wt := in_wt (List.mem_of_getElem? (i := 605) (by decide +kernel)) rfl
theorem k_332 : Cond.code y_PatternBookModel_openDecimal b_PatternBookModel_openDecimal 10 none ∈ wt := in_wt (List.mem_of_getElem? (i := 706) (by decide +kernel)) rfl
theorem k_333 : Cond.methodLink R_PatternBookModel 85 y_PatternBookModel_openDecimal ∈ wt := in_wt (List.mem_of_getElem? (i := 703) (by decide +kernel)) rfl
theorem k_334 : Cond.instanceMethod y_PatternBookModel_openDecimal ∈ wt := in_wt (List.mem_of_getElem? (i := 705) (by decide +kernel)) rfl
theorem k_335 : Cond.selects R_PatternBookModel y_PatternBookModel_openDecimal y_PatternBookModel_openDecimal ∈ wt := in_wt (List.mem_of_getElem? (i := 19) (by decide +kernel)) rfl
theorem k_336 : Cond.code y_PatternBookModel_openBinary b_PatternBookModel_openBinary 5 none ∈ wt := in_wt (List.mem_of_getElem? (i := 672) (by decide +kernel)) rfl
theorem k_337 : Cond.methodLink R_PatternBookModel 82 y_PatternBookModel_openBinary ∈ wt := in_wt (List.mem_of_getElem? (i := 669) (by decide +kernel)) rfl
theorem k_338 : Cond.instanceMethod y_PatternBookModel_openBinary ∈ wt := in_wt (List.mem_of_getElem? (i := 671) (by decide +kernel)) rfl
theorem k_339 : Cond.selects R_PatternBookModel y_PatternBookModel_openBinary y_PatternBookModel_openBinary ∈ wt := in_wt (List.mem_of_getElem? (i := 13) (by decide +kernel)) rfl
theorem k_340 : Cond.code y_PatternBookModel_greatest b_PatternBookModel_greatest 1 (some .int) ∈ wt := in_wt (List.mem_of_getElem? (i := 780) (by decide +kernel)) rfl
theorem k_341 : Cond.methodLink R_PatternBookModel 118 y_PatternBookModel_greatest ∈ wt := in_wt (List.mem_of_getElem? (i := 778) (by decide +kernel)) rfl
theorem k_342 : Cond.static y_PatternBookModel_greatest ∈ wt := in_wt (List.mem_of_getElem? (i := 779) (by decide +kernel)) rfl
theorem k_343 : Cond.code y_PatternBookModel_lay b_PatternBookModel_lay 5 none ∈ wt := in_wt (List.mem_of_getElem? (i := 745) (by decide +kernel)) rfl
theorem k_344 : Cond.methodLink R_PatternBookModel 127 y_PatternBookModel_lay ∈ wt := in_wt (List.mem_of_getElem? (i := 742) (by decide +kernel)) rfl
theorem k_345 : Cond.instanceMethod y_PatternBookModel_lay ∈ wt := in_wt (List.mem_of_getElem? (i := 744) (by decide +kernel)) rfl
theorem k_346 : Cond.selects R_PatternBookModel y_PatternBookModel_lay y_PatternBookModel_lay ∈ wt := in_wt (List.mem_of_getElem? (i := 27) (by decide +kernel)) rfl
theorem k_347 : Cond.code y_PatternBookModel_layNumber b_PatternBookModel_layNumber 4 none ∈ wt := in_wt (List.mem_of_getElem? (i := 749) (by decide +kernel)) rfl
theorem k_348 : Cond.methodLink R_PatternBookModel 130 y_PatternBookModel_layNumber ∈ wt := in_wt (List.mem_of_getElem? (i := 746) (by decide +kernel)) rfl
theorem k_349 : Cond.instanceMethod y_PatternBookModel_layNumber ∈ wt := in_wt (List.mem_of_getElem? (i := 748) (by decide +kernel)) rfl
theorem k_350 : Cond.selects R_PatternBookModel y_PatternBookModel_layNumber y_PatternBookModel_layNumber ∈ wt := in_wt (List.mem_of_getElem? (i := 28) (by decide +kernel)) rfl
theorem k_351 : Cond.fieldLink R_PatternBookModel 17 R_PatternBookModel "made" "[I" ∈ wt := in_wt (List.mem_of_getElem? (i := 613) (by decide +kernel)) rfl
theorem k_352 : Cond.code y_PatternBookModel_over b_PatternBookModel_over 8 (some .int) ∈ wt := in_wt (List.mem_of_getElem? (i := 765) (by decide +kernel)) rfl
theorem k_353 : Cond.methodLink R_PatternBookModel 133 y_PatternBookModel_over ∈ wt := in_wt (List.mem_of_getElem? (i := 762) (by decide +kernel)) rfl
theorem k_354 : Cond.instanceMethod y_PatternBookModel_over ∈ wt := in_wt (List.mem_of_getElem? (i := 764) (by decide +kernel)) rfl
theorem k_355 : Cond.selects R_PatternBookModel y_PatternBookModel_over y_PatternBookModel_over ∈ wt := in_wt (List.mem_of_getElem? (i := 32) (by decide +kernel)) rfl
theorem k_356 : Cond.code y_PatternBookModel_layDigits b_PatternBookModel_layDigits 3 (some .int) ∈ wt := in_wt (List.mem_of_getElem? (i := 761) (by decide +kernel)) rfl
theorem k_357 : Cond.methodLink R_PatternBookModel 136 y_PatternBookModel_layDigits ∈ wt := in_wt (List.mem_of_getElem? (i := 758) (by decide +kernel)) rfl
theorem k_358 : Cond.instanceMethod y_PatternBookModel_layDigits ∈ wt := in_wt (List.mem_of_getElem? (i := 760) (by decide +kernel)) rfl
theorem k_359 : Cond.selects R_PatternBookModel y_PatternBookModel_layDigits y_PatternBookModel_layDigits ∈ wt := in_wt (List.mem_of_getElem? (i := 31) (by decide +kernel)) rfl
theorem k_360 : Cond.code y_PatternBookModel_closeDecimal b_PatternBookModel_closeDecimal 8 none ∈ wt := in_wt (List.mem_of_getElem? (i := 757) (by decide +kernel)) rfl
theorem k_361 : Cond.methodLink R_PatternBookModel 124 y_PatternBookModel_closeDecimal ∈ wt := in_wt (List.mem_of_getElem? (i := 754) (by decide +kernel)) rfl
theorem k_362 : Cond.instanceMethod y_PatternBookModel_closeDecimal ∈ wt := in_wt (List.mem_of_getElem? (i := 756) (by decide +kernel)) rfl
theorem k_363 : Cond.selects R_PatternBookModel y_PatternBookModel_closeDecimal y_PatternBookModel_closeDecimal ∈ wt := in_wt (List.mem_of_getElem? (i := 30) (by decide +kernel)) rfl
theorem k_364 : Cond.code y_PatternBookModel_closeBinary b_PatternBookModel_closeBinary 4 none ∈ wt := in_wt (List.mem_of_getElem? (i := 741) (by decide +kernel)) rfl
theorem k_365 : Cond.methodLink R_PatternBookModel 121 y_PatternBookModel_closeBinary ∈ wt := in_wt (List.mem_of_getElem? (i := 738) (by decide +kernel)) rfl
theorem k_366 : Cond.instanceMethod y_PatternBookModel_closeBinary ∈ wt := in_wt (List.mem_of_getElem? (i := 740) (by decide +kernel)) rfl
theorem k_367 : Cond.selects R_PatternBookModel y_PatternBookModel_closeBinary y_PatternBookModel_closeBinary ∈ wt := in_wt (List.mem_of_getElem? (i := 26) (by decide +kernel)) rfl
theorem k_368 : Cond.code y_PatternBookModel_isFormat b_PatternBookModel_isFormat 1 (some .boolean) ∈ wt := in_wt (List.mem_of_getElem? (i := 653) (by decide +kernel)) rfl
theorem k_369 : Cond.methodLink R_PatternBookModel 139 y_PatternBookModel_isFormat ∈ wt := in_wt (List.mem_of_getElem? (i := 651) (by decide +kernel)) rfl
theorem k_370 : Cond.static y_PatternBookModel_isFormat ∈ wt := in_wt (List.mem_of_getElem? (i := 652) (by decide +kernel)) rfl
theorem k_371 : Cond.code y_PatternBookModel_asks b_PatternBookModel_asks 2 (some .boolean) ∈ wt := in_wt (List.mem_of_getElem? (i := 650) (by decide +kernel)) rfl
theorem k_372 : Cond.methodLink R_PatternBookModel 142 y_PatternBookModel_asks ∈ wt := in_wt (List.mem_of_getElem? (i := 647) (by decide +kernel)) rfl
theorem k_373 : Cond.instanceMethod y_PatternBookModel_asks ∈ wt := in_wt (List.mem_of_getElem? (i := 649) (by decide +kernel)) rfl
theorem k_374 : Cond.selects R_PatternBookModel y_PatternBookModel_asks y_PatternBookModel_asks ∈ wt := in_wt (List.mem_of_getElem? (i := 9) (by decide +kernel)) rfl
theorem k_375 : Cond.code y_PatternBookModel_open b_PatternBookModel_open 2 none ∈ wt := in_wt (List.mem_of_getElem? (i := 657) (by decide +kernel)) rfl
theorem k_376 : Cond.methodLink R_PatternBookModel 145 y_PatternBookModel_open ∈ wt := in_wt (List.mem_of_getElem? (i := 654) (by decide +kernel)) rfl
theorem k_377 : Cond.instanceMethod y_PatternBookModel_open ∈ wt := in_wt (List.mem_of_getElem? (i := 656) (by decide +kernel)) rfl
theorem k_378 : Cond.selects R_PatternBookModel y_PatternBookModel_open y_PatternBookModel_open ∈ wt := in_wt (List.mem_of_getElem? (i := 10) (by decide +kernel)) rfl
theorem k_379 : Cond.code y_PatternBookModel_close b_PatternBookModel_close 2 none ∈ wt := in_wt (List.mem_of_getElem? (i := 733) (by decide +kernel)) rfl
theorem k_380 : Cond.methodLink R_PatternBookModel 148 y_PatternBookModel_close ∈ wt := in_wt (List.mem_of_getElem? (i := 730) (by decide +kernel)) rfl
theorem k_381 : Cond.instanceMethod y_PatternBookModel_close ∈ wt := in_wt (List.mem_of_getElem? (i := 732) (by decide +kernel)) rfl
theorem k_382 : Cond.selects R_PatternBookModel y_PatternBookModel_close y_PatternBookModel_close ∈ wt := in_wt (List.mem_of_getElem? (i := 24) (by decide +kernel)) rfl
theorem k_383 : Cond.code y_PatternBookModel_fits b_PatternBookModel_fits 3 (some .boolean) ∈ wt := in_wt (List.mem_of_getElem? (i := 777) (by decide +kernel)) rfl
theorem k_384 : Cond.methodLink R_PatternBookModel 151 y_PatternBookModel_fits ∈ wt := in_wt (List.mem_of_getElem? (i := 774) (by decide +kernel)) rfl
theorem k_385 : Cond.instanceMethod y_PatternBookModel_fits ∈ wt := in_wt (List.mem_of_getElem? (i := 776) (by decide +kernel)) rfl
theorem k_386 : Cond.selects R_PatternBookModel y_PatternBookModel_fits y_PatternBookModel_fits ∈ wt := in_wt (List.mem_of_getElem? (i := 33) (by decide +kernel)) rfl
theorem k_387 : Cond.fieldLink R_PatternBookModel 154 R_PatternBookModel "high" "J" ∈ wt := in_wt (List.mem_of_getElem? (i := 608) (by decide +kernel)) rfl
theorem k_388 : Cond.fieldLink R_PatternBookModel 157 R_PatternBookModel "low" "J" ∈ wt := in_wt (List.mem_of_getElem? (i := 609) (by decide +kernel)) rfl
