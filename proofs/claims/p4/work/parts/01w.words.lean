theorem tb_225 : Cond.code yqX_within cqX_within 3 (some .boolean) ∈ gtb := List.mem_filter.mpr ⟨List.mem_of_getElem? (i := 225) (by decide +kernel), by decide +kernel⟩
theorem tb_223 : Cond.methodLink RqX 61 yqX_within ∈ gtb := List.mem_filter.mpr ⟨List.mem_of_getElem? (i := 223) (by decide +kernel), by decide +kernel⟩
theorem tb_224 : Cond.static yqX_within ∈ gtb := List.mem_filter.mpr ⟨List.mem_of_getElem? (i := 224) (by decide +kernel), by decide +kernel⟩
theorem tb_25 : Cond.initialized RqX ∈ gtb := List.mem_filter.mpr ⟨List.mem_of_getElem? (i := 25) (by decide +kernel), by decide +kernel⟩
theorem tb_471 : Cond.code yqJ_floorDiv cqJ_floorDiv 6 (some .long) ∈ gtb := List.mem_filter.mpr ⟨List.mem_of_getElem? (i := 471) (by decide +kernel), by decide +kernel⟩
theorem tb_469 : Cond.methodLink RqX 209 yqJ_floorDiv ∈ gtb := List.mem_filter.mpr ⟨List.mem_of_getElem? (i := 469) (by decide +kernel), by decide +kernel⟩
theorem tb_470 : Cond.static yqJ_floorDiv ∈ gtb := List.mem_filter.mpr ⟨List.mem_of_getElem? (i := 470) (by decide +kernel), by decide +kernel⟩
theorem tb_34 : Cond.initialized RqJ ∈ gtb := List.mem_filter.mpr ⟨List.mem_of_getElem? (i := 34) (by decide +kernel), by decide +kernel⟩
theorem tb_468 : Cond.code yqX_dividedDown cqX_dividedDown 4 (some .long) ∈ gtb := List.mem_filter.mpr ⟨List.mem_of_getElem? (i := 468) (by decide +kernel), by decide +kernel⟩
theorem tb_466 : Cond.methodLink RqX 215 yqX_dividedDown ∈ gtb := List.mem_filter.mpr ⟨List.mem_of_getElem? (i := 466) (by decide +kernel), by decide +kernel⟩
theorem tb_467 : Cond.static yqX_dividedDown ∈ gtb := List.mem_filter.mpr ⟨List.mem_of_getElem? (i := 467) (by decide +kernel), by decide +kernel⟩
theorem tb_486 : Cond.methodLink RqX 218 Lib.MathLoose.max_long.x ∈ gtb := List.mem_filter.mpr ⟨List.mem_of_getElem? (i := 486) (by decide +kernel), by decide +kernel⟩
theorem tb_473 : Cond.static Lib.MathLoose.max_long.x ∈ gtb := List.mem_filter.mpr ⟨List.mem_of_getElem? (i := 473) (by decide +kernel), by decide +kernel⟩
theorem tb_474 : Cond.code Lib.MathLoose.max_long.x Lib.MathLoose.max_long.code 4 (some .long) ∈ gtb := List.mem_filter.mpr ⟨List.mem_of_getElem? (i := 474) (by decide +kernel), by decide +kernel⟩
theorem tb_53 : Cond.fieldLink RqCo 26 "SpringSpaces$Columns" "base" "I" ∈ gtb := List.mem_filter.mpr ⟨List.mem_of_getElem? (i := 53) (by decide +kernel), by decide +kernel⟩
theorem tb_54 : Cond.fieldLink RqCo 29 "SpringSpaces$Columns" "more" "I" ∈ gtb := List.mem_filter.mpr ⟨List.mem_of_getElem? (i := 54) (by decide +kernel), by decide +kernel⟩
theorem tb_52 : Cond.fieldLink RqCo 22 "SpringSpaces$Columns" "count" "I" ∈ gtb := List.mem_filter.mpr ⟨List.mem_of_getElem? (i := 52) (by decide +kernel), by decide +kernel⟩
theorem tb_49 : Cond.fieldLink RqCo 9 "SpringSpaces$Columns" "times" "[I" ∈ gtb := List.mem_filter.mpr ⟨List.mem_of_getElem? (i := 49) (by decide +kernel), by decide +kernel⟩
theorem tb_50 : Cond.fieldLink RqCo 15 "SpringSpaces$Columns" "leasts" "[I" ∈ gtb := List.mem_filter.mpr ⟨List.mem_of_getElem? (i := 50) (by decide +kernel), by decide +kernel⟩
theorem tb_51 : Cond.fieldLink RqCo 18 "SpringSpaces$Columns" "bars" "[Z" ∈ gtb := List.mem_filter.mpr ⟨List.mem_of_getElem? (i := 51) (by decide +kernel), by decide +kernel⟩
theorem tb_276 : Cond.constantLong RqCo 36 65536 ∈ gtb := List.mem_filter.mpr ⟨List.mem_of_getElem? (i := 276) (by decide +kernel), by decide +kernel⟩
theorem tb_76 : Cond.fieldLink RqIt 9 "SpringSpaces$Items" "there" "[Z" ∈ gtb := List.mem_filter.mpr ⟨List.mem_of_getElem? (i := 76) (by decide +kernel), by decide +kernel⟩
theorem tb_307 : Cond.code yqIt_seat cqIt_seat 2 (some .int) ∈ gtb := List.mem_filter.mpr ⟨List.mem_of_getElem? (i := 307) (by decide +kernel), by decide +kernel⟩
theorem tb_305 : Cond.methodLink RqIt 22 yqIt_seat ∈ gtb := List.mem_filter.mpr ⟨List.mem_of_getElem? (i := 305) (by decide +kernel), by decide +kernel⟩
theorem tb_306 : Cond.static yqIt_seat ∈ gtb := List.mem_filter.mpr ⟨List.mem_of_getElem? (i := 306) (by decide +kernel), by decide +kernel⟩
theorem tb_27 : Cond.initialized RqIt ∈ gtb := List.mem_filter.mpr ⟨List.mem_of_getElem? (i := 27) (by decide +kernel), by decide +kernel⟩
theorem tb_77 : Cond.fieldLink RqIt 15 "SpringSpaces$Items" "lefts" "[I" ∈ gtb := List.mem_filter.mpr ⟨List.mem_of_getElem? (i := 77) (by decide +kernel), by decide +kernel⟩
theorem tb_78 : Cond.fieldLink RqIt 19 "SpringSpaces$Items" "rights" "[I" ∈ gtb := List.mem_filter.mpr ⟨List.mem_of_getElem? (i := 78) (by decide +kernel), by decide +kernel⟩
theorem tb_96 : Cond.fieldLink RqRo 25 "SpringSpaces$Rods" "numbers" "I" ∈ gtb := List.mem_filter.mpr ⟨List.mem_of_getElem? (i := 96) (by decide +kernel), by decide +kernel⟩
theorem tb_92 : Cond.fieldLink RqRo 9 "SpringSpaces$Rods" "there" "[Z" ∈ gtb := List.mem_filter.mpr ⟨List.mem_of_getElem? (i := 92) (by decide +kernel), by decide +kernel⟩
theorem tb_93 : Cond.fieldLink RqRo 15 "SpringSpaces$Rods" "froms" "[I" ∈ gtb := List.mem_filter.mpr ⟨List.mem_of_getElem? (i := 93) (by decide +kernel), by decide +kernel⟩
theorem tb_94 : Cond.fieldLink RqRo 19 "SpringSpaces$Rods" "tos" "[I" ∈ gtb := List.mem_filter.mpr ⟨List.mem_of_getElem? (i := 94) (by decide +kernel), by decide +kernel⟩
theorem tb_95 : Cond.fieldLink RqRo 22 "SpringSpaces$Rods" "widths" "[I" ∈ gtb := List.mem_filter.mpr ⟨List.mem_of_getElem? (i := 95) (by decide +kernel), by decide +kernel⟩
theorem tb_97 : Cond.fieldLink RqRo 29 "SpringSpaces$Rods" "count" "I" ∈ gtb := List.mem_filter.mpr ⟨List.mem_of_getElem? (i := 97) (by decide +kernel), by decide +kernel⟩
theorem tb_120 : Cond.fieldLink RqNe 21 "SpringSpaces$Needs" "count" "I" ∈ gtb := List.mem_filter.mpr ⟨List.mem_of_getElem? (i := 120) (by decide +kernel), by decide +kernel⟩
theorem tb_117 : Cond.fieldLink RqNe 9 "SpringSpaces$Needs" "froms" "[I" ∈ gtb := List.mem_filter.mpr ⟨List.mem_of_getElem? (i := 117) (by decide +kernel), by decide +kernel⟩
theorem tb_118 : Cond.fieldLink RqNe 15 "SpringSpaces$Needs" "tos" "[I" ∈ gtb := List.mem_filter.mpr ⟨List.mem_of_getElem? (i := 118) (by decide +kernel), by decide +kernel⟩
theorem tb_119 : Cond.fieldLink RqNe 18 "SpringSpaces$Needs" "widths" "[I" ∈ gtb := List.mem_filter.mpr ⟨List.mem_of_getElem? (i := 119) (by decide +kernel), by decide +kernel⟩
theorem tb_315 : Cond.code yqIt_have cqIt_have 3 (some .boolean) ∈ gtb := List.mem_filter.mpr ⟨List.mem_of_getElem? (i := 315) (by decide +kernel), by decide +kernel⟩
theorem tb_380 : Cond.methodLink RqNe 53 yqIt_have ∈ gtb := List.mem_filter.mpr ⟨List.mem_of_getElem? (i := 380) (by decide +kernel), by decide +kernel⟩
theorem tb_313 : Cond.instanceMethod yqIt_have ∈ gtb := List.mem_filter.mpr ⟨List.mem_of_getElem? (i := 313) (by decide +kernel), by decide +kernel⟩
theorem tb_314 : Cond.selects RqIt yqIt_have yqIt_have ∈ gtb := List.mem_filter.mpr ⟨List.mem_of_getElem? (i := 314) (by decide +kernel), by decide +kernel⟩
theorem tb_384 : Cond.code yqIt_rightOf cqIt_rightOf 3 (some .int) ∈ gtb := List.mem_filter.mpr ⟨List.mem_of_getElem? (i := 384) (by decide +kernel), by decide +kernel⟩
theorem tb_381 : Cond.methodLink RqNe 58 yqIt_rightOf ∈ gtb := List.mem_filter.mpr ⟨List.mem_of_getElem? (i := 381) (by decide +kernel), by decide +kernel⟩
theorem tb_382 : Cond.instanceMethod yqIt_rightOf ∈ gtb := List.mem_filter.mpr ⟨List.mem_of_getElem? (i := 382) (by decide +kernel), by decide +kernel⟩
theorem tb_383 : Cond.selects RqIt yqIt_rightOf yqIt_rightOf ∈ gtb := List.mem_filter.mpr ⟨List.mem_of_getElem? (i := 383) (by decide +kernel), by decide +kernel⟩
theorem tb_388 : Cond.code yqIt_leftOf cqIt_leftOf 3 (some .int) ∈ gtb := List.mem_filter.mpr ⟨List.mem_of_getElem? (i := 388) (by decide +kernel), by decide +kernel⟩
theorem tb_385 : Cond.methodLink RqNe 62 yqIt_leftOf ∈ gtb := List.mem_filter.mpr ⟨List.mem_of_getElem? (i := 385) (by decide +kernel), by decide +kernel⟩
theorem tb_386 : Cond.instanceMethod yqIt_leftOf ∈ gtb := List.mem_filter.mpr ⟨List.mem_of_getElem? (i := 386) (by decide +kernel), by decide +kernel⟩
theorem tb_387 : Cond.selects RqIt yqIt_leftOf yqIt_leftOf ∈ gtb := List.mem_filter.mpr ⟨List.mem_of_getElem? (i := 387) (by decide +kernel), by decide +kernel⟩
theorem tb_392 : Cond.code yqNe_note cqNe_note 4 (none) ∈ gtb := List.mem_filter.mpr ⟨List.mem_of_getElem? (i := 392) (by decide +kernel), by decide +kernel⟩
theorem tb_389 : Cond.methodLink RqNe 49 yqNe_note ∈ gtb := List.mem_filter.mpr ⟨List.mem_of_getElem? (i := 389) (by decide +kernel), by decide +kernel⟩
theorem tb_391 : Cond.instanceMethod yqNe_note ∈ gtb := List.mem_filter.mpr ⟨List.mem_of_getElem? (i := 391) (by decide +kernel), by decide +kernel⟩
theorem tb_3 : Cond.selects RqNe yqNe_note yqNe_note ∈ gtb := List.mem_filter.mpr ⟨List.mem_of_getElem? (i := 3) (by decide +kernel), by decide +kernel⟩
theorem tb_29 : Cond.initialized RqNe ∈ gtb := List.mem_filter.mpr ⟨List.mem_of_getElem? (i := 29) (by decide +kernel), by decide +kernel⟩
theorem tb_396 : Cond.code yqRo_numbersGiven cqRo_numbersGiven 1 (some .int) ∈ gtb := List.mem_filter.mpr ⟨List.mem_of_getElem? (i := 396) (by decide +kernel), by decide +kernel⟩
theorem tb_393 : Cond.methodLink RqNe 29 yqRo_numbersGiven ∈ gtb := List.mem_filter.mpr ⟨List.mem_of_getElem? (i := 393) (by decide +kernel), by decide +kernel⟩
theorem tb_394 : Cond.instanceMethod yqRo_numbersGiven ∈ gtb := List.mem_filter.mpr ⟨List.mem_of_getElem? (i := 394) (by decide +kernel), by decide +kernel⟩
theorem tb_395 : Cond.selects RqRo yqRo_numbersGiven yqRo_numbersGiven ∈ gtb := List.mem_filter.mpr ⟨List.mem_of_getElem? (i := 395) (by decide +kernel), by decide +kernel⟩
theorem tb_28 : Cond.initialized RqRo ∈ gtb := List.mem_filter.mpr ⟨List.mem_of_getElem? (i := 28) (by decide +kernel), by decide +kernel⟩
theorem tb_339 : Cond.code yqRo_have cqRo_have 2 (some .boolean) ∈ gtb := List.mem_filter.mpr ⟨List.mem_of_getElem? (i := 339) (by decide +kernel), by decide +kernel⟩
theorem tb_397 : Cond.methodLink RqNe 35 yqRo_have ∈ gtb := List.mem_filter.mpr ⟨List.mem_of_getElem? (i := 397) (by decide +kernel), by decide +kernel⟩
theorem tb_337 : Cond.instanceMethod yqRo_have ∈ gtb := List.mem_filter.mpr ⟨List.mem_of_getElem? (i := 337) (by decide +kernel), by decide +kernel⟩
theorem tb_338 : Cond.selects RqRo yqRo_have yqRo_have ∈ gtb := List.mem_filter.mpr ⟨List.mem_of_getElem? (i := 338) (by decide +kernel), by decide +kernel⟩
theorem tb_401 : Cond.code yqRo_fromOf cqRo_fromOf 2 (some .int) ∈ gtb := List.mem_filter.mpr ⟨List.mem_of_getElem? (i := 401) (by decide +kernel), by decide +kernel⟩
theorem tb_398 : Cond.methodLink RqNe 39 yqRo_fromOf ∈ gtb := List.mem_filter.mpr ⟨List.mem_of_getElem? (i := 398) (by decide +kernel), by decide +kernel⟩
theorem tb_399 : Cond.instanceMethod yqRo_fromOf ∈ gtb := List.mem_filter.mpr ⟨List.mem_of_getElem? (i := 399) (by decide +kernel), by decide +kernel⟩
theorem tb_400 : Cond.selects RqRo yqRo_fromOf yqRo_fromOf ∈ gtb := List.mem_filter.mpr ⟨List.mem_of_getElem? (i := 400) (by decide +kernel), by decide +kernel⟩
theorem tb_405 : Cond.code yqRo_toOf cqRo_toOf 2 (some .int) ∈ gtb := List.mem_filter.mpr ⟨List.mem_of_getElem? (i := 405) (by decide +kernel), by decide +kernel⟩
theorem tb_402 : Cond.methodLink RqNe 43 yqRo_toOf ∈ gtb := List.mem_filter.mpr ⟨List.mem_of_getElem? (i := 402) (by decide +kernel), by decide +kernel⟩
theorem tb_403 : Cond.instanceMethod yqRo_toOf ∈ gtb := List.mem_filter.mpr ⟨List.mem_of_getElem? (i := 403) (by decide +kernel), by decide +kernel⟩
theorem tb_404 : Cond.selects RqRo yqRo_toOf yqRo_toOf ∈ gtb := List.mem_filter.mpr ⟨List.mem_of_getElem? (i := 404) (by decide +kernel), by decide +kernel⟩
theorem tb_409 : Cond.code yqRo_widthOf cqRo_widthOf 2 (some .int) ∈ gtb := List.mem_filter.mpr ⟨List.mem_of_getElem? (i := 409) (by decide +kernel), by decide +kernel⟩
theorem tb_406 : Cond.methodLink RqNe 46 yqRo_widthOf ∈ gtb := List.mem_filter.mpr ⟨List.mem_of_getElem? (i := 406) (by decide +kernel), by decide +kernel⟩
theorem tb_407 : Cond.instanceMethod yqRo_widthOf ∈ gtb := List.mem_filter.mpr ⟨List.mem_of_getElem? (i := 407) (by decide +kernel), by decide +kernel⟩
theorem tb_408 : Cond.selects RqRo yqRo_widthOf yqRo_widthOf ∈ gtb := List.mem_filter.mpr ⟨List.mem_of_getElem? (i := 408) (by decide +kernel), by decide +kernel⟩
theorem tb_379 : Cond.code yqNe_gatherStaff cqNe_gatherStaff 7 (none) ∈ gtb := List.mem_filter.mpr ⟨List.mem_of_getElem? (i := 379) (by decide +kernel), by decide +kernel⟩
theorem tb_376 : Cond.methodLink RqNe 25 yqNe_gatherStaff ∈ gtb := List.mem_filter.mpr ⟨List.mem_of_getElem? (i := 376) (by decide +kernel), by decide +kernel⟩
theorem tb_378 : Cond.instanceMethod yqNe_gatherStaff ∈ gtb := List.mem_filter.mpr ⟨List.mem_of_getElem? (i := 378) (by decide +kernel), by decide +kernel⟩
theorem tb_2 : Cond.selects RqNe yqNe_gatherStaff yqNe_gatherStaff ∈ gtb := List.mem_filter.mpr ⟨List.mem_of_getElem? (i := 2) (by decide +kernel), by decide +kernel⟩
theorem tb_142 : Cond.fieldLink RqFo 7 "SpringSpaces$Force" "above" "J" ∈ gtb := List.mem_filter.mpr ⟨List.mem_of_getElem? (i := 142) (by decide +kernel), by decide +kernel⟩
theorem tb_143 : Cond.fieldLink RqFo 13 "SpringSpaces$Force" "below" "J" ∈ gtb := List.mem_filter.mpr ⟨List.mem_of_getElem? (i := 143) (by decide +kernel), by decide +kernel⟩
theorem tb_445 : Cond.code yqX_sumOf cqX_sumOf 6 (some .long) ∈ gtb := List.mem_filter.mpr ⟨List.mem_of_getElem? (i := 445) (by decide +kernel), by decide +kernel⟩
theorem tb_444 : Cond.static yqX_sumOf ∈ gtb := List.mem_filter.mpr ⟨List.mem_of_getElem? (i := 444) (by decide +kernel), by decide +kernel⟩
theorem tb_454 : Cond.code yqFo_fit cqFo_fit 12 (none) ∈ gtb := List.mem_filter.mpr ⟨List.mem_of_getElem? (i := 454) (by decide +kernel), by decide +kernel⟩
theorem tb_451 : Cond.methodLink RqFo 22 yqFo_fit ∈ gtb := List.mem_filter.mpr ⟨List.mem_of_getElem? (i := 451) (by decide +kernel), by decide +kernel⟩
theorem tb_453 : Cond.instanceMethod yqFo_fit ∈ gtb := List.mem_filter.mpr ⟨List.mem_of_getElem? (i := 453) (by decide +kernel), by decide +kernel⟩
theorem tb_5 : Cond.selects RqFo yqFo_fit yqFo_fit ∈ gtb := List.mem_filter.mpr ⟨List.mem_of_getElem? (i := 5) (by decide +kernel), by decide +kernel⟩
theorem tb_31 : Cond.initialized RqFo ∈ gtb := List.mem_filter.mpr ⟨List.mem_of_getElem? (i := 31) (by decide +kernel), by decide +kernel⟩
theorem tb_485 : Cond.code yqX_commonDivisor cqX_commonDivisor 11 (some .long) ∈ gtb := List.mem_filter.mpr ⟨List.mem_of_getElem? (i := 485) (by decide +kernel), by decide +kernel⟩
theorem tb_484 : Cond.static yqX_commonDivisor ∈ gtb := List.mem_filter.mpr ⟨List.mem_of_getElem? (i := 484) (by decide +kernel), by decide +kernel⟩
theorem tb_150 : Cond.fieldLink RqLi 9 "SpringSpaces$Line" "leasts" "[J" ∈ gtb := List.mem_filter.mpr ⟨List.mem_of_getElem? (i := 150) (by decide +kernel), by decide +kernel⟩
theorem tb_152 : Cond.fieldLink RqLi 21 "SpringSpaces$Line" "force" "LSpringSpaces$Force;" ∈ gtb := List.mem_filter.mpr ⟨List.mem_of_getElem? (i := 152) (by decide +kernel), by decide +kernel⟩
theorem tb_151 : Cond.fieldLink RqLi 15 "SpringSpaces$Line" "springs" "[J" ∈ gtb := List.mem_filter.mpr ⟨List.mem_of_getElem? (i := 151) (by decide +kernel), by decide +kernel⟩
theorem tb_449 : Cond.code yqFo_find cqFo_find 11 (some .boolean) ∈ gtb := List.mem_filter.mpr ⟨List.mem_of_getElem? (i := 449) (by decide +kernel), by decide +kernel⟩
theorem tb_446 : Cond.methodLink RqLi 72 yqFo_find ∈ gtb := List.mem_filter.mpr ⟨List.mem_of_getElem? (i := 446) (by decide +kernel), by decide +kernel⟩
theorem tb_447 : Cond.instanceMethod yqFo_find ∈ gtb := List.mem_filter.mpr ⟨List.mem_of_getElem? (i := 447) (by decide +kernel), by decide +kernel⟩
theorem tb_448 : Cond.selects RqFo yqFo_find yqFo_find ∈ gtb := List.mem_filter.mpr ⟨List.mem_of_getElem? (i := 448) (by decide +kernel), by decide +kernel⟩
theorem tb_458 : Cond.code yqFo_above cqFo_above 1 (some .long) ∈ gtb := List.mem_filter.mpr ⟨List.mem_of_getElem? (i := 458) (by decide +kernel), by decide +kernel⟩
theorem tb_455 : Cond.methodLink RqLi 76 yqFo_above ∈ gtb := List.mem_filter.mpr ⟨List.mem_of_getElem? (i := 455) (by decide +kernel), by decide +kernel⟩
theorem tb_456 : Cond.instanceMethod yqFo_above ∈ gtb := List.mem_filter.mpr ⟨List.mem_of_getElem? (i := 456) (by decide +kernel), by decide +kernel⟩
theorem tb_457 : Cond.selects RqFo yqFo_above yqFo_above ∈ gtb := List.mem_filter.mpr ⟨List.mem_of_getElem? (i := 457) (by decide +kernel), by decide +kernel⟩
theorem tb_462 : Cond.code yqFo_below cqFo_below 1 (some .long) ∈ gtb := List.mem_filter.mpr ⟨List.mem_of_getElem? (i := 462) (by decide +kernel), by decide +kernel⟩
theorem tb_459 : Cond.methodLink RqLi 80 yqFo_below ∈ gtb := List.mem_filter.mpr ⟨List.mem_of_getElem? (i := 459) (by decide +kernel), by decide +kernel⟩
theorem tb_460 : Cond.instanceMethod yqFo_below ∈ gtb := List.mem_filter.mpr ⟨List.mem_of_getElem? (i := 460) (by decide +kernel), by decide +kernel⟩
theorem tb_461 : Cond.selects RqFo yqFo_below yqFo_below ∈ gtb := List.mem_filter.mpr ⟨List.mem_of_getElem? (i := 461) (by decide +kernel), by decide +kernel⟩
theorem tb_465 : Cond.code yqX_dividedUp cqX_dividedUp 4 (some .long) ∈ gtb := List.mem_filter.mpr ⟨List.mem_of_getElem? (i := 465) (by decide +kernel), by decide +kernel⟩
theorem tb_464 : Cond.static yqX_dividedUp ∈ gtb := List.mem_filter.mpr ⟨List.mem_of_getElem? (i := 464) (by decide +kernel), by decide +kernel⟩
theorem tb_472 : Cond.methodLink RqLi 87 Lib.MathLoose.max_long.x ∈ gtb := List.mem_filter.mpr ⟨List.mem_of_getElem? (i := 472) (by decide +kernel), by decide +kernel⟩
theorem tb_153 : Cond.fieldLink RqLi 25 "SpringSpaces$Line" "first" "I" ∈ gtb := List.mem_filter.mpr ⟨List.mem_of_getElem? (i := 153) (by decide +kernel), by decide +kernel⟩
theorem tb_154 : Cond.fieldLink RqLi 29 "SpringSpaces$Line" "last" "I" ∈ gtb := List.mem_filter.mpr ⟨List.mem_of_getElem? (i := 154) (by decide +kernel), by decide +kernel⟩
theorem tb_426 : Cond.code yqNe_size cqNe_size 1 (some .int) ∈ gtb := List.mem_filter.mpr ⟨List.mem_of_getElem? (i := 426) (by decide +kernel), by decide +kernel⟩
theorem tb_423 : Cond.methodLink RqLi 49 yqNe_size ∈ gtb := List.mem_filter.mpr ⟨List.mem_of_getElem? (i := 423) (by decide +kernel), by decide +kernel⟩
theorem tb_424 : Cond.instanceMethod yqNe_size ∈ gtb := List.mem_filter.mpr ⟨List.mem_of_getElem? (i := 424) (by decide +kernel), by decide +kernel⟩
theorem tb_425 : Cond.selects RqNe yqNe_size yqNe_size ∈ gtb := List.mem_filter.mpr ⟨List.mem_of_getElem? (i := 425) (by decide +kernel), by decide +kernel⟩
theorem tb_430 : Cond.code yqNe_fromOf cqNe_fromOf 2 (some .int) ∈ gtb := List.mem_filter.mpr ⟨List.mem_of_getElem? (i := 430) (by decide +kernel), by decide +kernel⟩
theorem tb_427 : Cond.methodLink RqLi 55 yqNe_fromOf ∈ gtb := List.mem_filter.mpr ⟨List.mem_of_getElem? (i := 427) (by decide +kernel), by decide +kernel⟩
theorem tb_428 : Cond.instanceMethod yqNe_fromOf ∈ gtb := List.mem_filter.mpr ⟨List.mem_of_getElem? (i := 428) (by decide +kernel), by decide +kernel⟩
theorem tb_429 : Cond.selects RqNe yqNe_fromOf yqNe_fromOf ∈ gtb := List.mem_filter.mpr ⟨List.mem_of_getElem? (i := 429) (by decide +kernel), by decide +kernel⟩
theorem tb_434 : Cond.code yqNe_toOf cqNe_toOf 2 (some .int) ∈ gtb := List.mem_filter.mpr ⟨List.mem_of_getElem? (i := 434) (by decide +kernel), by decide +kernel⟩
theorem tb_431 : Cond.methodLink RqLi 58 yqNe_toOf ∈ gtb := List.mem_filter.mpr ⟨List.mem_of_getElem? (i := 431) (by decide +kernel), by decide +kernel⟩
theorem tb_432 : Cond.instanceMethod yqNe_toOf ∈ gtb := List.mem_filter.mpr ⟨List.mem_of_getElem? (i := 432) (by decide +kernel), by decide +kernel⟩
theorem tb_433 : Cond.selects RqNe yqNe_toOf yqNe_toOf ∈ gtb := List.mem_filter.mpr ⟨List.mem_of_getElem? (i := 433) (by decide +kernel), by decide +kernel⟩
theorem tb_438 : Cond.code yqNe_widthOf cqNe_widthOf 2 (some .int) ∈ gtb := List.mem_filter.mpr ⟨List.mem_of_getElem? (i := 438) (by decide +kernel), by decide +kernel⟩
theorem tb_435 : Cond.methodLink RqLi 61 yqNe_widthOf ∈ gtb := List.mem_filter.mpr ⟨List.mem_of_getElem? (i := 435) (by decide +kernel), by decide +kernel⟩
theorem tb_436 : Cond.instanceMethod yqNe_widthOf ∈ gtb := List.mem_filter.mpr ⟨List.mem_of_getElem? (i := 436) (by decide +kernel), by decide +kernel⟩
theorem tb_437 : Cond.selects RqNe yqNe_widthOf yqNe_widthOf ∈ gtb := List.mem_filter.mpr ⟨List.mem_of_getElem? (i := 437) (by decide +kernel), by decide +kernel⟩
theorem tb_442 : Cond.code yqLi_meet cqLi_meet 10 (none) ∈ gtb := List.mem_filter.mpr ⟨List.mem_of_getElem? (i := 442) (by decide +kernel), by decide +kernel⟩
theorem tb_439 : Cond.methodLink RqLi 64 yqLi_meet ∈ gtb := List.mem_filter.mpr ⟨List.mem_of_getElem? (i := 439) (by decide +kernel), by decide +kernel⟩
theorem tb_441 : Cond.instanceMethod yqLi_meet ∈ gtb := List.mem_filter.mpr ⟨List.mem_of_getElem? (i := 441) (by decide +kernel), by decide +kernel⟩
theorem tb_4 : Cond.selects RqLi yqLi_meet yqLi_meet ∈ gtb := List.mem_filter.mpr ⟨List.mem_of_getElem? (i := 4) (by decide +kernel), by decide +kernel⟩
theorem tb_30 : Cond.initialized RqLi ∈ gtb := List.mem_filter.mpr ⟨List.mem_of_getElem? (i := 30) (by decide +kernel), by decide +kernel⟩
theorem tb_417 : Cond.code yqCo_toldLeastOf cqCo_toldLeastOf 2 (some .int) ∈ gtb := List.mem_filter.mpr ⟨List.mem_of_getElem? (i := 417) (by decide +kernel), by decide +kernel⟩
theorem tb_414 : Cond.methodLink RqLi 36 yqCo_toldLeastOf ∈ gtb := List.mem_filter.mpr ⟨List.mem_of_getElem? (i := 414) (by decide +kernel), by decide +kernel⟩
theorem tb_415 : Cond.instanceMethod yqCo_toldLeastOf ∈ gtb := List.mem_filter.mpr ⟨List.mem_of_getElem? (i := 415) (by decide +kernel), by decide +kernel⟩
theorem tb_416 : Cond.selects RqCo yqCo_toldLeastOf yqCo_toldLeastOf ∈ gtb := List.mem_filter.mpr ⟨List.mem_of_getElem? (i := 416) (by decide +kernel), by decide +kernel⟩
theorem tb_26 : Cond.initialized RqCo ∈ gtb := List.mem_filter.mpr ⟨List.mem_of_getElem? (i := 26) (by decide +kernel), by decide +kernel⟩
theorem tb_421 : Cond.code yqCo_durationOf cqCo_durationOf 2 (some .int) ∈ gtb := List.mem_filter.mpr ⟨List.mem_of_getElem? (i := 421) (by decide +kernel), by decide +kernel⟩
theorem tb_418 : Cond.methodLink RqLi 42 yqCo_durationOf ∈ gtb := List.mem_filter.mpr ⟨List.mem_of_getElem? (i := 418) (by decide +kernel), by decide +kernel⟩
theorem tb_419 : Cond.instanceMethod yqCo_durationOf ∈ gtb := List.mem_filter.mpr ⟨List.mem_of_getElem? (i := 419) (by decide +kernel), by decide +kernel⟩
theorem tb_420 : Cond.selects RqCo yqCo_durationOf yqCo_durationOf ∈ gtb := List.mem_filter.mpr ⟨List.mem_of_getElem? (i := 420) (by decide +kernel), by decide +kernel⟩
theorem tb_275 : Cond.code yqCo_springFor cqCo_springFor 7 (some .long) ∈ gtb := List.mem_filter.mpr ⟨List.mem_of_getElem? (i := 275) (by decide +kernel), by decide +kernel⟩
theorem tb_422 : Cond.methodLink RqLi 45 yqCo_springFor ∈ gtb := List.mem_filter.mpr ⟨List.mem_of_getElem? (i := 422) (by decide +kernel), by decide +kernel⟩
theorem tb_273 : Cond.instanceMethod yqCo_springFor ∈ gtb := List.mem_filter.mpr ⟨List.mem_of_getElem? (i := 273) (by decide +kernel), by decide +kernel⟩
theorem tb_274 : Cond.selects RqCo yqCo_springFor yqCo_springFor ∈ gtb := List.mem_filter.mpr ⟨List.mem_of_getElem? (i := 274) (by decide +kernel), by decide +kernel⟩
theorem tb_482 : Cond.code yqFo_bringToLowestTerms cqFo_bringToLowestTerms 3 (none) ∈ gtb := List.mem_filter.mpr ⟨List.mem_of_getElem? (i := 482) (by decide +kernel), by decide +kernel⟩
theorem tb_479 : Cond.methodLink RqLi 92 yqFo_bringToLowestTerms ∈ gtb := List.mem_filter.mpr ⟨List.mem_of_getElem? (i := 479) (by decide +kernel), by decide +kernel⟩
theorem tb_480 : Cond.instanceMethod yqFo_bringToLowestTerms ∈ gtb := List.mem_filter.mpr ⟨List.mem_of_getElem? (i := 480) (by decide +kernel), by decide +kernel⟩
theorem tb_481 : Cond.selects RqFo yqFo_bringToLowestTerms yqFo_bringToLowestTerms ∈ gtb := List.mem_filter.mpr ⟨List.mem_of_getElem? (i := 481) (by decide +kernel), by decide +kernel⟩
theorem tb_490 : Cond.code yqLi_sumOfLeasts cqLi_sumOfLeasts 1 (some .long) ∈ gtb := List.mem_filter.mpr ⟨List.mem_of_getElem? (i := 490) (by decide +kernel), by decide +kernel⟩
theorem tb_487 : Cond.methodLink RqLi 95 yqLi_sumOfLeasts ∈ gtb := List.mem_filter.mpr ⟨List.mem_of_getElem? (i := 487) (by decide +kernel), by decide +kernel⟩
theorem tb_488 : Cond.instanceMethod yqLi_sumOfLeasts ∈ gtb := List.mem_filter.mpr ⟨List.mem_of_getElem? (i := 488) (by decide +kernel), by decide +kernel⟩
theorem tb_489 : Cond.selects RqLi yqLi_sumOfLeasts yqLi_sumOfLeasts ∈ gtb := List.mem_filter.mpr ⟨List.mem_of_getElem? (i := 489) (by decide +kernel), by decide +kernel⟩
theorem tb_155 : Cond.fieldLink RqLi 32 "SpringSpaces$Line" "excess" "J" ∈ gtb := List.mem_filter.mpr ⟨List.mem_of_getElem? (i := 155) (by decide +kernel), by decide +kernel⟩
theorem tb_600 : Cond.constantLong RqLi 98 65536 ∈ gtb := List.mem_filter.mpr ⟨List.mem_of_getElem? (i := 600) (by decide +kernel), by decide +kernel⟩
theorem tb_570 : Cond.code yqCo_timeOf cqCo_timeOf 2 (some .int) ∈ gtb := List.mem_filter.mpr ⟨List.mem_of_getElem? (i := 570) (by decide +kernel), by decide +kernel⟩
theorem tb_567 : Cond.methodLink RqLi 104 yqCo_timeOf ∈ gtb := List.mem_filter.mpr ⟨List.mem_of_getElem? (i := 567) (by decide +kernel), by decide +kernel⟩
theorem tb_568 : Cond.instanceMethod yqCo_timeOf ∈ gtb := List.mem_filter.mpr ⟨List.mem_of_getElem? (i := 568) (by decide +kernel), by decide +kernel⟩
theorem tb_569 : Cond.selects RqCo yqCo_timeOf yqCo_timeOf ∈ gtb := List.mem_filter.mpr ⟨List.mem_of_getElem? (i := 569) (by decide +kernel), by decide +kernel⟩
theorem tb_532 : Cond.code yqLi_widthAbove cqLi_widthAbove 2 (some .long) ∈ gtb := List.mem_filter.mpr ⟨List.mem_of_getElem? (i := 532) (by decide +kernel), by decide +kernel⟩
theorem tb_529 : Cond.methodLink RqLi 107 yqLi_widthAbove ∈ gtb := List.mem_filter.mpr ⟨List.mem_of_getElem? (i := 529) (by decide +kernel), by decide +kernel⟩
theorem tb_531 : Cond.instanceMethod yqLi_widthAbove ∈ gtb := List.mem_filter.mpr ⟨List.mem_of_getElem? (i := 531) (by decide +kernel), by decide +kernel⟩
theorem tb_6 : Cond.selects RqLi yqLi_widthAbove yqLi_widthAbove ∈ gtb := List.mem_filter.mpr ⟨List.mem_of_getElem? (i := 6) (by decide +kernel), by decide +kernel⟩
theorem tb_557 : Cond.code yqLi_widthsAboveBefore cqLi_widthsAboveBefore 5 (some .long) ∈ gtb := List.mem_filter.mpr ⟨List.mem_of_getElem? (i := 557) (by decide +kernel), by decide +kernel⟩
theorem tb_554 : Cond.methodLink RqLi 113 yqLi_widthsAboveBefore ∈ gtb := List.mem_filter.mpr ⟨List.mem_of_getElem? (i := 554) (by decide +kernel), by decide +kernel⟩
theorem tb_556 : Cond.instanceMethod yqLi_widthsAboveBefore ∈ gtb := List.mem_filter.mpr ⟨List.mem_of_getElem? (i := 556) (by decide +kernel), by decide +kernel⟩
theorem tb_7 : Cond.selects RqLi yqLi_widthsAboveBefore yqLi_widthsAboveBefore ∈ gtb := List.mem_filter.mpr ⟨List.mem_of_getElem? (i := 7) (by decide +kernel), by decide +kernel⟩
theorem tb_179 : Cond.fieldLink RqBr 25 "SpringSpaces$Breaks" "size" "I" ∈ gtb := List.mem_filter.mpr ⟨List.mem_of_getElem? (i := 179) (by decide +kernel), by decide +kernel⟩
theorem tb_178 : Cond.fieldLink RqBr 22 "SpringSpaces$Breaks" "begins" "[I" ∈ gtb := List.mem_filter.mpr ⟨List.mem_of_getElem? (i := 178) (by decide +kernel), by decide +kernel⟩
theorem tb_175 : Cond.fieldLink RqBr 9 "SpringSpaces$Breaks" "costs" "[J" ∈ gtb := List.mem_filter.mpr ⟨List.mem_of_getElem? (i := 175) (by decide +kernel), by decide +kernel⟩
theorem tb_599 : Cond.code yqLi_naturalWidth cqLi_naturalWidth 4 (some .long) ∈ gtb := List.mem_filter.mpr ⟨List.mem_of_getElem? (i := 599) (by decide +kernel), by decide +kernel⟩
theorem tb_596 : Cond.methodLink RqBr 57 yqLi_naturalWidth ∈ gtb := List.mem_filter.mpr ⟨List.mem_of_getElem? (i := 596) (by decide +kernel), by decide +kernel⟩
theorem tb_597 : Cond.instanceMethod yqLi_naturalWidth ∈ gtb := List.mem_filter.mpr ⟨List.mem_of_getElem? (i := 597) (by decide +kernel), by decide +kernel⟩
theorem tb_598 : Cond.selects RqLi yqLi_naturalWidth yqLi_naturalWidth ∈ gtb := List.mem_filter.mpr ⟨List.mem_of_getElem? (i := 598) (by decide +kernel), by decide +kernel⟩
theorem tb_601 : Cond.methodLink RqBr 61 yqLi_sumOfLeasts ∈ gtb := List.mem_filter.mpr ⟨List.mem_of_getElem? (i := 601) (by decide +kernel), by decide +kernel⟩
theorem tb_602 : Cond.constantLong RqBr 64 1000000000 ∈ gtb := List.mem_filter.mpr ⟨List.mem_of_getElem? (i := 602) (by decide +kernel), by decide +kernel⟩
theorem tb_176 : Cond.fieldLink RqBr 15 "SpringSpaces$Breaks" "counts" "[I" ∈ gtb := List.mem_filter.mpr ⟨List.mem_of_getElem? (i := 176) (by decide +kernel), by decide +kernel⟩
theorem tb_177 : Cond.fieldLink RqBr 19 "SpringSpaces$Breaks" "nexts" "[I" ∈ gtb := List.mem_filter.mpr ⟨List.mem_of_getElem? (i := 177) (by decide +kernel), by decide +kernel⟩
theorem tb_363 : Cond.code yqCo_lastOne cqCo_lastOne 1 (some .int) ∈ gtb := List.mem_filter.mpr ⟨List.mem_of_getElem? (i := 363) (by decide +kernel), by decide +kernel⟩
theorem tb_583 : Cond.methodLink RqBr 29 yqCo_lastOne ∈ gtb := List.mem_filter.mpr ⟨List.mem_of_getElem? (i := 583) (by decide +kernel), by decide +kernel⟩
theorem tb_361 : Cond.instanceMethod yqCo_lastOne ∈ gtb := List.mem_filter.mpr ⟨List.mem_of_getElem? (i := 361) (by decide +kernel), by decide +kernel⟩
theorem tb_362 : Cond.selects RqCo yqCo_lastOne yqCo_lastOne ∈ gtb := List.mem_filter.mpr ⟨List.mem_of_getElem? (i := 362) (by decide +kernel), by decide +kernel⟩
theorem tb_587 : Cond.code yqCo_mayBreakAt cqCo_mayBreakAt 2 (some .boolean) ∈ gtb := List.mem_filter.mpr ⟨List.mem_of_getElem? (i := 587) (by decide +kernel), by decide +kernel⟩
theorem tb_584 : Cond.methodLink RqBr 35 yqCo_mayBreakAt ∈ gtb := List.mem_filter.mpr ⟨List.mem_of_getElem? (i := 584) (by decide +kernel), by decide +kernel⟩
theorem tb_585 : Cond.instanceMethod yqCo_mayBreakAt ∈ gtb := List.mem_filter.mpr ⟨List.mem_of_getElem? (i := 585) (by decide +kernel), by decide +kernel⟩
theorem tb_586 : Cond.selects RqCo yqCo_mayBreakAt yqCo_mayBreakAt ∈ gtb := List.mem_filter.mpr ⟨List.mem_of_getElem? (i := 586) (by decide +kernel), by decide +kernel⟩
theorem tb_413 : Cond.code yqLi_settle cqLi_settle 6 (none) ∈ gtb := List.mem_filter.mpr ⟨List.mem_of_getElem? (i := 413) (by decide +kernel), by decide +kernel⟩
theorem tb_592 : Cond.methodLink RqBr 47 yqLi_settle ∈ gtb := List.mem_filter.mpr ⟨List.mem_of_getElem? (i := 592) (by decide +kernel), by decide +kernel⟩
theorem tb_411 : Cond.instanceMethod yqLi_settle ∈ gtb := List.mem_filter.mpr ⟨List.mem_of_getElem? (i := 411) (by decide +kernel), by decide +kernel⟩
theorem tb_412 : Cond.selects RqLi yqLi_settle yqLi_settle ∈ gtb := List.mem_filter.mpr ⟨List.mem_of_getElem? (i := 412) (by decide +kernel), by decide +kernel⟩
theorem tb_595 : Cond.code yqBr_costOf cqBr_costOf 7 (some .long) ∈ gtb := List.mem_filter.mpr ⟨List.mem_of_getElem? (i := 595) (by decide +kernel), by decide +kernel⟩
theorem tb_593 : Cond.methodLink RqBr 53 yqBr_costOf ∈ gtb := List.mem_filter.mpr ⟨List.mem_of_getElem? (i := 593) (by decide +kernel), by decide +kernel⟩
theorem tb_594 : Cond.static yqBr_costOf ∈ gtb := List.mem_filter.mpr ⟨List.mem_of_getElem? (i := 594) (by decide +kernel), by decide +kernel⟩
theorem tb_32 : Cond.initialized RqBr ∈ gtb := List.mem_filter.mpr ⟨List.mem_of_getElem? (i := 32) (by decide +kernel), by decide +kernel⟩
theorem tb_606 : Cond.code yqBr_tellBegins cqBr_tellBegins 4 (none) ∈ gtb := List.mem_filter.mpr ⟨List.mem_of_getElem? (i := 606) (by decide +kernel), by decide +kernel⟩
theorem tb_603 : Cond.methodLink RqBr 43 yqBr_tellBegins ∈ gtb := List.mem_filter.mpr ⟨List.mem_of_getElem? (i := 603) (by decide +kernel), by decide +kernel⟩
theorem tb_605 : Cond.instanceMethod yqBr_tellBegins ∈ gtb := List.mem_filter.mpr ⟨List.mem_of_getElem? (i := 605) (by decide +kernel), by decide +kernel⟩
theorem tb_9 : Cond.selects RqBr yqBr_tellBegins yqBr_tellBegins ∈ gtb := List.mem_filter.mpr ⟨List.mem_of_getElem? (i := 9) (by decide +kernel), by decide +kernel⟩
theorem tb_591 : Cond.code yqBr_chooseFrom cqBr_chooseFrom 12 (none) ∈ gtb := List.mem_filter.mpr ⟨List.mem_of_getElem? (i := 591) (by decide +kernel), by decide +kernel⟩
theorem tb_588 : Cond.methodLink RqBr 39 yqBr_chooseFrom ∈ gtb := List.mem_filter.mpr ⟨List.mem_of_getElem? (i := 588) (by decide +kernel), by decide +kernel⟩
theorem tb_590 : Cond.instanceMethod yqBr_chooseFrom ∈ gtb := List.mem_filter.mpr ⟨List.mem_of_getElem? (i := 590) (by decide +kernel), by decide +kernel⟩
theorem tb_8 : Cond.selects RqBr yqBr_chooseFrom yqBr_chooseFrom ∈ gtb := List.mem_filter.mpr ⟨List.mem_of_getElem? (i := 8) (by decide +kernel), by decide +kernel⟩
theorem tb_198 : Cond.fieldLink RqX 54 "SpringSpaces" "atHand" "Z" ∈ gtb := List.mem_filter.mpr ⟨List.mem_of_getElem? (i := 198) (by decide +kernel), by decide +kernel⟩
theorem tb_199 : Cond.fieldLink RqX 58 "SpringSpaces" "broken" "Z" ∈ gtb := List.mem_filter.mpr ⟨List.mem_of_getElem? (i := 199) (by decide +kernel), by decide +kernel⟩
theorem tb_229 : Cond.code yqX_forgetAnswers cqX_forgetAnswers 1 (none) ∈ gtb := List.mem_filter.mpr ⟨List.mem_of_getElem? (i := 229) (by decide +kernel), by decide +kernel⟩
theorem tb_226 : Cond.methodLink RqX 65 yqX_forgetAnswers ∈ gtb := List.mem_filter.mpr ⟨List.mem_of_getElem? (i := 226) (by decide +kernel), by decide +kernel⟩
theorem tb_228 : Cond.instanceMethod yqX_forgetAnswers ∈ gtb := List.mem_filter.mpr ⟨List.mem_of_getElem? (i := 228) (by decide +kernel), by decide +kernel⟩
theorem tb_0 : Cond.selects RqX yqX_forgetAnswers yqX_forgetAnswers ∈ gtb := List.mem_filter.mpr ⟨List.mem_of_getElem? (i := 0) (by decide +kernel), by decide +kernel⟩
theorem tb_191 : Cond.fieldLink RqX 12 "SpringSpaces" "columns" "LSpringSpaces$Columns;" ∈ gtb := List.mem_filter.mpr ⟨List.mem_of_getElem? (i := 191) (by decide +kernel), by decide +kernel⟩
theorem tb_233 : Cond.code yqCo_useTable cqCo_useTable 3 (none) ∈ gtb := List.mem_filter.mpr ⟨List.mem_of_getElem? (i := 233) (by decide +kernel), by decide +kernel⟩
theorem tb_230 : Cond.methodLink RqX 68 yqCo_useTable ∈ gtb := List.mem_filter.mpr ⟨List.mem_of_getElem? (i := 230) (by decide +kernel), by decide +kernel⟩
theorem tb_231 : Cond.instanceMethod yqCo_useTable ∈ gtb := List.mem_filter.mpr ⟨List.mem_of_getElem? (i := 231) (by decide +kernel), by decide +kernel⟩
theorem tb_232 : Cond.selects RqCo yqCo_useTable yqCo_useTable ∈ gtb := List.mem_filter.mpr ⟨List.mem_of_getElem? (i := 232) (by decide +kernel), by decide +kernel⟩
theorem tb_238 : Cond.constant RqX 72 100000 ∈ gtb := List.mem_filter.mpr ⟨List.mem_of_getElem? (i := 238) (by decide +kernel), by decide +kernel⟩
theorem tb_242 : Cond.code yqCo_mayFollow cqCo_mayFollow 2 (some .boolean) ∈ gtb := List.mem_filter.mpr ⟨List.mem_of_getElem? (i := 242) (by decide +kernel), by decide +kernel⟩
theorem tb_239 : Cond.methodLink RqX 73 yqCo_mayFollow ∈ gtb := List.mem_filter.mpr ⟨List.mem_of_getElem? (i := 239) (by decide +kernel), by decide +kernel⟩
theorem tb_240 : Cond.instanceMethod yqCo_mayFollow ∈ gtb := List.mem_filter.mpr ⟨List.mem_of_getElem? (i := 240) (by decide +kernel), by decide +kernel⟩
theorem tb_241 : Cond.selects RqCo yqCo_mayFollow yqCo_mayFollow ∈ gtb := List.mem_filter.mpr ⟨List.mem_of_getElem? (i := 241) (by decide +kernel), by decide +kernel⟩
theorem tb_246 : Cond.code yqCo_areFull cqCo_areFull 1 (some .boolean) ∈ gtb := List.mem_filter.mpr ⟨List.mem_of_getElem? (i := 246) (by decide +kernel), by decide +kernel⟩
theorem tb_243 : Cond.methodLink RqX 77 yqCo_areFull ∈ gtb := List.mem_filter.mpr ⟨List.mem_of_getElem? (i := 243) (by decide +kernel), by decide +kernel⟩
theorem tb_244 : Cond.instanceMethod yqCo_areFull ∈ gtb := List.mem_filter.mpr ⟨List.mem_of_getElem? (i := 244) (by decide +kernel), by decide +kernel⟩
theorem tb_245 : Cond.selects RqCo yqCo_areFull yqCo_areFull ∈ gtb := List.mem_filter.mpr ⟨List.mem_of_getElem? (i := 245) (by decide +kernel), by decide +kernel⟩
theorem tb_250 : Cond.code yqCo_append cqCo_append 3 (some .int) ∈ gtb := List.mem_filter.mpr ⟨List.mem_of_getElem? (i := 250) (by decide +kernel), by decide +kernel⟩
theorem tb_247 : Cond.methodLink RqX 81 yqCo_append ∈ gtb := List.mem_filter.mpr ⟨List.mem_of_getElem? (i := 247) (by decide +kernel), by decide +kernel⟩
theorem tb_248 : Cond.instanceMethod yqCo_append ∈ gtb := List.mem_filter.mpr ⟨List.mem_of_getElem? (i := 248) (by decide +kernel), by decide +kernel⟩
theorem tb_249 : Cond.selects RqCo yqCo_append yqCo_append ∈ gtb := List.mem_filter.mpr ⟨List.mem_of_getElem? (i := 249) (by decide +kernel), by decide +kernel⟩
theorem tb_192 : Cond.fieldLink RqX 19 "SpringSpaces" "items" "LSpringSpaces$Items;" ∈ gtb := List.mem_filter.mpr ⟨List.mem_of_getElem? (i := 192) (by decide +kernel), by decide +kernel⟩
theorem tb_258 : Cond.code yqIt_takeAll cqIt_takeAll 2 (none) ∈ gtb := List.mem_filter.mpr ⟨List.mem_of_getElem? (i := 258) (by decide +kernel), by decide +kernel⟩
theorem tb_255 : Cond.methodLink RqX 85 yqIt_takeAll ∈ gtb := List.mem_filter.mpr ⟨List.mem_of_getElem? (i := 255) (by decide +kernel), by decide +kernel⟩
theorem tb_256 : Cond.instanceMethod yqIt_takeAll ∈ gtb := List.mem_filter.mpr ⟨List.mem_of_getElem? (i := 256) (by decide +kernel), by decide +kernel⟩
theorem tb_257 : Cond.selects RqIt yqIt_takeAll yqIt_takeAll ∈ gtb := List.mem_filter.mpr ⟨List.mem_of_getElem? (i := 257) (by decide +kernel), by decide +kernel⟩
theorem tb_193 : Cond.fieldLink RqX 26 "SpringSpaces" "rods" "LSpringSpaces$Rods;" ∈ gtb := List.mem_filter.mpr ⟨List.mem_of_getElem? (i := 193) (by decide +kernel), by decide +kernel⟩
theorem tb_262 : Cond.code yqRo_takeAll cqRo_takeAll 2 (none) ∈ gtb := List.mem_filter.mpr ⟨List.mem_of_getElem? (i := 262) (by decide +kernel), by decide +kernel⟩
theorem tb_259 : Cond.methodLink RqX 88 yqRo_takeAll ∈ gtb := List.mem_filter.mpr ⟨List.mem_of_getElem? (i := 259) (by decide +kernel), by decide +kernel⟩
theorem tb_260 : Cond.instanceMethod yqRo_takeAll ∈ gtb := List.mem_filter.mpr ⟨List.mem_of_getElem? (i := 260) (by decide +kernel), by decide +kernel⟩
theorem tb_261 : Cond.selects RqRo yqRo_takeAll yqRo_takeAll ∈ gtb := List.mem_filter.mpr ⟨List.mem_of_getElem? (i := 261) (by decide +kernel), by decide +kernel⟩
theorem tb_266 : Cond.code yqCo_takeAll cqCo_takeAll 2 (some .int) ∈ gtb := List.mem_filter.mpr ⟨List.mem_of_getElem? (i := 266) (by decide +kernel), by decide +kernel⟩
theorem tb_263 : Cond.methodLink RqX 89 yqCo_takeAll ∈ gtb := List.mem_filter.mpr ⟨List.mem_of_getElem? (i := 263) (by decide +kernel), by decide +kernel⟩
theorem tb_264 : Cond.instanceMethod yqCo_takeAll ∈ gtb := List.mem_filter.mpr ⟨List.mem_of_getElem? (i := 264) (by decide +kernel), by decide +kernel⟩
theorem tb_265 : Cond.selects RqCo yqCo_takeAll yqCo_takeAll ∈ gtb := List.mem_filter.mpr ⟨List.mem_of_getElem? (i := 265) (by decide +kernel), by decide +kernel⟩
theorem tb_272 : Cond.methodLink RqX 94 yqCo_springFor ∈ gtb := List.mem_filter.mpr ⟨List.mem_of_getElem? (i := 272) (by decide +kernel), by decide +kernel⟩
theorem tb_271 : Cond.constantLong RqX 92 (-2) ∈ gtb := List.mem_filter.mpr ⟨List.mem_of_getElem? (i := 271) (by decide +kernel), by decide +kernel⟩
theorem tb_284 : Cond.code yqCo_haveGap cqCo_haveGap 2 (some .boolean) ∈ gtb := List.mem_filter.mpr ⟨List.mem_of_getElem? (i := 284) (by decide +kernel), by decide +kernel⟩
theorem tb_281 : Cond.methodLink RqX 98 yqCo_haveGap ∈ gtb := List.mem_filter.mpr ⟨List.mem_of_getElem? (i := 281) (by decide +kernel), by decide +kernel⟩
theorem tb_282 : Cond.instanceMethod yqCo_haveGap ∈ gtb := List.mem_filter.mpr ⟨List.mem_of_getElem? (i := 282) (by decide +kernel), by decide +kernel⟩
theorem tb_283 : Cond.selects RqCo yqCo_haveGap yqCo_haveGap ∈ gtb := List.mem_filter.mpr ⟨List.mem_of_getElem? (i := 283) (by decide +kernel), by decide +kernel⟩
theorem tb_289 : Cond.code yqCo_setLeast cqCo_setLeast 4 (some .int) ∈ gtb := List.mem_filter.mpr ⟨List.mem_of_getElem? (i := 289) (by decide +kernel), by decide +kernel⟩
theorem tb_286 : Cond.methodLink RqX 101 yqCo_setLeast ∈ gtb := List.mem_filter.mpr ⟨List.mem_of_getElem? (i := 286) (by decide +kernel), by decide +kernel⟩
theorem tb_287 : Cond.instanceMethod yqCo_setLeast ∈ gtb := List.mem_filter.mpr ⟨List.mem_of_getElem? (i := 287) (by decide +kernel), by decide +kernel⟩
theorem tb_288 : Cond.selects RqCo yqCo_setLeast yqCo_setLeast ∈ gtb := List.mem_filter.mpr ⟨List.mem_of_getElem? (i := 288) (by decide +kernel), by decide +kernel⟩
theorem tb_296 : Cond.code yqX_isStaff cqX_isStaff 1 (some .boolean) ∈ gtb := List.mem_filter.mpr ⟨List.mem_of_getElem? (i := 296) (by decide +kernel), by decide +kernel⟩
theorem tb_294 : Cond.methodLink RqX 105 yqX_isStaff ∈ gtb := List.mem_filter.mpr ⟨List.mem_of_getElem? (i := 294) (by decide +kernel), by decide +kernel⟩
theorem tb_295 : Cond.static yqX_isStaff ∈ gtb := List.mem_filter.mpr ⟨List.mem_of_getElem? (i := 295) (by decide +kernel), by decide +kernel⟩
theorem tb_300 : Cond.code yqCo_have cqCo_have 2 (some .boolean) ∈ gtb := List.mem_filter.mpr ⟨List.mem_of_getElem? (i := 300) (by decide +kernel), by decide +kernel⟩
theorem tb_297 : Cond.methodLink RqX 108 yqCo_have ∈ gtb := List.mem_filter.mpr ⟨List.mem_of_getElem? (i := 297) (by decide +kernel), by decide +kernel⟩
theorem tb_298 : Cond.instanceMethod yqCo_have ∈ gtb := List.mem_filter.mpr ⟨List.mem_of_getElem? (i := 298) (by decide +kernel), by decide +kernel⟩
theorem tb_299 : Cond.selects RqCo yqCo_have yqCo_have ∈ gtb := List.mem_filter.mpr ⟨List.mem_of_getElem? (i := 299) (by decide +kernel), by decide +kernel⟩
theorem tb_304 : Cond.code yqIt_put cqIt_put 7 (some .boolean) ∈ gtb := List.mem_filter.mpr ⟨List.mem_of_getElem? (i := 304) (by decide +kernel), by decide +kernel⟩
theorem tb_301 : Cond.methodLink RqX 111 yqIt_put ∈ gtb := List.mem_filter.mpr ⟨List.mem_of_getElem? (i := 301) (by decide +kernel), by decide +kernel⟩
theorem tb_302 : Cond.instanceMethod yqIt_put ∈ gtb := List.mem_filter.mpr ⟨List.mem_of_getElem? (i := 302) (by decide +kernel), by decide +kernel⟩
theorem tb_303 : Cond.selects RqIt yqIt_put yqIt_put ∈ gtb := List.mem_filter.mpr ⟨List.mem_of_getElem? (i := 303) (by decide +kernel), by decide +kernel⟩
theorem tb_312 : Cond.methodLink RqX 115 yqIt_have ∈ gtb := List.mem_filter.mpr ⟨List.mem_of_getElem? (i := 312) (by decide +kernel), by decide +kernel⟩
theorem tb_319 : Cond.code yqIt_take cqIt_take 3 (none) ∈ gtb := List.mem_filter.mpr ⟨List.mem_of_getElem? (i := 319) (by decide +kernel), by decide +kernel⟩
theorem tb_316 : Cond.methodLink RqX 118 yqIt_take ∈ gtb := List.mem_filter.mpr ⟨List.mem_of_getElem? (i := 316) (by decide +kernel), by decide +kernel⟩
theorem tb_317 : Cond.instanceMethod yqIt_take ∈ gtb := List.mem_filter.mpr ⟨List.mem_of_getElem? (i := 317) (by decide +kernel), by decide +kernel⟩
theorem tb_318 : Cond.selects RqIt yqIt_take yqIt_take ∈ gtb := List.mem_filter.mpr ⟨List.mem_of_getElem? (i := 318) (by decide +kernel), by decide +kernel⟩
theorem tb_327 : Cond.code yqRo_areUsedUp cqRo_areUsedUp 1 (some .boolean) ∈ gtb := List.mem_filter.mpr ⟨List.mem_of_getElem? (i := 327) (by decide +kernel), by decide +kernel⟩
theorem tb_324 : Cond.methodLink RqX 121 yqRo_areUsedUp ∈ gtb := List.mem_filter.mpr ⟨List.mem_of_getElem? (i := 324) (by decide +kernel), by decide +kernel⟩
theorem tb_325 : Cond.instanceMethod yqRo_areUsedUp ∈ gtb := List.mem_filter.mpr ⟨List.mem_of_getElem? (i := 325) (by decide +kernel), by decide +kernel⟩
theorem tb_326 : Cond.selects RqRo yqRo_areUsedUp yqRo_areUsedUp ∈ gtb := List.mem_filter.mpr ⟨List.mem_of_getElem? (i := 326) (by decide +kernel), by decide +kernel⟩
theorem tb_331 : Cond.code yqRo_put cqRo_put 5 (some .int) ∈ gtb := List.mem_filter.mpr ⟨List.mem_of_getElem? (i := 331) (by decide +kernel), by decide +kernel⟩
theorem tb_328 : Cond.methodLink RqX 124 yqRo_put ∈ gtb := List.mem_filter.mpr ⟨List.mem_of_getElem? (i := 328) (by decide +kernel), by decide +kernel⟩
theorem tb_329 : Cond.instanceMethod yqRo_put ∈ gtb := List.mem_filter.mpr ⟨List.mem_of_getElem? (i := 329) (by decide +kernel), by decide +kernel⟩
theorem tb_330 : Cond.selects RqRo yqRo_put yqRo_put ∈ gtb := List.mem_filter.mpr ⟨List.mem_of_getElem? (i := 330) (by decide +kernel), by decide +kernel⟩
theorem tb_336 : Cond.methodLink RqX 127 yqRo_have ∈ gtb := List.mem_filter.mpr ⟨List.mem_of_getElem? (i := 336) (by decide +kernel), by decide +kernel⟩
theorem tb_344 : Cond.code yqRo_take cqRo_take 2 (some .int) ∈ gtb := List.mem_filter.mpr ⟨List.mem_of_getElem? (i := 344) (by decide +kernel), by decide +kernel⟩
theorem tb_341 : Cond.methodLink RqX 128 yqRo_take ∈ gtb := List.mem_filter.mpr ⟨List.mem_of_getElem? (i := 341) (by decide +kernel), by decide +kernel⟩
theorem tb_342 : Cond.instanceMethod yqRo_take ∈ gtb := List.mem_filter.mpr ⟨List.mem_of_getElem? (i := 342) (by decide +kernel), by decide +kernel⟩
theorem tb_343 : Cond.selects RqRo yqRo_take yqRo_take ∈ gtb := List.mem_filter.mpr ⟨List.mem_of_getElem? (i := 343) (by decide +kernel), by decide +kernel⟩
theorem tb_352 : Cond.code yqCo_setBar cqCo_setBar 4 (some .boolean) ∈ gtb := List.mem_filter.mpr ⟨List.mem_of_getElem? (i := 352) (by decide +kernel), by decide +kernel⟩
theorem tb_349 : Cond.methodLink RqX 130 yqCo_setBar ∈ gtb := List.mem_filter.mpr ⟨List.mem_of_getElem? (i := 349) (by decide +kernel), by decide +kernel⟩
theorem tb_350 : Cond.instanceMethod yqCo_setBar ∈ gtb := List.mem_filter.mpr ⟨List.mem_of_getElem? (i := 350) (by decide +kernel), by decide +kernel⟩
theorem tb_351 : Cond.selects RqCo yqCo_setBar yqCo_setBar ∈ gtb := List.mem_filter.mpr ⟨List.mem_of_getElem? (i := 351) (by decide +kernel), by decide +kernel⟩
theorem tb_194 : Cond.fieldLink RqX 33 "SpringSpaces" "needs" "LSpringSpaces$Needs;" ∈ gtb := List.mem_filter.mpr ⟨List.mem_of_getElem? (i := 194) (by decide +kernel), by decide +kernel⟩
theorem tb_371 : Cond.code yqCo_size cqCo_size 1 (some .int) ∈ gtb := List.mem_filter.mpr ⟨List.mem_of_getElem? (i := 371) (by decide +kernel), by decide +kernel⟩
theorem tb_368 : Cond.methodLink RqX 180 yqCo_size ∈ gtb := List.mem_filter.mpr ⟨List.mem_of_getElem? (i := 368) (by decide +kernel), by decide +kernel⟩
theorem tb_369 : Cond.instanceMethod yqCo_size ∈ gtb := List.mem_filter.mpr ⟨List.mem_of_getElem? (i := 369) (by decide +kernel), by decide +kernel⟩
theorem tb_370 : Cond.selects RqCo yqCo_size yqCo_size ∈ gtb := List.mem_filter.mpr ⟨List.mem_of_getElem? (i := 370) (by decide +kernel), by decide +kernel⟩
theorem tb_375 : Cond.code yqNe_gather cqNe_gather 5 (none) ∈ gtb := List.mem_filter.mpr ⟨List.mem_of_getElem? (i := 375) (by decide +kernel), by decide +kernel⟩
theorem tb_372 : Cond.methodLink RqX 183 yqNe_gather ∈ gtb := List.mem_filter.mpr ⟨List.mem_of_getElem? (i := 372) (by decide +kernel), by decide +kernel⟩
theorem tb_373 : Cond.instanceMethod yqNe_gather ∈ gtb := List.mem_filter.mpr ⟨List.mem_of_getElem? (i := 373) (by decide +kernel), by decide +kernel⟩
theorem tb_374 : Cond.selects RqNe yqNe_gather yqNe_gather ∈ gtb := List.mem_filter.mpr ⟨List.mem_of_getElem? (i := 374) (by decide +kernel), by decide +kernel⟩
theorem tb_195 : Cond.fieldLink RqX 40 "SpringSpaces" "hand" "LSpringSpaces$Line;" ∈ gtb := List.mem_filter.mpr ⟨List.mem_of_getElem? (i := 195) (by decide +kernel), by decide +kernel⟩
theorem tb_410 : Cond.methodLink RqX 199 yqLi_settle ∈ gtb := List.mem_filter.mpr ⟨List.mem_of_getElem? (i := 410) (by decide +kernel), by decide +kernel⟩
theorem tb_478 : Cond.code yqLi_stretch cqLi_stretch 3 (some .int) ∈ gtb := List.mem_filter.mpr ⟨List.mem_of_getElem? (i := 478) (by decide +kernel), by decide +kernel⟩
theorem tb_475 : Cond.methodLink RqX 206 yqLi_stretch ∈ gtb := List.mem_filter.mpr ⟨List.mem_of_getElem? (i := 475) (by decide +kernel), by decide +kernel⟩
theorem tb_476 : Cond.instanceMethod yqLi_stretch ∈ gtb := List.mem_filter.mpr ⟨List.mem_of_getElem? (i := 476) (by decide +kernel), by decide +kernel⟩
theorem tb_477 : Cond.selects RqLi yqLi_stretch yqLi_stretch ∈ gtb := List.mem_filter.mpr ⟨List.mem_of_getElem? (i := 477) (by decide +kernel), by decide +kernel⟩
theorem tb_359 : Cond.code yqX_isExtent cqX_isExtent 1 (some .boolean) ∈ gtb := List.mem_filter.mpr ⟨List.mem_of_getElem? (i := 359) (by decide +kernel), by decide +kernel⟩
theorem tb_357 : Cond.methodLink RqX 134 yqX_isExtent ∈ gtb := List.mem_filter.mpr ⟨List.mem_of_getElem? (i := 357) (by decide +kernel), by decide +kernel⟩
theorem tb_358 : Cond.static yqX_isExtent ∈ gtb := List.mem_filter.mpr ⟨List.mem_of_getElem? (i := 358) (by decide +kernel), by decide +kernel⟩
theorem tb_360 : Cond.methodLink RqX 137 yqCo_lastOne ∈ gtb := List.mem_filter.mpr ⟨List.mem_of_getElem? (i := 360) (by decide +kernel), by decide +kernel⟩
theorem tb_367 : Cond.code yqX_takeInHand cqX_takeInHand 4 (some .int) ∈ gtb := List.mem_filter.mpr ⟨List.mem_of_getElem? (i := 367) (by decide +kernel), by decide +kernel⟩
theorem tb_364 : Cond.methodLink RqX 140 yqX_takeInHand ∈ gtb := List.mem_filter.mpr ⟨List.mem_of_getElem? (i := 364) (by decide +kernel), by decide +kernel⟩
theorem tb_366 : Cond.instanceMethod yqX_takeInHand ∈ gtb := List.mem_filter.mpr ⟨List.mem_of_getElem? (i := 366) (by decide +kernel), by decide +kernel⟩
theorem tb_1 : Cond.selects RqX yqX_takeInHand yqX_takeInHand ∈ gtb := List.mem_filter.mpr ⟨List.mem_of_getElem? (i := 1) (by decide +kernel), by decide +kernel⟩
theorem tb_502 : Cond.code yqLi_excess cqLi_excess 1 (some .int) ∈ gtb := List.mem_filter.mpr ⟨List.mem_of_getElem? (i := 502) (by decide +kernel), by decide +kernel⟩
theorem tb_499 : Cond.methodLink RqX 143 yqLi_excess ∈ gtb := List.mem_filter.mpr ⟨List.mem_of_getElem? (i := 499) (by decide +kernel), by decide +kernel⟩
theorem tb_500 : Cond.instanceMethod yqLi_excess ∈ gtb := List.mem_filter.mpr ⟨List.mem_of_getElem? (i := 500) (by decide +kernel), by decide +kernel⟩
theorem tb_501 : Cond.selects RqLi yqLi_excess yqLi_excess ∈ gtb := List.mem_filter.mpr ⟨List.mem_of_getElem? (i := 501) (by decide +kernel), by decide +kernel⟩
theorem tb_509 : Cond.code yqX_isPart cqX_isPart 1 (some .boolean) ∈ gtb := List.mem_filter.mpr ⟨List.mem_of_getElem? (i := 509) (by decide +kernel), by decide +kernel⟩
theorem tb_507 : Cond.methodLink RqX 146 yqX_isPart ∈ gtb := List.mem_filter.mpr ⟨List.mem_of_getElem? (i := 507) (by decide +kernel), by decide +kernel⟩
theorem tb_508 : Cond.static yqX_isPart ∈ gtb := List.mem_filter.mpr ⟨List.mem_of_getElem? (i := 508) (by decide +kernel), by decide +kernel⟩
theorem tb_514 : Cond.code yqLi_forcePart cqLi_forcePart 2 (some .long) ∈ gtb := List.mem_filter.mpr ⟨List.mem_of_getElem? (i := 514) (by decide +kernel), by decide +kernel⟩
theorem tb_511 : Cond.methodLink RqX 151 yqLi_forcePart ∈ gtb := List.mem_filter.mpr ⟨List.mem_of_getElem? (i := 511) (by decide +kernel), by decide +kernel⟩
theorem tb_512 : Cond.instanceMethod yqLi_forcePart ∈ gtb := List.mem_filter.mpr ⟨List.mem_of_getElem? (i := 512) (by decide +kernel), by decide +kernel⟩
theorem tb_513 : Cond.selects RqLi yqLi_forcePart yqLi_forcePart ∈ gtb := List.mem_filter.mpr ⟨List.mem_of_getElem? (i := 513) (by decide +kernel), by decide +kernel⟩
theorem tb_510 : Cond.constantLong RqX 149 (-3) ∈ gtb := List.mem_filter.mpr ⟨List.mem_of_getElem? (i := 510) (by decide +kernel), by decide +kernel⟩
theorem tb_522 : Cond.code yqLi_hasGap cqLi_hasGap 2 (some .boolean) ∈ gtb := List.mem_filter.mpr ⟨List.mem_of_getElem? (i := 522) (by decide +kernel), by decide +kernel⟩
theorem tb_519 : Cond.methodLink RqX 154 yqLi_hasGap ∈ gtb := List.mem_filter.mpr ⟨List.mem_of_getElem? (i := 519) (by decide +kernel), by decide +kernel⟩
theorem tb_520 : Cond.instanceMethod yqLi_hasGap ∈ gtb := List.mem_filter.mpr ⟨List.mem_of_getElem? (i := 520) (by decide +kernel), by decide +kernel⟩
theorem tb_521 : Cond.selects RqLi yqLi_hasGap yqLi_hasGap ∈ gtb := List.mem_filter.mpr ⟨List.mem_of_getElem? (i := 521) (by decide +kernel), by decide +kernel⟩
theorem tb_528 : Cond.code yqLi_widthPart cqLi_widthPart 7 (some .long) ∈ gtb := List.mem_filter.mpr ⟨List.mem_of_getElem? (i := 528) (by decide +kernel), by decide +kernel⟩
theorem tb_525 : Cond.methodLink RqX 159 yqLi_widthPart ∈ gtb := List.mem_filter.mpr ⟨List.mem_of_getElem? (i := 525) (by decide +kernel), by decide +kernel⟩
theorem tb_526 : Cond.instanceMethod yqLi_widthPart ∈ gtb := List.mem_filter.mpr ⟨List.mem_of_getElem? (i := 526) (by decide +kernel), by decide +kernel⟩
theorem tb_527 : Cond.selects RqLi yqLi_widthPart yqLi_widthPart ∈ gtb := List.mem_filter.mpr ⟨List.mem_of_getElem? (i := 527) (by decide +kernel), by decide +kernel⟩
theorem tb_524 : Cond.constantLong RqX 157 (-1) ∈ gtb := List.mem_filter.mpr ⟨List.mem_of_getElem? (i := 524) (by decide +kernel), by decide +kernel⟩
theorem tb_541 : Cond.code yqLi_leastOf cqLi_leastOf 2 (some .int) ∈ gtb := List.mem_filter.mpr ⟨List.mem_of_getElem? (i := 541) (by decide +kernel), by decide +kernel⟩
theorem tb_538 : Cond.methodLink RqX 163 yqLi_leastOf ∈ gtb := List.mem_filter.mpr ⟨List.mem_of_getElem? (i := 538) (by decide +kernel), by decide +kernel⟩
theorem tb_539 : Cond.instanceMethod yqLi_leastOf ∈ gtb := List.mem_filter.mpr ⟨List.mem_of_getElem? (i := 539) (by decide +kernel), by decide +kernel⟩
theorem tb_540 : Cond.selects RqLi yqLi_leastOf yqLi_leastOf ∈ gtb := List.mem_filter.mpr ⟨List.mem_of_getElem? (i := 540) (by decide +kernel), by decide +kernel⟩
theorem tb_549 : Cond.code yqLi_hasColumn cqLi_hasColumn 2 (some .boolean) ∈ gtb := List.mem_filter.mpr ⟨List.mem_of_getElem? (i := 549) (by decide +kernel), by decide +kernel⟩
theorem tb_546 : Cond.methodLink RqX 166 yqLi_hasColumn ∈ gtb := List.mem_filter.mpr ⟨List.mem_of_getElem? (i := 546) (by decide +kernel), by decide +kernel⟩
theorem tb_547 : Cond.instanceMethod yqLi_hasColumn ∈ gtb := List.mem_filter.mpr ⟨List.mem_of_getElem? (i := 547) (by decide +kernel), by decide +kernel⟩
theorem tb_548 : Cond.selects RqLi yqLi_hasColumn yqLi_hasColumn ∈ gtb := List.mem_filter.mpr ⟨List.mem_of_getElem? (i := 548) (by decide +kernel), by decide +kernel⟩
theorem tb_553 : Cond.code yqLi_placeOf cqLi_placeOf 2 (some .int) ∈ gtb := List.mem_filter.mpr ⟨List.mem_of_getElem? (i := 553) (by decide +kernel), by decide +kernel⟩
theorem tb_550 : Cond.methodLink RqX 169 yqLi_placeOf ∈ gtb := List.mem_filter.mpr ⟨List.mem_of_getElem? (i := 550) (by decide +kernel), by decide +kernel⟩
theorem tb_551 : Cond.instanceMethod yqLi_placeOf ∈ gtb := List.mem_filter.mpr ⟨List.mem_of_getElem? (i := 551) (by decide +kernel), by decide +kernel⟩
theorem tb_552 : Cond.selects RqLi yqLi_placeOf yqLi_placeOf ∈ gtb := List.mem_filter.mpr ⟨List.mem_of_getElem? (i := 552) (by decide +kernel), by decide +kernel⟩
theorem tb_566 : Cond.code yqLi_spans cqLi_spans 3 (some .boolean) ∈ gtb := List.mem_filter.mpr ⟨List.mem_of_getElem? (i := 566) (by decide +kernel), by decide +kernel⟩
theorem tb_563 : Cond.methodLink RqX 172 yqLi_spans ∈ gtb := List.mem_filter.mpr ⟨List.mem_of_getElem? (i := 563) (by decide +kernel), by decide +kernel⟩
theorem tb_564 : Cond.instanceMethod yqLi_spans ∈ gtb := List.mem_filter.mpr ⟨List.mem_of_getElem? (i := 564) (by decide +kernel), by decide +kernel⟩
theorem tb_565 : Cond.selects RqLi yqLi_spans yqLi_spans ∈ gtb := List.mem_filter.mpr ⟨List.mem_of_getElem? (i := 565) (by decide +kernel), by decide +kernel⟩
theorem tb_574 : Cond.code yqLi_placeAt cqLi_placeAt 10 (some .int) ∈ gtb := List.mem_filter.mpr ⟨List.mem_of_getElem? (i := 574) (by decide +kernel), by decide +kernel⟩
theorem tb_571 : Cond.methodLink RqX 176 yqLi_placeAt ∈ gtb := List.mem_filter.mpr ⟨List.mem_of_getElem? (i := 571) (by decide +kernel), by decide +kernel⟩
theorem tb_572 : Cond.instanceMethod yqLi_placeAt ∈ gtb := List.mem_filter.mpr ⟨List.mem_of_getElem? (i := 572) (by decide +kernel), by decide +kernel⟩
theorem tb_573 : Cond.selects RqLi yqLi_placeAt yqLi_placeAt ∈ gtb := List.mem_filter.mpr ⟨List.mem_of_getElem? (i := 573) (by decide +kernel), by decide +kernel⟩
theorem tb_196 : Cond.fieldLink RqX 44 "SpringSpaces" "trial" "LSpringSpaces$Line;" ∈ gtb := List.mem_filter.mpr ⟨List.mem_of_getElem? (i := 196) (by decide +kernel), by decide +kernel⟩
theorem tb_631 : Cond.methodLink RqX 203 yqLi_naturalWidth ∈ gtb := List.mem_filter.mpr ⟨List.mem_of_getElem? (i := 631) (by decide +kernel), by decide +kernel⟩
theorem tb_197 : Cond.fieldLink RqX 50 "SpringSpaces" "breaks" "LSpringSpaces$Breaks;" ∈ gtb := List.mem_filter.mpr ⟨List.mem_of_getElem? (i := 197) (by decide +kernel), by decide +kernel⟩
theorem tb_582 : Cond.code yqBr_choose cqBr_choose 7 (none) ∈ gtb := List.mem_filter.mpr ⟨List.mem_of_getElem? (i := 582) (by decide +kernel), by decide +kernel⟩
theorem tb_579 : Cond.methodLink RqX 187 yqBr_choose ∈ gtb := List.mem_filter.mpr ⟨List.mem_of_getElem? (i := 579) (by decide +kernel), by decide +kernel⟩
theorem tb_580 : Cond.instanceMethod yqBr_choose ∈ gtb := List.mem_filter.mpr ⟨List.mem_of_getElem? (i := 580) (by decide +kernel), by decide +kernel⟩
theorem tb_581 : Cond.selects RqBr yqBr_choose yqBr_choose ∈ gtb := List.mem_filter.mpr ⟨List.mem_of_getElem? (i := 581) (by decide +kernel), by decide +kernel⟩
theorem tb_610 : Cond.code yqBr_size cqBr_size 1 (some .int) ∈ gtb := List.mem_filter.mpr ⟨List.mem_of_getElem? (i := 610) (by decide +kernel), by decide +kernel⟩
theorem tb_607 : Cond.methodLink RqX 191 yqBr_size ∈ gtb := List.mem_filter.mpr ⟨List.mem_of_getElem? (i := 607) (by decide +kernel), by decide +kernel⟩
theorem tb_608 : Cond.instanceMethod yqBr_size ∈ gtb := List.mem_filter.mpr ⟨List.mem_of_getElem? (i := 608) (by decide +kernel), by decide +kernel⟩
theorem tb_609 : Cond.selects RqBr yqBr_size yqBr_size ∈ gtb := List.mem_filter.mpr ⟨List.mem_of_getElem? (i := 609) (by decide +kernel), by decide +kernel⟩
theorem tb_618 : Cond.code yqBr_beginOf cqBr_beginOf 2 (some .int) ∈ gtb := List.mem_filter.mpr ⟨List.mem_of_getElem? (i := 618) (by decide +kernel), by decide +kernel⟩
theorem tb_615 : Cond.methodLink RqX 192 yqBr_beginOf ∈ gtb := List.mem_filter.mpr ⟨List.mem_of_getElem? (i := 615) (by decide +kernel), by decide +kernel⟩
theorem tb_616 : Cond.instanceMethod yqBr_beginOf ∈ gtb := List.mem_filter.mpr ⟨List.mem_of_getElem? (i := 616) (by decide +kernel), by decide +kernel⟩
theorem tb_617 : Cond.selects RqBr yqBr_beginOf yqBr_beginOf ∈ gtb := List.mem_filter.mpr ⟨List.mem_of_getElem? (i := 617) (by decide +kernel), by decide +kernel⟩
theorem tb_626 : Cond.code yqBr_wholeCost cqBr_wholeCost 1 (some .long) ∈ gtb := List.mem_filter.mpr ⟨List.mem_of_getElem? (i := 626) (by decide +kernel), by decide +kernel⟩
theorem tb_623 : Cond.methodLink RqX 195 yqBr_wholeCost ∈ gtb := List.mem_filter.mpr ⟨List.mem_of_getElem? (i := 623) (by decide +kernel), by decide +kernel⟩
theorem tb_624 : Cond.instanceMethod yqBr_wholeCost ∈ gtb := List.mem_filter.mpr ⟨List.mem_of_getElem? (i := 624) (by decide +kernel), by decide +kernel⟩
theorem tb_625 : Cond.selects RqBr yqBr_wholeCost yqBr_wholeCost ∈ gtb := List.mem_filter.mpr ⟨List.mem_of_getElem? (i := 625) (by decide +kernel), by decide +kernel⟩
theorem tb_48 : Cond.methodLink RqCo 3 objectInit ∈ gtb := List.mem_filter.mpr ⟨List.mem_of_getElem? (i := 48) (by decide +kernel), by decide +kernel⟩
theorem tb_41 : Cond.instanceMethod objectInit ∈ gtb := List.mem_filter.mpr ⟨List.mem_of_getElem? (i := 41) (by decide +kernel), by decide +kernel⟩
theorem tb_42 : Cond.code objectInit ⟨#[0xb1]⟩ 1 none ∈ gtb := List.mem_filter.mpr ⟨List.mem_of_getElem? (i := 42) (by decide +kernel), by decide +kernel⟩
theorem tb_68 : Cond.arrayClass .int ∈ gtb := List.mem_filter.mpr ⟨List.mem_of_getElem? (i := 68) (by decide +kernel), by decide +kernel⟩
theorem tb_69 : Cond.arrayClass .boolean ∈ gtb := List.mem_filter.mpr ⟨List.mem_of_getElem? (i := 69) (by decide +kernel), by decide +kernel⟩
theorem tb_75 : Cond.methodLink RqIt 3 objectInit ∈ gtb := List.mem_filter.mpr ⟨List.mem_of_getElem? (i := 75) (by decide +kernel), by decide +kernel⟩
theorem tb_91 : Cond.methodLink RqRo 3 objectInit ∈ gtb := List.mem_filter.mpr ⟨List.mem_of_getElem? (i := 91) (by decide +kernel), by decide +kernel⟩
theorem tb_116 : Cond.methodLink RqNe 3 objectInit ∈ gtb := List.mem_filter.mpr ⟨List.mem_of_getElem? (i := 116) (by decide +kernel), by decide +kernel⟩
theorem tb_141 : Cond.methodLink RqFo 1 objectInit ∈ gtb := List.mem_filter.mpr ⟨List.mem_of_getElem? (i := 141) (by decide +kernel), by decide +kernel⟩
theorem tb_135 : Cond.methodLink RqLi 3 objectInit ∈ gtb := List.mem_filter.mpr ⟨List.mem_of_getElem? (i := 135) (by decide +kernel), by decide +kernel⟩
theorem tb_149 : Cond.arrayClass .long ∈ gtb := List.mem_filter.mpr ⟨List.mem_of_getElem? (i := 149) (by decide +kernel), by decide +kernel⟩
theorem tb_136 : Cond.classLink RqLi 18 RqFo ∈ gtb := List.mem_filter.mpr ⟨List.mem_of_getElem? (i := 136) (by decide +kernel), by decide +kernel⟩
theorem tb_137 : Cond.instantiable RqFo 2 ∈ gtb := List.mem_filter.mpr ⟨List.mem_of_getElem? (i := 137) (by decide +kernel), by decide +kernel⟩
theorem tb_140 : Cond.code yqFo_init cqFo_init 1 (none) ∈ gtb := List.mem_filter.mpr ⟨List.mem_of_getElem? (i := 140) (by decide +kernel), by decide +kernel⟩
theorem tb_139 : Cond.instanceMethod yqFo_init ∈ gtb := List.mem_filter.mpr ⟨List.mem_of_getElem? (i := 139) (by decide +kernel), by decide +kernel⟩
theorem tb_174 : Cond.methodLink RqBr 3 objectInit ∈ gtb := List.mem_filter.mpr ⟨List.mem_of_getElem? (i := 174) (by decide +kernel), by decide +kernel⟩
theorem tb_40 : Cond.methodLink RqX 3 objectInit ∈ gtb := List.mem_filter.mpr ⟨List.mem_of_getElem? (i := 40) (by decide +kernel), by decide +kernel⟩
theorem tb_43 : Cond.classLink RqX 9 RqCo ∈ gtb := List.mem_filter.mpr ⟨List.mem_of_getElem? (i := 43) (by decide +kernel), by decide +kernel⟩
theorem tb_44 : Cond.instantiable RqCo 6 ∈ gtb := List.mem_filter.mpr ⟨List.mem_of_getElem? (i := 44) (by decide +kernel), by decide +kernel⟩
theorem tb_47 : Cond.code yqCo_init cqCo_init 1 (none) ∈ gtb := List.mem_filter.mpr ⟨List.mem_of_getElem? (i := 47) (by decide +kernel), by decide +kernel⟩
theorem tb_46 : Cond.instanceMethod yqCo_init ∈ gtb := List.mem_filter.mpr ⟨List.mem_of_getElem? (i := 46) (by decide +kernel), by decide +kernel⟩
theorem tb_70 : Cond.classLink RqX 16 RqIt ∈ gtb := List.mem_filter.mpr ⟨List.mem_of_getElem? (i := 70) (by decide +kernel), by decide +kernel⟩
theorem tb_71 : Cond.instantiable RqIt 3 ∈ gtb := List.mem_filter.mpr ⟨List.mem_of_getElem? (i := 71) (by decide +kernel), by decide +kernel⟩
theorem tb_74 : Cond.code yqIt_init cqIt_init 1 (none) ∈ gtb := List.mem_filter.mpr ⟨List.mem_of_getElem? (i := 74) (by decide +kernel), by decide +kernel⟩
theorem tb_73 : Cond.instanceMethod yqIt_init ∈ gtb := List.mem_filter.mpr ⟨List.mem_of_getElem? (i := 73) (by decide +kernel), by decide +kernel⟩
theorem tb_86 : Cond.classLink RqX 23 RqRo ∈ gtb := List.mem_filter.mpr ⟨List.mem_of_getElem? (i := 86) (by decide +kernel), by decide +kernel⟩
theorem tb_87 : Cond.instantiable RqRo 6 ∈ gtb := List.mem_filter.mpr ⟨List.mem_of_getElem? (i := 87) (by decide +kernel), by decide +kernel⟩
theorem tb_90 : Cond.code yqRo_init cqRo_init 1 (none) ∈ gtb := List.mem_filter.mpr ⟨List.mem_of_getElem? (i := 90) (by decide +kernel), by decide +kernel⟩
theorem tb_89 : Cond.instanceMethod yqRo_init ∈ gtb := List.mem_filter.mpr ⟨List.mem_of_getElem? (i := 89) (by decide +kernel), by decide +kernel⟩
theorem tb_111 : Cond.classLink RqX 30 RqNe ∈ gtb := List.mem_filter.mpr ⟨List.mem_of_getElem? (i := 111) (by decide +kernel), by decide +kernel⟩
theorem tb_112 : Cond.instantiable RqNe 4 ∈ gtb := List.mem_filter.mpr ⟨List.mem_of_getElem? (i := 112) (by decide +kernel), by decide +kernel⟩
theorem tb_115 : Cond.code yqNe_init cqNe_init 1 (none) ∈ gtb := List.mem_filter.mpr ⟨List.mem_of_getElem? (i := 115) (by decide +kernel), by decide +kernel⟩
theorem tb_114 : Cond.instanceMethod yqNe_init ∈ gtb := List.mem_filter.mpr ⟨List.mem_of_getElem? (i := 114) (by decide +kernel), by decide +kernel⟩
theorem tb_130 : Cond.classLink RqX 37 RqLi ∈ gtb := List.mem_filter.mpr ⟨List.mem_of_getElem? (i := 130) (by decide +kernel), by decide +kernel⟩
theorem tb_131 : Cond.instantiable RqLi 6 ∈ gtb := List.mem_filter.mpr ⟨List.mem_of_getElem? (i := 131) (by decide +kernel), by decide +kernel⟩
theorem tb_134 : Cond.code yqLi_init cqLi_init 1 (none) ∈ gtb := List.mem_filter.mpr ⟨List.mem_of_getElem? (i := 134) (by decide +kernel), by decide +kernel⟩
theorem tb_133 : Cond.instanceMethod yqLi_init ∈ gtb := List.mem_filter.mpr ⟨List.mem_of_getElem? (i := 133) (by decide +kernel), by decide +kernel⟩
theorem tb_169 : Cond.classLink RqX 47 RqBr ∈ gtb := List.mem_filter.mpr ⟨List.mem_of_getElem? (i := 169) (by decide +kernel), by decide +kernel⟩
theorem tb_170 : Cond.instantiable RqBr 5 ∈ gtb := List.mem_filter.mpr ⟨List.mem_of_getElem? (i := 170) (by decide +kernel), by decide +kernel⟩
theorem tb_173 : Cond.code yqBr_init cqBr_init 1 (none) ∈ gtb := List.mem_filter.mpr ⟨List.mem_of_getElem? (i := 173) (by decide +kernel), by decide +kernel⟩
theorem tb_172 : Cond.instanceMethod yqBr_init ∈ gtb := List.mem_filter.mpr ⟨List.mem_of_getElem? (i := 172) (by decide +kernel), by decide +kernel⟩
theorem tb_637 : Cond.methodLink RqM 1 objectInit ∈ gtb := List.mem_filter.mpr ⟨List.mem_of_getElem? (i := 637) (by decide +kernel), by decide +kernel⟩
theorem tb_638 : Cond.fieldLink RqM 7 "SpringSpacesModel" "base" "I" ∈ gtb := List.mem_filter.mpr ⟨List.mem_of_getElem? (i := 638) (by decide +kernel), by decide +kernel⟩
theorem tb_639 : Cond.fieldLink RqM 13 "SpringSpacesModel" "more" "I" ∈ gtb := List.mem_filter.mpr ⟨List.mem_of_getElem? (i := 639) (by decide +kernel), by decide +kernel⟩
theorem tb_641 : Cond.fieldLink RqM 16 "SpringSpacesModel" "times" "[I" ∈ gtb := List.mem_filter.mpr ⟨List.mem_of_getElem? (i := 641) (by decide +kernel), by decide +kernel⟩
theorem tb_642 : Cond.fieldLink RqM 20 "SpringSpacesModel" "leasts" "[I" ∈ gtb := List.mem_filter.mpr ⟨List.mem_of_getElem? (i := 642) (by decide +kernel), by decide +kernel⟩
theorem tb_643 : Cond.fieldLink RqM 23 "SpringSpacesModel" "bars" "[Z" ∈ gtb := List.mem_filter.mpr ⟨List.mem_of_getElem? (i := 643) (by decide +kernel), by decide +kernel⟩
theorem tb_644 : Cond.fieldLink RqM 27 "SpringSpacesModel" "isItem" "[Z" ∈ gtb := List.mem_filter.mpr ⟨List.mem_of_getElem? (i := 644) (by decide +kernel), by decide +kernel⟩
theorem tb_645 : Cond.fieldLink RqM 30 "SpringSpacesModel" "lefts" "[I" ∈ gtb := List.mem_filter.mpr ⟨List.mem_of_getElem? (i := 645) (by decide +kernel), by decide +kernel⟩
theorem tb_646 : Cond.fieldLink RqM 33 "SpringSpacesModel" "rights" "[I" ∈ gtb := List.mem_filter.mpr ⟨List.mem_of_getElem? (i := 646) (by decide +kernel), by decide +kernel⟩
theorem tb_649 : Cond.fieldLink RqM 36 "SpringSpacesModel" "rodFrom" "[I" ∈ gtb := List.mem_filter.mpr ⟨List.mem_of_getElem? (i := 649) (by decide +kernel), by decide +kernel⟩
theorem tb_650 : Cond.fieldLink RqM 39 "SpringSpacesModel" "rodTo" "[I" ∈ gtb := List.mem_filter.mpr ⟨List.mem_of_getElem? (i := 650) (by decide +kernel), by decide +kernel⟩
theorem tb_651 : Cond.fieldLink RqM 42 "SpringSpacesModel" "rodWidth" "[I" ∈ gtb := List.mem_filter.mpr ⟨List.mem_of_getElem? (i := 651) (by decide +kernel), by decide +kernel⟩
theorem tb_652 : Cond.fieldLink RqM 45 "SpringSpacesModel" "isRod" "[Z" ∈ gtb := List.mem_filter.mpr ⟨List.mem_of_getElem? (i := 652) (by decide +kernel), by decide +kernel⟩
theorem tb_658 : Cond.fieldLink RqM 48 "SpringSpacesModel" "below" "J" ∈ gtb := List.mem_filter.mpr ⟨List.mem_of_getElem? (i := 658) (by decide +kernel), by decide +kernel⟩
theorem tb_659 : Cond.fieldLink RqM 52 "SpringSpacesModel" "settled" "[I" ∈ gtb := List.mem_filter.mpr ⟨List.mem_of_getElem? (i := 659) (by decide +kernel), by decide +kernel⟩
theorem tb_660 : Cond.fieldLink RqM 55 "SpringSpacesModel" "springs" "[J" ∈ gtb := List.mem_filter.mpr ⟨List.mem_of_getElem? (i := 660) (by decide +kernel), by decide +kernel⟩
theorem tb_664 : Cond.fieldLink RqM 59 "SpringSpacesModel" "begins" "[I" ∈ gtb := List.mem_filter.mpr ⟨List.mem_of_getElem? (i := 664) (by decide +kernel), by decide +kernel⟩
theorem tb_665 : Cond.fieldLink RqM 62 "SpringSpacesModel" "work" "[I" ∈ gtb := List.mem_filter.mpr ⟨List.mem_of_getElem? (i := 665) (by decide +kernel), by decide +kernel⟩
theorem tb_666 : Cond.fieldLink RqM 65 "SpringSpacesModel" "gives" "[Z" ∈ gtb := List.mem_filter.mpr ⟨List.mem_of_getElem? (i := 666) (by decide +kernel), by decide +kernel⟩
theorem tb_669 : Cond.fieldLink RqM 68 "SpringSpacesModel" "bestCost" "[J" ∈ gtb := List.mem_filter.mpr ⟨List.mem_of_getElem? (i := 669) (by decide +kernel), by decide +kernel⟩
theorem tb_670 : Cond.fieldLink RqM 71 "SpringSpacesModel" "bestLines" "[I" ∈ gtb := List.mem_filter.mpr ⟨List.mem_of_getElem? (i := 670) (by decide +kernel), by decide +kernel⟩
theorem tb_671 : Cond.fieldLink RqM 74 "SpringSpacesModel" "bestEnd" "[I" ∈ gtb := List.mem_filter.mpr ⟨List.mem_of_getElem? (i := 671) (by decide +kernel), by decide +kernel⟩
theorem tb_653 : Cond.fieldLink RqM 77 "SpringSpacesModel" "hasLine" "Z" ∈ gtb := List.mem_filter.mpr ⟨List.mem_of_getElem? (i := 653) (by decide +kernel), by decide +kernel⟩
theorem tb_661 : Cond.fieldLink RqM 81 "SpringSpacesModel" "hasLines" "Z" ∈ gtb := List.mem_filter.mpr ⟨List.mem_of_getElem? (i := 661) (by decide +kernel), by decide +kernel⟩
theorem tb_748 : Cond.code yqM_changed cqM_changed 1 (none) ∈ gtb := List.mem_filter.mpr ⟨List.mem_of_getElem? (i := 748) (by decide +kernel), by decide +kernel⟩
theorem tb_745 : Cond.methodLink RqM 84 yqM_changed ∈ gtb := List.mem_filter.mpr ⟨List.mem_of_getElem? (i := 745) (by decide +kernel), by decide +kernel⟩
theorem tb_747 : Cond.instanceMethod yqM_changed ∈ gtb := List.mem_filter.mpr ⟨List.mem_of_getElem? (i := 747) (by decide +kernel), by decide +kernel⟩
theorem tb_10 : Cond.selects RqM yqM_changed yqM_changed ∈ gtb := List.mem_filter.mpr ⟨List.mem_of_getElem? (i := 10) (by decide +kernel), by decide +kernel⟩
theorem tb_33 : Cond.initialized RqM ∈ gtb := List.mem_filter.mpr ⟨List.mem_of_getElem? (i := 33) (by decide +kernel), by decide +kernel⟩
theorem tb_753 : Cond.constant RqM 87 100000 ∈ gtb := List.mem_filter.mpr ⟨List.mem_of_getElem? (i := 753) (by decide +kernel), by decide +kernel⟩
theorem tb_640 : Cond.fieldLink RqM 88 "SpringSpacesModel" "columns" "I" ∈ gtb := List.mem_filter.mpr ⟨List.mem_of_getElem? (i := 640) (by decide +kernel), by decide +kernel⟩
theorem tb_647 : Cond.fieldLink RqM 91 "SpringSpacesModel" "rods" "I" ∈ gtb := List.mem_filter.mpr ⟨List.mem_of_getElem? (i := 647) (by decide +kernel), by decide +kernel⟩
theorem tb_648 : Cond.fieldLink RqM 94 "SpringSpacesModel" "rodsLeft" "I" ∈ gtb := List.mem_filter.mpr ⟨List.mem_of_getElem? (i := 648) (by decide +kernel), by decide +kernel⟩
theorem tb_767 : Cond.constantLong RqM 97 65536 ∈ gtb := List.mem_filter.mpr ⟨List.mem_of_getElem? (i := 767) (by decide +kernel), by decide +kernel⟩
theorem tb_768 : Cond.constant RqM 99 65536 ∈ gtb := List.mem_filter.mpr ⟨List.mem_of_getElem? (i := 768) (by decide +kernel), by decide +kernel⟩
theorem tb_762 : Cond.constantLong RqM 100 (-2) ∈ gtb := List.mem_filter.mpr ⟨List.mem_of_getElem? (i := 762) (by decide +kernel), by decide +kernel⟩
theorem tb_766 : Cond.code yqM_springOf cqM_springOf 3 (some .long) ∈ gtb := List.mem_filter.mpr ⟨List.mem_of_getElem? (i := 766) (by decide +kernel), by decide +kernel⟩
theorem tb_763 : Cond.methodLink RqM 102 yqM_springOf ∈ gtb := List.mem_filter.mpr ⟨List.mem_of_getElem? (i := 763) (by decide +kernel), by decide +kernel⟩
theorem tb_765 : Cond.instanceMethod yqM_springOf ∈ gtb := List.mem_filter.mpr ⟨List.mem_of_getElem? (i := 765) (by decide +kernel), by decide +kernel⟩
theorem tb_11 : Cond.selects RqM yqM_springOf yqM_springOf ∈ gtb := List.mem_filter.mpr ⟨List.mem_of_getElem? (i := 11) (by decide +kernel), by decide +kernel⟩
theorem tb_780 : Cond.code yqM_isColumn cqM_isColumn 2 (some .boolean) ∈ gtb := List.mem_filter.mpr ⟨List.mem_of_getElem? (i := 780) (by decide +kernel), by decide +kernel⟩
theorem tb_777 : Cond.methodLink RqM 106 yqM_isColumn ∈ gtb := List.mem_filter.mpr ⟨List.mem_of_getElem? (i := 777) (by decide +kernel), by decide +kernel⟩
theorem tb_779 : Cond.instanceMethod yqM_isColumn ∈ gtb := List.mem_filter.mpr ⟨List.mem_of_getElem? (i := 779) (by decide +kernel), by decide +kernel⟩
theorem tb_12 : Cond.selects RqM yqM_isColumn yqM_isColumn ∈ gtb := List.mem_filter.mpr ⟨List.mem_of_getElem? (i := 12) (by decide +kernel), by decide +kernel⟩
theorem tb_667 : Cond.fieldLink RqM 110 "SpringSpacesModel" "forceAbove" "J" ∈ gtb := List.mem_filter.mpr ⟨List.mem_of_getElem? (i := 667) (by decide +kernel), by decide +kernel⟩
theorem tb_668 : Cond.fieldLink RqM 113 "SpringSpacesModel" "forceBelow" "J" ∈ gtb := List.mem_filter.mpr ⟨List.mem_of_getElem? (i := 668) (by decide +kernel), by decide +kernel⟩
theorem tb_816 : Cond.code yqM_sum cqM_sum 5 (some .int) ∈ gtb := List.mem_filter.mpr ⟨List.mem_of_getElem? (i := 816) (by decide +kernel), by decide +kernel⟩
theorem tb_813 : Cond.methodLink RqM 116 yqM_sum ∈ gtb := List.mem_filter.mpr ⟨List.mem_of_getElem? (i := 813) (by decide +kernel), by decide +kernel⟩
theorem tb_815 : Cond.instanceMethod yqM_sum ∈ gtb := List.mem_filter.mpr ⟨List.mem_of_getElem? (i := 815) (by decide +kernel), by decide +kernel⟩
theorem tb_16 : Cond.selects RqM yqM_sum yqM_sum ∈ gtb := List.mem_filter.mpr ⟨List.mem_of_getElem? (i := 16) (by decide +kernel), by decide +kernel⟩
theorem tb_820 : Cond.code yqM_hasSpring cqM_hasSpring 4 (some .boolean) ∈ gtb := List.mem_filter.mpr ⟨List.mem_of_getElem? (i := 820) (by decide +kernel), by decide +kernel⟩
theorem tb_817 : Cond.methodLink RqM 120 yqM_hasSpring ∈ gtb := List.mem_filter.mpr ⟨List.mem_of_getElem? (i := 817) (by decide +kernel), by decide +kernel⟩
theorem tb_819 : Cond.instanceMethod yqM_hasSpring ∈ gtb := List.mem_filter.mpr ⟨List.mem_of_getElem? (i := 819) (by decide +kernel), by decide +kernel⟩
theorem tb_17 : Cond.selects RqM yqM_hasSpring yqM_hasSpring ∈ gtb := List.mem_filter.mpr ⟨List.mem_of_getElem? (i := 17) (by decide +kernel), by decide +kernel⟩
theorem tb_824 : Cond.code yqM_findForce cqM_findForce 11 (none) ∈ gtb := List.mem_filter.mpr ⟨List.mem_of_getElem? (i := 824) (by decide +kernel), by decide +kernel⟩
theorem tb_821 : Cond.methodLink RqM 124 yqM_findForce ∈ gtb := List.mem_filter.mpr ⟨List.mem_of_getElem? (i := 821) (by decide +kernel), by decide +kernel⟩
theorem tb_823 : Cond.instanceMethod yqM_findForce ∈ gtb := List.mem_filter.mpr ⟨List.mem_of_getElem? (i := 823) (by decide +kernel), by decide +kernel⟩
theorem tb_18 : Cond.selects RqM yqM_findForce yqM_findForce ∈ gtb := List.mem_filter.mpr ⟨List.mem_of_getElem? (i := 18) (by decide +kernel), by decide +kernel⟩
theorem tb_812 : Cond.code yqM_need cqM_need 9 (none) ∈ gtb := List.mem_filter.mpr ⟨List.mem_of_getElem? (i := 812) (by decide +kernel), by decide +kernel⟩
theorem tb_809 : Cond.methodLink RqM 128 yqM_need ∈ gtb := List.mem_filter.mpr ⟨List.mem_of_getElem? (i := 809) (by decide +kernel), by decide +kernel⟩
theorem tb_811 : Cond.instanceMethod yqM_need ∈ gtb := List.mem_filter.mpr ⟨List.mem_of_getElem? (i := 811) (by decide +kernel), by decide +kernel⟩
theorem tb_15 : Cond.selects RqM yqM_need yqM_need ∈ gtb := List.mem_filter.mpr ⟨List.mem_of_getElem? (i := 15) (by decide +kernel), by decide +kernel⟩
theorem tb_808 : Cond.code yqM_settle cqM_settle 6 (none) ∈ gtb := List.mem_filter.mpr ⟨List.mem_of_getElem? (i := 808) (by decide +kernel), by decide +kernel⟩
theorem tb_805 : Cond.methodLink RqM 136 yqM_settle ∈ gtb := List.mem_filter.mpr ⟨List.mem_of_getElem? (i := 805) (by decide +kernel), by decide +kernel⟩
theorem tb_807 : Cond.instanceMethod yqM_settle ∈ gtb := List.mem_filter.mpr ⟨List.mem_of_getElem? (i := 807) (by decide +kernel), by decide +kernel⟩
theorem tb_14 : Cond.selects RqM yqM_settle yqM_settle ∈ gtb := List.mem_filter.mpr ⟨List.mem_of_getElem? (i := 14) (by decide +kernel), by decide +kernel⟩
theorem tb_654 : Cond.fieldLink RqM 140 "SpringSpacesModel" "first" "I" ∈ gtb := List.mem_filter.mpr ⟨List.mem_of_getElem? (i := 654) (by decide +kernel), by decide +kernel⟩
theorem tb_655 : Cond.fieldLink RqM 143 "SpringSpacesModel" "last" "I" ∈ gtb := List.mem_filter.mpr ⟨List.mem_of_getElem? (i := 655) (by decide +kernel), by decide +kernel⟩
theorem tb_656 : Cond.fieldLink RqM 146 "SpringSpacesModel" "over" "I" ∈ gtb := List.mem_filter.mpr ⟨List.mem_of_getElem? (i := 656) (by decide +kernel), by decide +kernel⟩
theorem tb_657 : Cond.fieldLink RqM 149 "SpringSpacesModel" "above" "J" ∈ gtb := List.mem_filter.mpr ⟨List.mem_of_getElem? (i := 657) (by decide +kernel), by decide +kernel⟩
theorem tb_804 : Cond.code yqM_made cqM_made 6 (some .int) ∈ gtb := List.mem_filter.mpr ⟨List.mem_of_getElem? (i := 804) (by decide +kernel), by decide +kernel⟩
theorem tb_801 : Cond.methodLink RqM 132 yqM_made ∈ gtb := List.mem_filter.mpr ⟨List.mem_of_getElem? (i := 801) (by decide +kernel), by decide +kernel⟩
theorem tb_803 : Cond.instanceMethod yqM_made ∈ gtb := List.mem_filter.mpr ⟨List.mem_of_getElem? (i := 803) (by decide +kernel), by decide +kernel⟩
theorem tb_13 : Cond.selects RqM yqM_made yqM_made ∈ gtb := List.mem_filter.mpr ⟨List.mem_of_getElem? (i := 13) (by decide +kernel), by decide +kernel⟩
theorem tb_842 : Cond.code yqM_common cqM_common 10 (some .long) ∈ gtb := List.mem_filter.mpr ⟨List.mem_of_getElem? (i := 842) (by decide +kernel), by decide +kernel⟩
theorem tb_840 : Cond.methodLink RqM 152 yqM_common ∈ gtb := List.mem_filter.mpr ⟨List.mem_of_getElem? (i := 840) (by decide +kernel), by decide +kernel⟩
theorem tb_841 : Cond.static yqM_common ∈ gtb := List.mem_filter.mpr ⟨List.mem_of_getElem? (i := 841) (by decide +kernel), by decide +kernel⟩
theorem tb_843 : Cond.constantLong RqM 160 (-3) ∈ gtb := List.mem_filter.mpr ⟨List.mem_of_getElem? (i := 843) (by decide +kernel), by decide +kernel⟩
theorem tb_839 : Cond.code yqM_part cqM_part 5 (some .long) ∈ gtb := List.mem_filter.mpr ⟨List.mem_of_getElem? (i := 839) (by decide +kernel), by decide +kernel⟩
theorem tb_837 : Cond.methodLink RqM 156 yqM_part ∈ gtb := List.mem_filter.mpr ⟨List.mem_of_getElem? (i := 837) (by decide +kernel), by decide +kernel⟩
theorem tb_838 : Cond.static yqM_part ∈ gtb := List.mem_filter.mpr ⟨List.mem_of_getElem? (i := 838) (by decide +kernel), by decide +kernel⟩
theorem tb_848 : Cond.constantLong RqM 162 (-1) ∈ gtb := List.mem_filter.mpr ⟨List.mem_of_getElem? (i := 848) (by decide +kernel), by decide +kernel⟩
theorem tb_852 : Cond.code yqM_wide cqM_wide 6 (some .long) ∈ gtb := List.mem_filter.mpr ⟨List.mem_of_getElem? (i := 852) (by decide +kernel), by decide +kernel⟩
theorem tb_849 : Cond.methodLink RqM 164 yqM_wide ∈ gtb := List.mem_filter.mpr ⟨List.mem_of_getElem? (i := 849) (by decide +kernel), by decide +kernel⟩
theorem tb_851 : Cond.instanceMethod yqM_wide ∈ gtb := List.mem_filter.mpr ⟨List.mem_of_getElem? (i := 851) (by decide +kernel), by decide +kernel⟩
theorem tb_19 : Cond.selects RqM yqM_wide yqM_wide ∈ gtb := List.mem_filter.mpr ⟨List.mem_of_getElem? (i := 19) (by decide +kernel), by decide +kernel⟩
theorem tb_864 : Cond.code yqM_before cqM_before 5 (some .long) ∈ gtb := List.mem_filter.mpr ⟨List.mem_of_getElem? (i := 864) (by decide +kernel), by decide +kernel⟩
theorem tb_861 : Cond.methodLink RqM 167 yqM_before ∈ gtb := List.mem_filter.mpr ⟨List.mem_of_getElem? (i := 861) (by decide +kernel), by decide +kernel⟩
theorem tb_863 : Cond.instanceMethod yqM_before ∈ gtb := List.mem_filter.mpr ⟨List.mem_of_getElem? (i := 863) (by decide +kernel), by decide +kernel⟩
theorem tb_20 : Cond.selects RqM yqM_before yqM_before ∈ gtb := List.mem_filter.mpr ⟨List.mem_of_getElem? (i := 20) (by decide +kernel), by decide +kernel⟩
theorem tb_876 : Cond.code yqM_naturalOf cqM_naturalOf 6 (some .int) ∈ gtb := List.mem_filter.mpr ⟨List.mem_of_getElem? (i := 876) (by decide +kernel), by decide +kernel⟩
theorem tb_873 : Cond.methodLink RqM 170 yqM_naturalOf ∈ gtb := List.mem_filter.mpr ⟨List.mem_of_getElem? (i := 873) (by decide +kernel), by decide +kernel⟩
theorem tb_875 : Cond.instanceMethod yqM_naturalOf ∈ gtb := List.mem_filter.mpr ⟨List.mem_of_getElem? (i := 875) (by decide +kernel), by decide +kernel⟩
theorem tb_21 : Cond.selects RqM yqM_naturalOf yqM_naturalOf ∈ gtb := List.mem_filter.mpr ⟨List.mem_of_getElem? (i := 21) (by decide +kernel), by decide +kernel⟩
theorem tb_889 : Cond.constantLong RqM 173 1000000000 ∈ gtb := List.mem_filter.mpr ⟨List.mem_of_getElem? (i := 889) (by decide +kernel), by decide +kernel⟩
theorem tb_662 : Cond.fieldLink RqM 182 "SpringSpacesModel" "lineCount" "I" ∈ gtb := List.mem_filter.mpr ⟨List.mem_of_getElem? (i := 662) (by decide +kernel), by decide +kernel⟩
theorem tb_663 : Cond.fieldLink RqM 185 "SpringSpacesModel" "cost" "J" ∈ gtb := List.mem_filter.mpr ⟨List.mem_of_getElem? (i := 663) (by decide +kernel), by decide +kernel⟩
theorem tb_884 : Cond.code yqM_isBreak cqM_isBreak 2 (some .boolean) ∈ gtb := List.mem_filter.mpr ⟨List.mem_of_getElem? (i := 884) (by decide +kernel), by decide +kernel⟩
theorem tb_881 : Cond.methodLink RqM 175 yqM_isBreak ∈ gtb := List.mem_filter.mpr ⟨List.mem_of_getElem? (i := 881) (by decide +kernel), by decide +kernel⟩
theorem tb_883 : Cond.instanceMethod yqM_isBreak ∈ gtb := List.mem_filter.mpr ⟨List.mem_of_getElem? (i := 883) (by decide +kernel), by decide +kernel⟩
theorem tb_22 : Cond.selects RqM yqM_isBreak yqM_isBreak ∈ gtb := List.mem_filter.mpr ⟨List.mem_of_getElem? (i := 22) (by decide +kernel), by decide +kernel⟩
theorem tb_888 : Cond.code yqM_costOf cqM_costOf 7 (some .long) ∈ gtb := List.mem_filter.mpr ⟨List.mem_of_getElem? (i := 888) (by decide +kernel), by decide +kernel⟩
theorem tb_885 : Cond.methodLink RqM 178 yqM_costOf ∈ gtb := List.mem_filter.mpr ⟨List.mem_of_getElem? (i := 885) (by decide +kernel), by decide +kernel⟩
theorem tb_887 : Cond.instanceMethod yqM_costOf ∈ gtb := List.mem_filter.mpr ⟨List.mem_of_getElem? (i := 887) (by decide +kernel), by decide +kernel⟩
theorem tb_23 : Cond.selects RqM yqM_costOf yqM_costOf ∈ gtb := List.mem_filter.mpr ⟨List.mem_of_getElem? (i := 23) (by decide +kernel), by decide +kernel⟩
def nestLinks : List (String × Nat × MethodName × String) := [(RqCo, 32, yqX_within, RqX), (RqRo, 32, yqX_within, RqX), (RqFo, 16, yqX_sumOf, RqX), (RqFo, 26, yqX_commonDivisor, RqX), (RqLi, 68, yqX_sumOf, RqX), (RqLi, 83, yqX_dividedUp, RqX), (RqLi, 100, yqX_within, RqX), (RqLi, 110, yqX_commonDivisor, RqX), (RqLi, 116, yqX_dividedDown, RqX), (RqLi, 20, yqFo_init, RqX), (RqX, 11, yqCo_init, RqX), (RqX, 18, yqIt_init, RqX), (RqX, 25, yqRo_init, RqX), (RqX, 32, yqNe_init, RqX), (RqX, 39, yqLi_init, RqX), (RqX, 49, yqBr_init, RqX)]
theorem nl_Co_have_32 : (RqCo, 32, yqX_within, RqX) ∈ nestLinks := List.mem_of_getElem? (i := 0) rfl
theorem nl_Co_haveGap_32 : (RqCo, 32, yqX_within, RqX) ∈ nestLinks := List.mem_of_getElem? (i := 0) rfl
theorem nl_Ro_have_32 : (RqRo, 32, yqX_within, RqX) ∈ nestLinks := List.mem_of_getElem? (i := 1) rfl
theorem nl_Fo_find_16 : (RqFo, 16, yqX_sumOf, RqX) ∈ nestLinks := List.mem_of_getElem? (i := 2) rfl
theorem nl_Fo_bringToLowestTerms_26 : (RqFo, 26, yqX_commonDivisor, RqX) ∈ nestLinks := List.mem_of_getElem? (i := 3) rfl
theorem nl_Li_meet_68 : (RqLi, 68, yqX_sumOf, RqX) ∈ nestLinks := List.mem_of_getElem? (i := 4) rfl
theorem nl_Li_meet_83 : (RqLi, 83, yqX_dividedUp, RqX) ∈ nestLinks := List.mem_of_getElem? (i := 5) rfl
theorem nl_Li_sumOfLeasts_68 : (RqLi, 68, yqX_sumOf, RqX) ∈ nestLinks := List.mem_of_getElem? (i := 4) rfl
theorem nl_Li_hasGap_100 : (RqLi, 100, yqX_within, RqX) ∈ nestLinks := List.mem_of_getElem? (i := 6) rfl
theorem nl_Li_hasColumn_100 : (RqLi, 100, yqX_within, RqX) ∈ nestLinks := List.mem_of_getElem? (i := 6) rfl
theorem nl_Li_spans_100 : (RqLi, 100, yqX_within, RqX) ∈ nestLinks := List.mem_of_getElem? (i := 6) rfl
theorem nl_Li_widthPart_110 : (RqLi, 110, yqX_commonDivisor, RqX) ∈ nestLinks := List.mem_of_getElem? (i := 7) rfl
theorem nl_Li_placeOf_116 : (RqLi, 116, yqX_dividedDown, RqX) ∈ nestLinks := List.mem_of_getElem? (i := 8) rfl
theorem nl_Li_placeAt_116 : (RqLi, 116, yqX_dividedDown, RqX) ∈ nestLinks := List.mem_of_getElem? (i := 8) rfl
theorem nl_Li_init_20 : (RqLi, 20, yqFo_init, RqX) ∈ nestLinks := List.mem_of_getElem? (i := 9) rfl
theorem nl_X_init_11 : (RqX, 11, yqCo_init, RqX) ∈ nestLinks := List.mem_of_getElem? (i := 10) rfl
theorem nl_X_init_18 : (RqX, 18, yqIt_init, RqX) ∈ nestLinks := List.mem_of_getElem? (i := 11) rfl
theorem nl_X_init_25 : (RqX, 25, yqRo_init, RqX) ∈ nestLinks := List.mem_of_getElem? (i := 12) rfl
theorem nl_X_init_32 : (RqX, 32, yqNe_init, RqX) ∈ nestLinks := List.mem_of_getElem? (i := 13) rfl
theorem nl_X_init_39 : (RqX, 39, yqLi_init, RqX) ∈ nestLinks := List.mem_of_getElem? (i := 14) rfl
theorem nl_X_init_49 : (RqX, 49, yqBr_init, RqX) ∈ nestLinks := List.mem_of_getElem? (i := 15) rfl
theorem nestLinks_ok : ∀ q ∈ nestLinks, Cond.methodLinkNest q.1 q.2.1 q.2.2.1 q.2.2.2 ∈ lw_tbl := by decide +kernel
