theorem tb_222 : Cond.code yqX_table cqX_table 3 (some .int) ∈ gtb := List.mem_filter.mpr ⟨List.mem_of_getElem? (i := 222) (by decide +kernel), by decide +kernel⟩
theorem tb_219 : Cond.methodLink RqL 13 yqX_table ∈ gtb := List.mem_filter.mpr ⟨List.mem_of_getElem? (i := 219) (by decide +kernel), by decide +kernel⟩
theorem tb_220 : Cond.instanceMethod yqX_table ∈ gtb := List.mem_filter.mpr ⟨List.mem_of_getElem? (i := 220) (by decide +kernel), by decide +kernel⟩
theorem tb_221 : Cond.selects RqX yqX_table yqX_table ∈ gtb := List.mem_filter.mpr ⟨List.mem_of_getElem? (i := 221) (by decide +kernel), by decide +kernel⟩
theorem tb_744 : Cond.code yqM_table cqM_table 3 (some .int) ∈ gtb := List.mem_filter.mpr ⟨List.mem_of_getElem? (i := 744) (by decide +kernel), by decide +kernel⟩
theorem tb_741 : Cond.methodLink RqL 17 yqM_table ∈ gtb := List.mem_filter.mpr ⟨List.mem_of_getElem? (i := 741) (by decide +kernel), by decide +kernel⟩
theorem tb_742 : Cond.instanceMethod yqM_table ∈ gtb := List.mem_filter.mpr ⟨List.mem_of_getElem? (i := 742) (by decide +kernel), by decide +kernel⟩
theorem tb_743 : Cond.selects RqM yqM_table yqM_table ∈ gtb := List.mem_filter.mpr ⟨List.mem_of_getElem? (i := 743) (by decide +kernel), by decide +kernel⟩
theorem tb_237 : Cond.code yqX_column cqX_column 2 (some .int) ∈ gtb := List.mem_filter.mpr ⟨List.mem_of_getElem? (i := 237) (by decide +kernel), by decide +kernel⟩
theorem tb_234 : Cond.methodLink RqL 18 yqX_column ∈ gtb := List.mem_filter.mpr ⟨List.mem_of_getElem? (i := 234) (by decide +kernel), by decide +kernel⟩
theorem tb_235 : Cond.instanceMethod yqX_column ∈ gtb := List.mem_filter.mpr ⟨List.mem_of_getElem? (i := 235) (by decide +kernel), by decide +kernel⟩
theorem tb_236 : Cond.selects RqX yqX_column yqX_column ∈ gtb := List.mem_filter.mpr ⟨List.mem_of_getElem? (i := 236) (by decide +kernel), by decide +kernel⟩
theorem tb_752 : Cond.code yqM_column cqM_column 3 (some .int) ∈ gtb := List.mem_filter.mpr ⟨List.mem_of_getElem? (i := 752) (by decide +kernel), by decide +kernel⟩
theorem tb_749 : Cond.methodLink RqL 22 yqM_column ∈ gtb := List.mem_filter.mpr ⟨List.mem_of_getElem? (i := 749) (by decide +kernel), by decide +kernel⟩
theorem tb_750 : Cond.instanceMethod yqM_column ∈ gtb := List.mem_filter.mpr ⟨List.mem_of_getElem? (i := 750) (by decide +kernel), by decide +kernel⟩
theorem tb_751 : Cond.selects RqM yqM_column yqM_column ∈ gtb := List.mem_filter.mpr ⟨List.mem_of_getElem? (i := 751) (by decide +kernel), by decide +kernel⟩
theorem tb_254 : Cond.code yqX_clear cqX_clear 1 (some .int) ∈ gtb := List.mem_filter.mpr ⟨List.mem_of_getElem? (i := 254) (by decide +kernel), by decide +kernel⟩
theorem tb_251 : Cond.methodLink RqL 23 yqX_clear ∈ gtb := List.mem_filter.mpr ⟨List.mem_of_getElem? (i := 251) (by decide +kernel), by decide +kernel⟩
theorem tb_252 : Cond.instanceMethod yqX_clear ∈ gtb := List.mem_filter.mpr ⟨List.mem_of_getElem? (i := 252) (by decide +kernel), by decide +kernel⟩
theorem tb_253 : Cond.selects RqX yqX_clear yqX_clear ∈ gtb := List.mem_filter.mpr ⟨List.mem_of_getElem? (i := 253) (by decide +kernel), by decide +kernel⟩
theorem tb_757 : Cond.code yqM_clear cqM_clear 2 (some .int) ∈ gtb := List.mem_filter.mpr ⟨List.mem_of_getElem? (i := 757) (by decide +kernel), by decide +kernel⟩
theorem tb_754 : Cond.methodLink RqL 27 yqM_clear ∈ gtb := List.mem_filter.mpr ⟨List.mem_of_getElem? (i := 754) (by decide +kernel), by decide +kernel⟩
theorem tb_755 : Cond.instanceMethod yqM_clear ∈ gtb := List.mem_filter.mpr ⟨List.mem_of_getElem? (i := 755) (by decide +kernel), by decide +kernel⟩
theorem tb_756 : Cond.selects RqM yqM_clear yqM_clear ∈ gtb := List.mem_filter.mpr ⟨List.mem_of_getElem? (i := 756) (by decide +kernel), by decide +kernel⟩
theorem tb_270 : Cond.code yqX_spring cqX_spring 2 (some .long) ∈ gtb := List.mem_filter.mpr ⟨List.mem_of_getElem? (i := 270) (by decide +kernel), by decide +kernel⟩
theorem tb_267 : Cond.methodLink RqL 28 yqX_spring ∈ gtb := List.mem_filter.mpr ⟨List.mem_of_getElem? (i := 267) (by decide +kernel), by decide +kernel⟩
theorem tb_268 : Cond.instanceMethod yqX_spring ∈ gtb := List.mem_filter.mpr ⟨List.mem_of_getElem? (i := 268) (by decide +kernel), by decide +kernel⟩
theorem tb_269 : Cond.selects RqX yqX_spring yqX_spring ∈ gtb := List.mem_filter.mpr ⟨List.mem_of_getElem? (i := 269) (by decide +kernel), by decide +kernel⟩
theorem tb_761 : Cond.code yqM_spring cqM_spring 2 (some .long) ∈ gtb := List.mem_filter.mpr ⟨List.mem_of_getElem? (i := 761) (by decide +kernel), by decide +kernel⟩
theorem tb_758 : Cond.methodLink RqL 32 yqM_spring ∈ gtb := List.mem_filter.mpr ⟨List.mem_of_getElem? (i := 758) (by decide +kernel), by decide +kernel⟩
theorem tb_759 : Cond.instanceMethod yqM_spring ∈ gtb := List.mem_filter.mpr ⟨List.mem_of_getElem? (i := 759) (by decide +kernel), by decide +kernel⟩
theorem tb_760 : Cond.selects RqM yqM_spring yqM_spring ∈ gtb := List.mem_filter.mpr ⟨List.mem_of_getElem? (i := 760) (by decide +kernel), by decide +kernel⟩
theorem tb_280 : Cond.code yqX_least cqX_least 3 (some .int) ∈ gtb := List.mem_filter.mpr ⟨List.mem_of_getElem? (i := 280) (by decide +kernel), by decide +kernel⟩
theorem tb_277 : Cond.methodLink RqL 33 yqX_least ∈ gtb := List.mem_filter.mpr ⟨List.mem_of_getElem? (i := 277) (by decide +kernel), by decide +kernel⟩
theorem tb_278 : Cond.instanceMethod yqX_least ∈ gtb := List.mem_filter.mpr ⟨List.mem_of_getElem? (i := 278) (by decide +kernel), by decide +kernel⟩
theorem tb_279 : Cond.selects RqX yqX_least yqX_least ∈ gtb := List.mem_filter.mpr ⟨List.mem_of_getElem? (i := 279) (by decide +kernel), by decide +kernel⟩
theorem tb_772 : Cond.code yqM_least cqM_least 4 (some .int) ∈ gtb := List.mem_filter.mpr ⟨List.mem_of_getElem? (i := 772) (by decide +kernel), by decide +kernel⟩
theorem tb_769 : Cond.methodLink RqL 36 yqM_least ∈ gtb := List.mem_filter.mpr ⟨List.mem_of_getElem? (i := 769) (by decide +kernel), by decide +kernel⟩
theorem tb_770 : Cond.instanceMethod yqM_least ∈ gtb := List.mem_filter.mpr ⟨List.mem_of_getElem? (i := 770) (by decide +kernel), by decide +kernel⟩
theorem tb_771 : Cond.selects RqM yqM_least yqM_least ∈ gtb := List.mem_filter.mpr ⟨List.mem_of_getElem? (i := 771) (by decide +kernel), by decide +kernel⟩
theorem tb_293 : Cond.code yqX_item cqX_item 5 (some .int) ∈ gtb := List.mem_filter.mpr ⟨List.mem_of_getElem? (i := 293) (by decide +kernel), by decide +kernel⟩
theorem tb_290 : Cond.methodLink RqL 37 yqX_item ∈ gtb := List.mem_filter.mpr ⟨List.mem_of_getElem? (i := 290) (by decide +kernel), by decide +kernel⟩
theorem tb_291 : Cond.instanceMethod yqX_item ∈ gtb := List.mem_filter.mpr ⟨List.mem_of_getElem? (i := 291) (by decide +kernel), by decide +kernel⟩
theorem tb_292 : Cond.selects RqX yqX_item yqX_item ∈ gtb := List.mem_filter.mpr ⟨List.mem_of_getElem? (i := 292) (by decide +kernel), by decide +kernel⟩
theorem tb_776 : Cond.code yqM_item cqM_item 7 (some .int) ∈ gtb := List.mem_filter.mpr ⟨List.mem_of_getElem? (i := 776) (by decide +kernel), by decide +kernel⟩
theorem tb_773 : Cond.methodLink RqL 41 yqM_item ∈ gtb := List.mem_filter.mpr ⟨List.mem_of_getElem? (i := 773) (by decide +kernel), by decide +kernel⟩
theorem tb_774 : Cond.instanceMethod yqM_item ∈ gtb := List.mem_filter.mpr ⟨List.mem_of_getElem? (i := 774) (by decide +kernel), by decide +kernel⟩
theorem tb_775 : Cond.selects RqM yqM_item yqM_item ∈ gtb := List.mem_filter.mpr ⟨List.mem_of_getElem? (i := 775) (by decide +kernel), by decide +kernel⟩
theorem tb_311 : Cond.code yqX_remove cqX_remove 3 (some .int) ∈ gtb := List.mem_filter.mpr ⟨List.mem_of_getElem? (i := 311) (by decide +kernel), by decide +kernel⟩
theorem tb_308 : Cond.methodLink RqL 42 yqX_remove ∈ gtb := List.mem_filter.mpr ⟨List.mem_of_getElem? (i := 308) (by decide +kernel), by decide +kernel⟩
theorem tb_309 : Cond.instanceMethod yqX_remove ∈ gtb := List.mem_filter.mpr ⟨List.mem_of_getElem? (i := 309) (by decide +kernel), by decide +kernel⟩
theorem tb_310 : Cond.selects RqX yqX_remove yqX_remove ∈ gtb := List.mem_filter.mpr ⟨List.mem_of_getElem? (i := 310) (by decide +kernel), by decide +kernel⟩
theorem tb_784 : Cond.code yqM_remove cqM_remove 3 (some .int) ∈ gtb := List.mem_filter.mpr ⟨List.mem_of_getElem? (i := 784) (by decide +kernel), by decide +kernel⟩
theorem tb_781 : Cond.methodLink RqL 45 yqM_remove ∈ gtb := List.mem_filter.mpr ⟨List.mem_of_getElem? (i := 781) (by decide +kernel), by decide +kernel⟩
theorem tb_782 : Cond.instanceMethod yqM_remove ∈ gtb := List.mem_filter.mpr ⟨List.mem_of_getElem? (i := 782) (by decide +kernel), by decide +kernel⟩
theorem tb_783 : Cond.selects RqM yqM_remove yqM_remove ∈ gtb := List.mem_filter.mpr ⟨List.mem_of_getElem? (i := 783) (by decide +kernel), by decide +kernel⟩
theorem tb_323 : Cond.code yqX_rod cqX_rod 4 (some .int) ∈ gtb := List.mem_filter.mpr ⟨List.mem_of_getElem? (i := 323) (by decide +kernel), by decide +kernel⟩
theorem tb_320 : Cond.methodLink RqL 46 yqX_rod ∈ gtb := List.mem_filter.mpr ⟨List.mem_of_getElem? (i := 320) (by decide +kernel), by decide +kernel⟩
theorem tb_321 : Cond.instanceMethod yqX_rod ∈ gtb := List.mem_filter.mpr ⟨List.mem_of_getElem? (i := 321) (by decide +kernel), by decide +kernel⟩
theorem tb_322 : Cond.selects RqX yqX_rod yqX_rod ∈ gtb := List.mem_filter.mpr ⟨List.mem_of_getElem? (i := 322) (by decide +kernel), by decide +kernel⟩
theorem tb_788 : Cond.code yqM_rod cqM_rod 4 (some .int) ∈ gtb := List.mem_filter.mpr ⟨List.mem_of_getElem? (i := 788) (by decide +kernel), by decide +kernel⟩
theorem tb_785 : Cond.methodLink RqL 50 yqM_rod ∈ gtb := List.mem_filter.mpr ⟨List.mem_of_getElem? (i := 785) (by decide +kernel), by decide +kernel⟩
theorem tb_786 : Cond.instanceMethod yqM_rod ∈ gtb := List.mem_filter.mpr ⟨List.mem_of_getElem? (i := 786) (by decide +kernel), by decide +kernel⟩
theorem tb_787 : Cond.selects RqM yqM_rod yqM_rod ∈ gtb := List.mem_filter.mpr ⟨List.mem_of_getElem? (i := 787) (by decide +kernel), by decide +kernel⟩
theorem tb_335 : Cond.code yqX_drop cqX_drop 2 (some .int) ∈ gtb := List.mem_filter.mpr ⟨List.mem_of_getElem? (i := 335) (by decide +kernel), by decide +kernel⟩
theorem tb_332 : Cond.methodLink RqL 51 yqX_drop ∈ gtb := List.mem_filter.mpr ⟨List.mem_of_getElem? (i := 332) (by decide +kernel), by decide +kernel⟩
theorem tb_333 : Cond.instanceMethod yqX_drop ∈ gtb := List.mem_filter.mpr ⟨List.mem_of_getElem? (i := 333) (by decide +kernel), by decide +kernel⟩
theorem tb_334 : Cond.selects RqX yqX_drop yqX_drop ∈ gtb := List.mem_filter.mpr ⟨List.mem_of_getElem? (i := 334) (by decide +kernel), by decide +kernel⟩
theorem tb_792 : Cond.code yqM_drop cqM_drop 2 (some .int) ∈ gtb := List.mem_filter.mpr ⟨List.mem_of_getElem? (i := 792) (by decide +kernel), by decide +kernel⟩
theorem tb_789 : Cond.methodLink RqL 54 yqM_drop ∈ gtb := List.mem_filter.mpr ⟨List.mem_of_getElem? (i := 789) (by decide +kernel), by decide +kernel⟩
theorem tb_790 : Cond.instanceMethod yqM_drop ∈ gtb := List.mem_filter.mpr ⟨List.mem_of_getElem? (i := 790) (by decide +kernel), by decide +kernel⟩
theorem tb_791 : Cond.selects RqM yqM_drop yqM_drop ∈ gtb := List.mem_filter.mpr ⟨List.mem_of_getElem? (i := 791) (by decide +kernel), by decide +kernel⟩
theorem tb_348 : Cond.code yqX_bar cqX_bar 3 (some .int) ∈ gtb := List.mem_filter.mpr ⟨List.mem_of_getElem? (i := 348) (by decide +kernel), by decide +kernel⟩
theorem tb_345 : Cond.methodLink RqL 55 yqX_bar ∈ gtb := List.mem_filter.mpr ⟨List.mem_of_getElem? (i := 345) (by decide +kernel), by decide +kernel⟩
theorem tb_346 : Cond.instanceMethod yqX_bar ∈ gtb := List.mem_filter.mpr ⟨List.mem_of_getElem? (i := 346) (by decide +kernel), by decide +kernel⟩
theorem tb_347 : Cond.selects RqX yqX_bar yqX_bar ∈ gtb := List.mem_filter.mpr ⟨List.mem_of_getElem? (i := 347) (by decide +kernel), by decide +kernel⟩
theorem tb_796 : Cond.code yqM_bar cqM_bar 4 (some .int) ∈ gtb := List.mem_filter.mpr ⟨List.mem_of_getElem? (i := 796) (by decide +kernel), by decide +kernel⟩
theorem tb_793 : Cond.methodLink RqL 59 yqM_bar ∈ gtb := List.mem_filter.mpr ⟨List.mem_of_getElem? (i := 793) (by decide +kernel), by decide +kernel⟩
theorem tb_794 : Cond.instanceMethod yqM_bar ∈ gtb := List.mem_filter.mpr ⟨List.mem_of_getElem? (i := 794) (by decide +kernel), by decide +kernel⟩
theorem tb_795 : Cond.selects RqM yqM_bar yqM_bar ∈ gtb := List.mem_filter.mpr ⟨List.mem_of_getElem? (i := 795) (by decide +kernel), by decide +kernel⟩
theorem tb_356 : Cond.code yqX_run cqX_run 2 (some .int) ∈ gtb := List.mem_filter.mpr ⟨List.mem_of_getElem? (i := 356) (by decide +kernel), by decide +kernel⟩
theorem tb_353 : Cond.methodLink RqL 60 yqX_run ∈ gtb := List.mem_filter.mpr ⟨List.mem_of_getElem? (i := 353) (by decide +kernel), by decide +kernel⟩
theorem tb_354 : Cond.instanceMethod yqX_run ∈ gtb := List.mem_filter.mpr ⟨List.mem_of_getElem? (i := 354) (by decide +kernel), by decide +kernel⟩
theorem tb_355 : Cond.selects RqX yqX_run yqX_run ∈ gtb := List.mem_filter.mpr ⟨List.mem_of_getElem? (i := 355) (by decide +kernel), by decide +kernel⟩
theorem tb_800 : Cond.code yqM_run cqM_run 2 (some .int) ∈ gtb := List.mem_filter.mpr ⟨List.mem_of_getElem? (i := 800) (by decide +kernel), by decide +kernel⟩
theorem tb_797 : Cond.methodLink RqL 63 yqM_run ∈ gtb := List.mem_filter.mpr ⟨List.mem_of_getElem? (i := 797) (by decide +kernel), by decide +kernel⟩
theorem tb_798 : Cond.instanceMethod yqM_run ∈ gtb := List.mem_filter.mpr ⟨List.mem_of_getElem? (i := 798) (by decide +kernel), by decide +kernel⟩
theorem tb_799 : Cond.selects RqM yqM_run yqM_run ∈ gtb := List.mem_filter.mpr ⟨List.mem_of_getElem? (i := 799) (by decide +kernel), by decide +kernel⟩
theorem tb_494 : Cond.code yqX_line cqX_line 4 (some .int) ∈ gtb := List.mem_filter.mpr ⟨List.mem_of_getElem? (i := 494) (by decide +kernel), by decide +kernel⟩
theorem tb_491 : Cond.methodLink RqL 64 yqX_line ∈ gtb := List.mem_filter.mpr ⟨List.mem_of_getElem? (i := 491) (by decide +kernel), by decide +kernel⟩
theorem tb_492 : Cond.instanceMethod yqX_line ∈ gtb := List.mem_filter.mpr ⟨List.mem_of_getElem? (i := 492) (by decide +kernel), by decide +kernel⟩
theorem tb_493 : Cond.selects RqX yqX_line yqX_line ∈ gtb := List.mem_filter.mpr ⟨List.mem_of_getElem? (i := 493) (by decide +kernel), by decide +kernel⟩
theorem tb_828 : Cond.code yqM_line cqM_line 4 (some .int) ∈ gtb := List.mem_filter.mpr ⟨List.mem_of_getElem? (i := 828) (by decide +kernel), by decide +kernel⟩
theorem tb_825 : Cond.methodLink RqL 67 yqM_line ∈ gtb := List.mem_filter.mpr ⟨List.mem_of_getElem? (i := 825) (by decide +kernel), by decide +kernel⟩
theorem tb_826 : Cond.instanceMethod yqM_line ∈ gtb := List.mem_filter.mpr ⟨List.mem_of_getElem? (i := 826) (by decide +kernel), by decide +kernel⟩
theorem tb_827 : Cond.selects RqM yqM_line yqM_line ∈ gtb := List.mem_filter.mpr ⟨List.mem_of_getElem? (i := 827) (by decide +kernel), by decide +kernel⟩
theorem tb_498 : Cond.code yqX_over cqX_over 1 (some .int) ∈ gtb := List.mem_filter.mpr ⟨List.mem_of_getElem? (i := 498) (by decide +kernel), by decide +kernel⟩
theorem tb_495 : Cond.methodLink RqL 68 yqX_over ∈ gtb := List.mem_filter.mpr ⟨List.mem_of_getElem? (i := 495) (by decide +kernel), by decide +kernel⟩
theorem tb_496 : Cond.instanceMethod yqX_over ∈ gtb := List.mem_filter.mpr ⟨List.mem_of_getElem? (i := 496) (by decide +kernel), by decide +kernel⟩
theorem tb_497 : Cond.selects RqX yqX_over yqX_over ∈ gtb := List.mem_filter.mpr ⟨List.mem_of_getElem? (i := 497) (by decide +kernel), by decide +kernel⟩
theorem tb_832 : Cond.code yqM_over cqM_over 1 (some .int) ∈ gtb := List.mem_filter.mpr ⟨List.mem_of_getElem? (i := 832) (by decide +kernel), by decide +kernel⟩
theorem tb_829 : Cond.methodLink RqL 71 yqM_over ∈ gtb := List.mem_filter.mpr ⟨List.mem_of_getElem? (i := 829) (by decide +kernel), by decide +kernel⟩
theorem tb_830 : Cond.instanceMethod yqM_over ∈ gtb := List.mem_filter.mpr ⟨List.mem_of_getElem? (i := 830) (by decide +kernel), by decide +kernel⟩
theorem tb_831 : Cond.selects RqM yqM_over yqM_over ∈ gtb := List.mem_filter.mpr ⟨List.mem_of_getElem? (i := 831) (by decide +kernel), by decide +kernel⟩
theorem tb_506 : Cond.code yqX_force cqX_force 2 (some .long) ∈ gtb := List.mem_filter.mpr ⟨List.mem_of_getElem? (i := 506) (by decide +kernel), by decide +kernel⟩
theorem tb_503 : Cond.methodLink RqL 72 yqX_force ∈ gtb := List.mem_filter.mpr ⟨List.mem_of_getElem? (i := 503) (by decide +kernel), by decide +kernel⟩
theorem tb_504 : Cond.instanceMethod yqX_force ∈ gtb := List.mem_filter.mpr ⟨List.mem_of_getElem? (i := 504) (by decide +kernel), by decide +kernel⟩
theorem tb_505 : Cond.selects RqX yqX_force yqX_force ∈ gtb := List.mem_filter.mpr ⟨List.mem_of_getElem? (i := 505) (by decide +kernel), by decide +kernel⟩
theorem tb_836 : Cond.code yqM_force cqM_force 2 (some .long) ∈ gtb := List.mem_filter.mpr ⟨List.mem_of_getElem? (i := 836) (by decide +kernel), by decide +kernel⟩
theorem tb_833 : Cond.methodLink RqL 75 yqM_force ∈ gtb := List.mem_filter.mpr ⟨List.mem_of_getElem? (i := 833) (by decide +kernel), by decide +kernel⟩
theorem tb_834 : Cond.instanceMethod yqM_force ∈ gtb := List.mem_filter.mpr ⟨List.mem_of_getElem? (i := 834) (by decide +kernel), by decide +kernel⟩
theorem tb_835 : Cond.selects RqM yqM_force yqM_force ∈ gtb := List.mem_filter.mpr ⟨List.mem_of_getElem? (i := 835) (by decide +kernel), by decide +kernel⟩
theorem tb_518 : Cond.code yqX_width cqX_width 3 (some .long) ∈ gtb := List.mem_filter.mpr ⟨List.mem_of_getElem? (i := 518) (by decide +kernel), by decide +kernel⟩
theorem tb_515 : Cond.methodLink RqL 76 yqX_width ∈ gtb := List.mem_filter.mpr ⟨List.mem_of_getElem? (i := 515) (by decide +kernel), by decide +kernel⟩
theorem tb_516 : Cond.instanceMethod yqX_width ∈ gtb := List.mem_filter.mpr ⟨List.mem_of_getElem? (i := 516) (by decide +kernel), by decide +kernel⟩
theorem tb_517 : Cond.selects RqX yqX_width yqX_width ∈ gtb := List.mem_filter.mpr ⟨List.mem_of_getElem? (i := 517) (by decide +kernel), by decide +kernel⟩
theorem tb_847 : Cond.code yqM_width cqM_width 3 (some .long) ∈ gtb := List.mem_filter.mpr ⟨List.mem_of_getElem? (i := 847) (by decide +kernel), by decide +kernel⟩
theorem tb_844 : Cond.methodLink RqL 80 yqM_width ∈ gtb := List.mem_filter.mpr ⟨List.mem_of_getElem? (i := 844) (by decide +kernel), by decide +kernel⟩
theorem tb_845 : Cond.instanceMethod yqM_width ∈ gtb := List.mem_filter.mpr ⟨List.mem_of_getElem? (i := 845) (by decide +kernel), by decide +kernel⟩
theorem tb_846 : Cond.selects RqM yqM_width yqM_width ∈ gtb := List.mem_filter.mpr ⟨List.mem_of_getElem? (i := 846) (by decide +kernel), by decide +kernel⟩
theorem tb_537 : Cond.code yqX_settled cqX_settled 2 (some .int) ∈ gtb := List.mem_filter.mpr ⟨List.mem_of_getElem? (i := 537) (by decide +kernel), by decide +kernel⟩
theorem tb_534 : Cond.methodLink RqL 81 yqX_settled ∈ gtb := List.mem_filter.mpr ⟨List.mem_of_getElem? (i := 534) (by decide +kernel), by decide +kernel⟩
theorem tb_535 : Cond.instanceMethod yqX_settled ∈ gtb := List.mem_filter.mpr ⟨List.mem_of_getElem? (i := 535) (by decide +kernel), by decide +kernel⟩
theorem tb_536 : Cond.selects RqX yqX_settled yqX_settled ∈ gtb := List.mem_filter.mpr ⟨List.mem_of_getElem? (i := 536) (by decide +kernel), by decide +kernel⟩
theorem tb_856 : Cond.code yqM_settled cqM_settled 2 (some .int) ∈ gtb := List.mem_filter.mpr ⟨List.mem_of_getElem? (i := 856) (by decide +kernel), by decide +kernel⟩
theorem tb_853 : Cond.methodLink RqL 84 yqM_settled ∈ gtb := List.mem_filter.mpr ⟨List.mem_of_getElem? (i := 853) (by decide +kernel), by decide +kernel⟩
theorem tb_854 : Cond.instanceMethod yqM_settled ∈ gtb := List.mem_filter.mpr ⟨List.mem_of_getElem? (i := 854) (by decide +kernel), by decide +kernel⟩
theorem tb_855 : Cond.selects RqM yqM_settled yqM_settled ∈ gtb := List.mem_filter.mpr ⟨List.mem_of_getElem? (i := 855) (by decide +kernel), by decide +kernel⟩
theorem tb_545 : Cond.code yqX_place cqX_place 2 (some .int) ∈ gtb := List.mem_filter.mpr ⟨List.mem_of_getElem? (i := 545) (by decide +kernel), by decide +kernel⟩
theorem tb_542 : Cond.methodLink RqL 85 yqX_place ∈ gtb := List.mem_filter.mpr ⟨List.mem_of_getElem? (i := 542) (by decide +kernel), by decide +kernel⟩
theorem tb_543 : Cond.instanceMethod yqX_place ∈ gtb := List.mem_filter.mpr ⟨List.mem_of_getElem? (i := 543) (by decide +kernel), by decide +kernel⟩
theorem tb_544 : Cond.selects RqX yqX_place yqX_place ∈ gtb := List.mem_filter.mpr ⟨List.mem_of_getElem? (i := 544) (by decide +kernel), by decide +kernel⟩
theorem tb_860 : Cond.code yqM_place cqM_place 2 (some .int) ∈ gtb := List.mem_filter.mpr ⟨List.mem_of_getElem? (i := 860) (by decide +kernel), by decide +kernel⟩
theorem tb_857 : Cond.methodLink RqL 88 yqM_place ∈ gtb := List.mem_filter.mpr ⟨List.mem_of_getElem? (i := 857) (by decide +kernel), by decide +kernel⟩
theorem tb_858 : Cond.instanceMethod yqM_place ∈ gtb := List.mem_filter.mpr ⟨List.mem_of_getElem? (i := 858) (by decide +kernel), by decide +kernel⟩
theorem tb_859 : Cond.selects RqM yqM_place yqM_place ∈ gtb := List.mem_filter.mpr ⟨List.mem_of_getElem? (i := 859) (by decide +kernel), by decide +kernel⟩
theorem tb_562 : Cond.code yqX_level cqX_level 2 (some .int) ∈ gtb := List.mem_filter.mpr ⟨List.mem_of_getElem? (i := 562) (by decide +kernel), by decide +kernel⟩
theorem tb_559 : Cond.methodLink RqL 89 yqX_level ∈ gtb := List.mem_filter.mpr ⟨List.mem_of_getElem? (i := 559) (by decide +kernel), by decide +kernel⟩
theorem tb_560 : Cond.instanceMethod yqX_level ∈ gtb := List.mem_filter.mpr ⟨List.mem_of_getElem? (i := 560) (by decide +kernel), by decide +kernel⟩
theorem tb_561 : Cond.selects RqX yqX_level yqX_level ∈ gtb := List.mem_filter.mpr ⟨List.mem_of_getElem? (i := 561) (by decide +kernel), by decide +kernel⟩
theorem tb_868 : Cond.code yqM_level cqM_level 15 (some .int) ∈ gtb := List.mem_filter.mpr ⟨List.mem_of_getElem? (i := 868) (by decide +kernel), by decide +kernel⟩
theorem tb_865 : Cond.methodLink RqL 92 yqM_level ∈ gtb := List.mem_filter.mpr ⟨List.mem_of_getElem? (i := 865) (by decide +kernel), by decide +kernel⟩
theorem tb_866 : Cond.instanceMethod yqM_level ∈ gtb := List.mem_filter.mpr ⟨List.mem_of_getElem? (i := 866) (by decide +kernel), by decide +kernel⟩
theorem tb_867 : Cond.selects RqM yqM_level yqM_level ∈ gtb := List.mem_filter.mpr ⟨List.mem_of_getElem? (i := 867) (by decide +kernel), by decide +kernel⟩
theorem tb_578 : Cond.code yqX_lines cqX_lines 2 (some .int) ∈ gtb := List.mem_filter.mpr ⟨List.mem_of_getElem? (i := 578) (by decide +kernel), by decide +kernel⟩
theorem tb_575 : Cond.methodLink RqL 93 yqX_lines ∈ gtb := List.mem_filter.mpr ⟨List.mem_of_getElem? (i := 575) (by decide +kernel), by decide +kernel⟩
theorem tb_576 : Cond.instanceMethod yqX_lines ∈ gtb := List.mem_filter.mpr ⟨List.mem_of_getElem? (i := 576) (by decide +kernel), by decide +kernel⟩
theorem tb_577 : Cond.selects RqX yqX_lines yqX_lines ∈ gtb := List.mem_filter.mpr ⟨List.mem_of_getElem? (i := 577) (by decide +kernel), by decide +kernel⟩
theorem tb_880 : Cond.code yqM_lines cqM_lines 7 (some .int) ∈ gtb := List.mem_filter.mpr ⟨List.mem_of_getElem? (i := 880) (by decide +kernel), by decide +kernel⟩
theorem tb_877 : Cond.methodLink RqL 96 yqM_lines ∈ gtb := List.mem_filter.mpr ⟨List.mem_of_getElem? (i := 877) (by decide +kernel), by decide +kernel⟩
theorem tb_878 : Cond.instanceMethod yqM_lines ∈ gtb := List.mem_filter.mpr ⟨List.mem_of_getElem? (i := 878) (by decide +kernel), by decide +kernel⟩
theorem tb_879 : Cond.selects RqM yqM_lines yqM_lines ∈ gtb := List.mem_filter.mpr ⟨List.mem_of_getElem? (i := 879) (by decide +kernel), by decide +kernel⟩
theorem tb_614 : Cond.code yqX_begin cqX_begin 2 (some .int) ∈ gtb := List.mem_filter.mpr ⟨List.mem_of_getElem? (i := 614) (by decide +kernel), by decide +kernel⟩
theorem tb_611 : Cond.methodLink RqL 97 yqX_begin ∈ gtb := List.mem_filter.mpr ⟨List.mem_of_getElem? (i := 611) (by decide +kernel), by decide +kernel⟩
theorem tb_612 : Cond.instanceMethod yqX_begin ∈ gtb := List.mem_filter.mpr ⟨List.mem_of_getElem? (i := 612) (by decide +kernel), by decide +kernel⟩
theorem tb_613 : Cond.selects RqX yqX_begin yqX_begin ∈ gtb := List.mem_filter.mpr ⟨List.mem_of_getElem? (i := 613) (by decide +kernel), by decide +kernel⟩
theorem tb_893 : Cond.code yqM_begin cqM_begin 2 (some .int) ∈ gtb := List.mem_filter.mpr ⟨List.mem_of_getElem? (i := 893) (by decide +kernel), by decide +kernel⟩
theorem tb_890 : Cond.methodLink RqL 100 yqM_begin ∈ gtb := List.mem_filter.mpr ⟨List.mem_of_getElem? (i := 890) (by decide +kernel), by decide +kernel⟩
theorem tb_891 : Cond.instanceMethod yqM_begin ∈ gtb := List.mem_filter.mpr ⟨List.mem_of_getElem? (i := 891) (by decide +kernel), by decide +kernel⟩
theorem tb_892 : Cond.selects RqM yqM_begin yqM_begin ∈ gtb := List.mem_filter.mpr ⟨List.mem_of_getElem? (i := 892) (by decide +kernel), by decide +kernel⟩
theorem tb_622 : Cond.code yqX_cost cqX_cost 1 (some .long) ∈ gtb := List.mem_filter.mpr ⟨List.mem_of_getElem? (i := 622) (by decide +kernel), by decide +kernel⟩
theorem tb_619 : Cond.methodLink RqL 101 yqX_cost ∈ gtb := List.mem_filter.mpr ⟨List.mem_of_getElem? (i := 619) (by decide +kernel), by decide +kernel⟩
theorem tb_620 : Cond.instanceMethod yqX_cost ∈ gtb := List.mem_filter.mpr ⟨List.mem_of_getElem? (i := 620) (by decide +kernel), by decide +kernel⟩
theorem tb_621 : Cond.selects RqX yqX_cost yqX_cost ∈ gtb := List.mem_filter.mpr ⟨List.mem_of_getElem? (i := 621) (by decide +kernel), by decide +kernel⟩
theorem tb_897 : Cond.code yqM_cost cqM_cost 1 (some .long) ∈ gtb := List.mem_filter.mpr ⟨List.mem_of_getElem? (i := 897) (by decide +kernel), by decide +kernel⟩
theorem tb_894 : Cond.methodLink RqL 105 yqM_cost ∈ gtb := List.mem_filter.mpr ⟨List.mem_of_getElem? (i := 894) (by decide +kernel), by decide +kernel⟩
theorem tb_895 : Cond.instanceMethod yqM_cost ∈ gtb := List.mem_filter.mpr ⟨List.mem_of_getElem? (i := 895) (by decide +kernel), by decide +kernel⟩
theorem tb_896 : Cond.selects RqM yqM_cost yqM_cost ∈ gtb := List.mem_filter.mpr ⟨List.mem_of_getElem? (i := 896) (by decide +kernel), by decide +kernel⟩
theorem tb_630 : Cond.code yqX_natural cqX_natural 3 (some .int) ∈ gtb := List.mem_filter.mpr ⟨List.mem_of_getElem? (i := 630) (by decide +kernel), by decide +kernel⟩
theorem tb_627 : Cond.methodLink RqL 106 yqX_natural ∈ gtb := List.mem_filter.mpr ⟨List.mem_of_getElem? (i := 627) (by decide +kernel), by decide +kernel⟩
theorem tb_628 : Cond.instanceMethod yqX_natural ∈ gtb := List.mem_filter.mpr ⟨List.mem_of_getElem? (i := 628) (by decide +kernel), by decide +kernel⟩
theorem tb_629 : Cond.selects RqX yqX_natural yqX_natural ∈ gtb := List.mem_filter.mpr ⟨List.mem_of_getElem? (i := 629) (by decide +kernel), by decide +kernel⟩
theorem tb_872 : Cond.code yqM_natural cqM_natural 3 (some .int) ∈ gtb := List.mem_filter.mpr ⟨List.mem_of_getElem? (i := 872) (by decide +kernel), by decide +kernel⟩
theorem tb_869 : Cond.methodLink RqL 109 yqM_natural ∈ gtb := List.mem_filter.mpr ⟨List.mem_of_getElem? (i := 869) (by decide +kernel), by decide +kernel⟩
theorem tb_870 : Cond.instanceMethod yqM_natural ∈ gtb := List.mem_filter.mpr ⟨List.mem_of_getElem? (i := 870) (by decide +kernel), by decide +kernel⟩
theorem tb_871 : Cond.selects RqM yqM_natural yqM_natural ∈ gtb := List.mem_filter.mpr ⟨List.mem_of_getElem? (i := 871) (by decide +kernel), by decide +kernel⟩
theorem tb_36 : Cond.instantiable RqX 9 ∈ gtb := List.mem_filter.mpr ⟨List.mem_of_getElem? (i := 36) (by decide +kernel), by decide +kernel⟩
theorem tb_633 : Cond.instantiable RqM 34 ∈ gtb := List.mem_filter.mpr ⟨List.mem_of_getElem? (i := 633) (by decide +kernel), by decide +kernel⟩
theorem tb_35 : Cond.classLink RqL 7 RqX ∈ gtb := List.mem_filter.mpr ⟨List.mem_of_getElem? (i := 35) (by decide +kernel), by decide +kernel⟩
theorem tb_39 : Cond.code yqX_init cqX_init 1 (none) ∈ gtb := List.mem_filter.mpr ⟨List.mem_of_getElem? (i := 39) (by decide +kernel), by decide +kernel⟩
theorem tb_37 : Cond.methodLink RqL 9 yqX_init ∈ gtb := List.mem_filter.mpr ⟨List.mem_of_getElem? (i := 37) (by decide +kernel), by decide +kernel⟩
theorem tb_38 : Cond.instanceMethod yqX_init ∈ gtb := List.mem_filter.mpr ⟨List.mem_of_getElem? (i := 38) (by decide +kernel), by decide +kernel⟩
theorem tb_632 : Cond.classLink RqL 10 RqM ∈ gtb := List.mem_filter.mpr ⟨List.mem_of_getElem? (i := 632) (by decide +kernel), by decide +kernel⟩
theorem tb_636 : Cond.code yqM_init cqM_init 1 (none) ∈ gtb := List.mem_filter.mpr ⟨List.mem_of_getElem? (i := 636) (by decide +kernel), by decide +kernel⟩
theorem tb_634 : Cond.methodLink RqL 12 yqM_init ∈ gtb := List.mem_filter.mpr ⟨List.mem_of_getElem? (i := 634) (by decide +kernel), by decide +kernel⟩
theorem tb_635 : Cond.instanceMethod yqM_init ∈ gtb := List.mem_filter.mpr ⟨List.mem_of_getElem? (i := 635) (by decide +kernel), by decide +kernel⟩
abbrev wsqL_law : List Cond := Cond.initialized RqX :: gtb
theorem wsqL_ok : ∀ w ∈ wsqL_law, w ∈ lw_tbl := fun w h => (List.mem_cons.mp h).elim (fun e => by rw [e]; exact (List.mem_filter.mp tb_25).1) (fun h => (List.mem_filter.mp h).1)
/-! the law's own rows -/
def sc (xs : Nat → Int32) (k : Int) : Int := (xs k.toNat).toInt
theorem sc_b (xs : Nat → Int32) (k : Int) : -2147483648 ≤ sc xs k ∧ sc xs k ≤ 2147483647 := by
  have h1 := Int32.le_toInt (xs k.toNat); have h2 := Int32.toInt_lt (xs k.toNat); unfold sc; omega
theorem and_31 (x : Int32) : ∃ k : Int, 0 ≤ k ∧ k ≤ 31 ∧ x &&& iI 31 = iI k := by
  refine ⟨((x.toBitVec.toNat % 32 : Nat) : Int), by omega, by omega, ?_⟩
  apply Int32.toBitVec_inj.1
  apply BitVec.eq_of_toNat_eq
  show (x.toBitVec &&& (31#32)).toNat = (Int32.ofInt ((x.toBitVec.toNat % 32 : Nat) : Int)).toBitVec.toNat
  rw [BitVec.toNat_and, Int32.ofInt_eq_ofNat]
  show x.toBitVec.toNat &&& 31 = (BitVec.ofNat 32 (x.toBitVec.toNat % 32)).toNat
  rw [BitVec.toNat_ofNat, Nat.mod_eq_of_lt (a := x.toBitVec.toNat % 32) (by omega)]
  exact Nat.and_two_pow_sub_one_eq_mod _ 5
section LR
variable {p : Program} {l : Launch} {e : Env} {R : Room} {s : State} {m : MethodId} {args : Array Value} {below : List Frame} {meth : Method} {c : Code} {H : Heap} {locs : List Loc} {cells slots : Nat} {Q : State → Prop} {cc : ByteArray} {pc : Nat} {ls : Array Slot} {rest : List Value}
theorem q_sld (hx : p.tables.exec = Jvm.exec) (hb : c.code = cc) {A : Nat → Prop} {H0 : Heap} {b L : Nat} {xs : Nat → Int32} (hX : va_X b L xs s H0) (hbl : b < H0.size) (hbA : ¬ A b) (hS : va_S A H0 H locs) {i : Int} (i1 : 0 ≤ i) (i2 : i < L) (i3 : i ≤ 2147483647) {y : Int} (hy : sc xs i = y) (hd : decode cc pc = .ok (.iaload, 1)) (kk : W p l e R s m args below meth c H locs cells slots Q (F0 m (pc + 1) ls (.int (iI y) :: rest))) : W p l e R s m args below meth c H locs cells slots Q (F0 m pc ls (.int (iI i) :: .ref b :: rest)) := by
  refine va_sld hx hb hX hbl hbA hS (iI_in i1 i2 i3) hd ?_
  have e : xs (iI i).toNatClampNeg = iI y := by rw [iI_c i1 i3, ← hy]; exact iI_of _
  rw [e]; exact kk
theorem q_slen (hx : p.tables.exec = Jvm.exec) (hb : c.code = cc) {A : Nat → Prop} {H0 : Heap} {b L : Nat} {xs : Nat → Int32} (hX : va_X b L xs s H0) (hbl : b < H0.size) (hbA : ¬ A b) (hS : va_S A H0 H locs) (hd : decode cc pc = .ok (.arraylength, 1)) (kk : W p l e R s m args below meth c H locs cells slots Q (F0 m (pc + 1) ls (.int (iI (L : Int)) :: rest))) : W p l e R s m args below meth c H locs cells slots Q (F0 m pc ls (.ref b :: rest)) := by
  refine va_slen hx hb hX hbl hbA hS hd ?_
  have e : Int32.ofNat L = iI (L : Int) := Int32.ofInt_eq_ofNat.symm
  rw [e]; exact kk
theorem q_same (hx : p.tables.exec = Jvm.exec) (hb : c.code = cc) {x y : Int} (h : x = y) {off : Int} {tgt : Nat} (hd : decode cc pc = .ok (.if_icmp .eq off, 3)) (ht : (pc : Int) + off = (tgt : Int)) (kt : W p l e R s m args below meth c H locs cells slots Q (F0 m tgt ls rest)) : W p l e R s m args below meth c H locs cells slots Q (F0 m pc ls (.int (iI y) :: .int (iI x) :: rest)) := lv_icmp_eq hx hb hd ht (fun _ => kt) (fun q => absurd (by rw [h]) q)
theorem lg_cmp_same (x : Int64) : lg_cmp x x = 0 := by
  rcases @lg_cmp_v x x with ⟨h, q⟩ | ⟨h, q⟩ | ⟨h, q⟩
  · rw [Int64.lt_iff_toInt_lt] at h; omega
  · exact q
  · rw [Int64.lt_iff_toInt_lt] at h; omega
theorem q_lsame (hx : p.tables.exec = Jvm.exec) (hb : c.code = cc) {x y : Int} (h : x = y) {off : Int} {tgt : Nat} (hd : decode cc pc = .ok (.lcmp, 1)) (hd2 : decode cc (pc + 1) = .ok (.ifCond .eq off, 3)) (ht : ((pc + 1 : Nat) : Int) + off = (tgt : Int)) (kt : W p l e R s m args below meth c H locs cells slots Q (F0 m tgt ls rest)) : W p l e R s m args below meth c H locs cells slots Q (F0 m pc ls (.long (lI y) :: .long (lI x) :: rest)) := by
  refine W.lcmp hx hb hd ?_
  rw [h, lg_cmp_same]
  exact lv_if_eq hx hb hd2 ht (fun _ => kt) (fun q => absurd rfl q)
theorem q_and31 (hx : p.tables.exec = Jvm.exec) (hb : c.code = cc) {x : Int32} (hd : decode cc pc = .ok (.iand, 1)) (kk : ∀ k : Int, 0 ≤ k → k ≤ 31 → W p l e R s m args below meth c H locs cells slots Q (F0 m (pc + 1) ls (.int (iI k) :: rest))) : W p l e R s m args below meth c H locs cells slots Q (F0 m pc ls (.int (iI 31) :: .int x :: rest)) := by
  refine lv_iand hx hb hd ?_
  obtain ⟨k, h0, h1, h2⟩ := and_31 x
  rw [h2]; exact kk k h0 h1
end LR
theorem B01.z {n : Int} : B01 n (fun _ => 0) := fun _ _ _ => Or.inl rfl
theorem HZ.z {n : Int} : HZ n (fun _ => 0) := fun _ _ _ _ _ _ => rfl
theorem CN.z : CN (fun _ => 0) := fun j _ h => ⟨Int.le_refl 0, by show (0 : Int) ≤ 23 - j; omega⟩
theorem NX.z : NX (fun _ => 0) := fun _ _ _ => ⟨Int.le_refl 0, by show (0 : Int) ≤ _; omega⟩
theorem SPB.z : SPB (fun _ => 0) := fun _ _ _ => ⟨Int.le_refl 0, by show (0 : Int) ≤ _; omega⟩
theorem arr_i {args : Array Value} {s : State} (h : (Cond.arrayClass .int).before args s = true) : ∃ cA, ArrOfT s cA .int ∧ va_RA s cA .int := by
  obtain ⟨cA, kA, comp, h1, h2, h3⟩ := Cond.arrayClass_spec h
  exact ⟨cA, fun n z => ⟨fun k h => (by cases h), kA, h2, comp, h3⟩, h1⟩
theorem arr_l {args : Array Value} {s : State} (h : (Cond.arrayClass .long).before args s = true) : ∃ cA, ArrOfT s cA .long ∧ va_RA s cA .long := by
  obtain ⟨cA, kA, comp, h1, h2, h3⟩ := Cond.arrayClass_spec h
  exact ⟨cA, fun n z => ⟨fun k h => (by cases h), kA, h2, comp, h3⟩, h1⟩
theorem arr_z {args : Array Value} {s : State} (h : (Cond.arrayClass .boolean).before args s = true) : ∃ cA, ArrOfT s cA .boolean ∧ va_RA s cA .boolean := by
  obtain ⟨cA, kA, comp, h1, h2, h3⟩ := Cond.arrayClass_spec h
  exact ⟨cA, fun n z => ⟨fun k h => (by cases h), kA, h2, comp, h3⟩, h1⟩
theorem tie_table {x y z z' b m b2 m2 a c a2 c2 b' m' b2' m2' a' c' a2' c2' : Int} (eb : b' = b) (em : m' = m) (b0 : 0 ≤ b) (b1 : b ≤ 100) (m0 : 0 ≤ m) (m1 : m ≤ 100) (P : P_table x y z b m b2 m2 a c a2 c2) (P' : P_table x y z' b' m' b2' m2' a' c' a2' c2') : z = z' ∧ (0 ≤ b2 ∧ b2 ≤ 100 ∧ 0 ≤ m2 ∧ m2 ≤ 100) ∧ b2' = b2 ∧ m2' = m2 ∧ ((a2 = a ∧ c2 = c ∧ a2' = a' ∧ c2' = c') ∨ (a2 = 0 ∧ c2 = 0 ∧ a2' = 0 ∧ c2' = 0)) := by
  unfold P_table at P P'
  rcases P with ⟨p1, p2, p3, p4, p5, p6, p7, p8, p9⟩ | ⟨p1, p5, p6, p7, p8, p9⟩ <;> rcases P' with ⟨q1, q2, q3, q4, q5, q6, q7, q8, q9⟩ | ⟨q1, q5, q6, q7, q8, q9⟩
  · exact ⟨by omega, by omega, by omega, by omega, Or.inr ⟨p8, p9, q8, q9⟩⟩
  · exact absurd ⟨p1, p2, p3, p4⟩ q1
  · exact absurd ⟨q1, q2, q3, q4⟩ p1
  · exact ⟨by omega, by omega, by omega, by omega, Or.inl ⟨p8, p9, q8, q9⟩⟩
theorem FL1 {a c a2 c2 : Int} {R : Prop} (a0 : a = 0 ∨ a = 1) (c0 : c = 0 ∨ c = 1) (h : a = 1 → R) (t : (a2 = 0 ∧ c2 = 0) ∨ (a2 = a ∧ c2 = c)) : (a2 = 0 ∨ a2 = 1) ∧ (c2 = 0 ∨ c2 = 1) ∧ (a2 = 1 → R) := by
  rcases t with ⟨rfl, rfl⟩ | ⟨rfl, rfl⟩
  · exact ⟨Or.inl rfl, Or.inl rfl, fun q => absurd q (by decide)⟩
  · exact ⟨a0, c0, h⟩
theorem FLc {n n2 a c a2 c2 : Int} (R : Int → Prop) (a0 : a = 0 ∨ a = 1) (c0 : c = 0 ∨ c = 1) (h : a = 1 → R n) (t : (n2 = n ∧ a2 = a ∧ c2 = c) ∨ (a2 = 0 ∧ c2 = 0)) : (a2 = 0 ∨ a2 = 1) ∧ (c2 = 0 ∨ c2 = 1) ∧ (a2 = 1 → R n2) := by
  rcases t with ⟨rfl, rfl, rfl⟩ | ⟨rfl, rfl⟩
  · exact ⟨a0, c0, h⟩
  · exact ⟨Or.inl rfl, Or.inl rfl, fun q => absurd q (by decide)⟩
theorem flx {a c a2 c2 a' c' a2' c2' : Int} (t : (a2 = a ∧ c2 = c ∧ a2' = a' ∧ c2' = c') ∨ (a2 = 0 ∧ c2 = 0 ∧ a2' = 0 ∧ c2' = 0)) : (a2 = 0 ∧ c2 = 0) ∨ (a2 = a ∧ c2 = c) := t.elim (fun q => Or.inr ⟨q.1, q.2.1⟩) (fun q => Or.inl ⟨q.1, q.2.1⟩)
theorem flm {a c a2 c2 a' c' a2' c2' : Int} (t : (a2 = a ∧ c2 = c ∧ a2' = a' ∧ c2' = c') ∨ (a2 = 0 ∧ c2 = 0 ∧ a2' = 0 ∧ c2' = 0)) : (a2' = 0 ∧ c2' = 0) ∨ (a2' = a' ∧ c2' = c') := t.elim (fun q => Or.inr ⟨q.2.2.1, q.2.2.2⟩) (fun q => Or.inl ⟨q.2.2.1, q.2.2.2⟩)
theorem hh23 {a f l n : Int} (h : a = 1 → 0 ≤ f ∧ f < l ∧ l ≤ n - 1) (n1 : n ≤ 24) : a = 1 → 0 ≤ f ∧ f < l ∧ l ≤ 23 := fun q => by have := h q; omega
theorem hm23 {a f l n w : Int} (h : a = 1 → 0 ≤ f ∧ f < l ∧ l ≤ n - 1 ∧ 1 ≤ w ∧ w ≤ 3221225472) (n1 : n ≤ 24) : a = 1 → 0 ≤ f ∧ f < l ∧ l ≤ 23 ∧ 1 ≤ w ∧ w ≤ 3221225472 := fun q => by have := h q; omega
theorem cmp_run {x z z' n n' : Int} {A : Prop} (f : n = 0 → (A → z = -3) ∧ (¬ A → z = -2)) (g : n' = 0 → (A → z' = -3) ∧ (¬ A → z' = -2)) (h : n = 0) (h' : n' = 0) (_ : x = x) : z = z' := by
  by_cases q : A
  · rw [(f h).1 q, (g h').1 q]
  · rw [(f h).2 q, (g h').2 q]
theorem ix_ {i : Int} {L : Nat} (i0 : 0 ≤ i) (i1 : i + 5 ≤ L) (hL : L ≤ 2560) (j : Int) (j0 : 0 ≤ j) (j1 : j ≤ 4) : 0 ≤ i + j ∧ i + j < L ∧ i + j ≤ 2147483647 := by omega
theorem to22 {k : Int} (k0 : 0 ≤ k) (k1 : k ≤ 31) (h : ∀ j : Nat, j < 22 → k ≠ (j : Int)) : (iI k).toInt < 0 ∨ 21 < (iI k).toInt := by
  rw [iI_T (by omega) (by omega)]
  right
  apply Int.not_le.mp
  intro q
  exact h k.toNat (by omega) (by omega)
/-! two worlds side by side -/
def TW (D : va_G) (A : Nat → Prop) (H : Heap) (a b : va_W) : Prop := va_P D vwCl a H ∧ va_D A a ∧ va_P D vwCl b H ∧ va_D A b ∧ ∀ (i j : Nat) (p q : Nat × va_E), a[i]? = some p → b[j]? = some q → p.1 ≠ q.1
theorem TW.sym {D : va_G} {A : Nat → Prop} {H : Heap} {a b : va_W} (h : TW D A H a b) : TW D A H b a := ⟨h.2.2.1, h.2.2.2.1, h.1, h.2.1, fun i j p q hp hq e => h.2.2.2.2 j i q p hq hp e.symm⟩
theorem at_w {ws w : va_W} {is : List Nat} (hs : is.map (fun i => ws[i]?) = w.map some) (k : Nat) (q : Nat × va_E) (hq : w[k]? = some q) : ∃ i : Nat, ws[i]? = some q := by
  have h1 : (is.map (fun i => ws[i]?))[k]? = some (some q) := by rw [hs, List.getElem?_map, hq]; rfl
  rw [List.getElem?_map] at h1
  cases hi : is[k]? with
  | none => rw [hi] at h1; cases h1
  | some i => rw [hi] at h1; exact ⟨i, Option.some.inj h1⟩
theorem TW.sub {D : va_G} {A : Nat → Prop} {H : Heap} {a b a' : va_W} (h : TW D A H a b) (is : List Nat) (hn : va_nd is = true) (hs : is.map (fun i => a[i]?) = a'.map some) : TW D A H a' b :=
  ⟨h.1.sub is (fm_of hs), h.2.1.sub is hn hs, h.2.2.1, h.2.2.2.1, fun i j p q hp hq => by
    obtain ⟨i0, h0⟩ := at_w hs i p hp
    exact h.2.2.2.2 i0 j p q h0 hq⟩
theorem TW.of {D : va_G} {A : Nat → Prop} {H : Heap} {a b : va_W} (hP : va_P D vwCl (a ++ b) H) (hD : va_D A (a ++ b)) : TW D A H a b := by
  have la : ∀ (i : Nat) (p : Nat × va_E), a[i]? = some p → (a ++ b)[i]? = some p := fun i p h => by
    rw [List.getElem?_append_left (List.getElem?_eq_some_iff.mp h).1]; exact h
  have lb : ∀ (i : Nat) (p : Nat × va_E), b[i]? = some p → (a ++ b)[a.length + i]? = some p := fun i p h => by
    rw [List.getElem?_append_right (Nat.le_add_right _ _), Nat.add_sub_cancel_left]; exact h
  refine ⟨fun k q h => hP k q (la k q h), ⟨fun i j p q hp hq e => hD.1 i j p q (la i p hp) (la j q hq) e, fun k q h => hD.2 k q (la k q h)⟩, fun k q h => hP _ q (lb k q h), ⟨fun i j p q hp hq e => ?_, fun k q h => hD.2 _ q (lb k q h)⟩, fun i j p q hp hq e => ?_⟩
  · have := hD.1 _ _ p q (lb i p hp) (lb j q hq) e; omega
  · have h1 := hD.1 _ _ p q (la i p hp) (lb j q hq) e
    have h2 := (List.getElem?_eq_some_iff.mp hp).1
    omega
theorem ag_core {D : va_G} {A : Nat → Prop} {a b wc wr w1 : va_W} {H H1 : Heap} (hT : TW D A H a b) (isC isR : List Nat) (hC : isC.map (fun i => a[i]?) = wc.map some) (hR : isR.map (fun i => a[i]?) = wr.map some) (hn : va_nd isR = true) (hdis : ∀ i ∈ isR, i ∉ isC) (hk : ∀ q : Nat, q < H.size → ¬ va_A wc H.size q → H1[q]? = H[q]?) (hF : ∀ q, va_A wc H.size q → A q) (hP1 : va_P D vwCl w1 H1) (hD1 : va_D (va_A wc H.size) w1) : TW D A H1 (wr ++ w1) b := by
  obtain ⟨hPa, hDa, hPb, hDb, hx⟩ := hT
  obtain ⟨hP2, hD2⟩ := va_join hPa hDa isC isR hC hR hn hdis hk hF hP1 hD1
  have far : ∀ (j : Nat) (q : Nat × va_E), b[j]? = some q → ¬ va_A wc H.size q.1 := fun j q hq z => by
    rcases z with ⟨k, e, h⟩ | h
    · obtain ⟨i, hi⟩ := at_w hC k _ h
      exact hx i j _ q hi hq rfl
    · have := (hPb j q hq).lt; omega
  refine ⟨hP2, hD2, hPb.kept (fun k q h => hk _ (hPb k q h).lt (far k q h)), hDb, fun i j p q hp hq e => ?_⟩
  by_cases hl : i < wr.length
  · rw [List.getElem?_append_left hl] at hp
    obtain ⟨i0, h0⟩ := at_w hR i p hp
    exact hx i0 j p q h0 hq e
  · rw [List.getElem?_append_right (Nat.not_lt.mp hl)] at hp
    have z := hD1.2 _ p hp
    rw [e] at z
    exact far j q hq z
section AG
variable {p : Program} {l : Launch} {e : Env} {R : Room} {s : State} {m : MethodId} {args : Array Value} {below : List Frame} {meth : Method} {c : Code} {H : Heap} {locs : List Loc} {cells slots : Nat} {Q : State → Prop}
variable {pc : Nat} {ls : Array Slot} {rest st0 : List Value} {av : Array Value} {A : Nat → Prop} {mc ms : Nat} {D : va_G} {a b wc wr : va_W}
theorem ag_i {S : Type} {post : Int → S → Prop} {ws' : S → va_W} (hr : va_Run p l e R s m args below meth c H locs cells slots mc ms (F0 m pc ls st0) rest (va_Qi (fun r u => ∃ z, r = iI z ∧ post z u) (PA D (va_A wc H.size) ws') (va_A wc H.size) av) (va_A wc H.size)) (hA : ∀ q, s.heap.size ≤ q → A q) (hT : TW D A H a b) (hS : va_S A s.heap H locs)
    (isC isR : List Nat) (hC : isC.map (fun i => a[i]?) = wc.map some) (hR : isR.map (fun i => a[i]?) = wr.map some) (hn : va_nd isR = true) (hdis : ∀ i ∈ isR, i ∉ isC)
    (kk : ∀ (z : Int) (u : S) (H1 : Heap) (locs1 : List Loc), post z u → TW D A H1 (wr ++ ws' u) b → va_S A s.heap H1 locs1 → W p l e R s m args below meth c H1 locs1 (cells + mc) (slots + ms) Q (F0 m (pc + 3) ls (.int (iI z) :: rest))) : W p l e R s m args below meth c H locs cells slots Q (F0 m pc ls st0) := by
  have hFc := va_free (wc := wc) hT.2.1 hS hA isC hC
  refine va_calli hr hS (fun q _ h => hFc q h) hFc (fun r u t H1 locs1 ht hvm hw hB hz1 hk1 hS1 => ?_)
  obtain ⟨z, rfl, hw⟩ := hw
  obtain ⟨hP1, hD1⟩ := hB
  rw [ht] at hP1
  exact kk z u H1 locs1 hw (ag_core hT isC isR hC hR hn hdis hk1 hFc hP1 hD1) hS1
theorem ag_l {S : Type} {post : Int → S → Prop} {ws' : S → va_W} (hr : va_Run p l e R s m args below meth c H locs cells slots mc ms (F0 m pc ls st0) rest (va_Ql (fun r u => ∃ z, r = lI z ∧ post z u) (PA D (va_A wc H.size) ws') (va_A wc H.size) av) (va_A wc H.size)) (hA : ∀ q, s.heap.size ≤ q → A q) (hT : TW D A H a b) (hS : va_S A s.heap H locs)
    (isC isR : List Nat) (hC : isC.map (fun i => a[i]?) = wc.map some) (hR : isR.map (fun i => a[i]?) = wr.map some) (hn : va_nd isR = true) (hdis : ∀ i ∈ isR, i ∉ isC)
    (kk : ∀ (z : Int) (u : S) (H1 : Heap) (locs1 : List Loc), post z u → TW D A H1 (wr ++ ws' u) b → va_S A s.heap H1 locs1 → W p l e R s m args below meth c H1 locs1 (cells + mc) (slots + ms) Q (F0 m (pc + 3) ls (.long (lI z) :: rest))) : W p l e R s m args below meth c H locs cells slots Q (F0 m pc ls st0) := by
  have hFc := va_free (wc := wc) hT.2.1 hS hA isC hC
  refine va_calll hr hS (fun q _ h => hFc q h) hFc (fun r u t H1 locs1 ht hvm hw hB hz1 hk1 hS1 => ?_)
  obtain ⟨z, rfl, hw⟩ := hw
  obtain ⟨hP1, hD1⟩ := hB
  rw [ht] at hP1
  exact kk z u H1 locs1 hw (ag_core hT isC isR hC hR hn hdis hk1 hFc hP1 hD1) hS1
end AG
/-! THE CLAIM OUT OF ONE WALK OF THE LAW'S BODY. Your part is whole_start (and what it stands on); all else here is the same for every law, but numbers. -/
def R_law : String := "SpringSpacesLaw"
def lw_P (b : Addr) (xs : List Int32) (args : Array Value) (s : State) : Prop := args = #[.ref b] ∧ s.IntsAt b xs ∧ xs.length ≤ 2560 ∧ (Jvm.Cond.and given_1 narrow_1).before args s = true
def lw_Q (_ : Array Value) (s : State) (o : Outcome) (t : State) : Prop := o = .returned (some (.int 1)) ∧ Framed s o t [] 50 1684
def lw_Z (below : List Frame) (a : Array Value) (s : State) : State → Prop := fun t => ∃ o, t.status = .running ∧ Ended t below o ∧ lw_Q a s o t
/-- the law's own end, with 1 on the stack, nothing written that was there before, its room as the claim has it -/
theorem lw_ret {p : Program} {l : Launch} {e : Env} {s : State} {m : MethodId} {below : List Frame} {meth : Method} {c : Code} {b : Nat} (hx : p.tables.exec = Jvm.exec) (hb : c.code = code) (hr : meth.sig.returnType = ret) (hlocks : meth.locks = false) {pc : Nat} {H : Heap} {ls : Array Slot} (hdg : decode code pc = .ok (.ireturn, 1)) : W p l e room_1 s m #[Value.ref b] below meth c H [] 50 1684 (lw_Z below #[Value.ref b] s) (F0 m pc ls [.int 1]) := by
  intro T hT X
  obtain ⟨fs, hret, hrun, hended, hW, hframe⟩ := X.leave (v := some (.int 1)) (hlocks := hlocks) (fun h => by rw [hr] at h; cases h)
  have hmeth' : T.vm.method? m = some meth := X.method'
  refine ⟨T.setFrames fs, ?_, .returned (some (.int 1)), hrun, hended, rfl, ⟨_, rfl⟩, hW, hframe⟩
  jvm_step X.here [X.here.top, hx, hb, hdg, hmeth', hr, ret, narrow_b1]
  (try refine ⟨rfl, ?_⟩); (try refine ⟨rfl, ?_⟩)
  first | (intro acts; rw [hret _ acts rfl rfl rfl]) | rw [hret _ _ rfl rfl rfl]
  exact Steps.refl _
/-- what holds at the law's entry: the machine, the code, the tables' words (any of lw_tbl by 'hts w (by decide +kernel)'), the script of L ints xs at the cell b, what the Statement gives of the start (any of its parts by flat_of_before) -/
def lw_At (p : Program) (s : State) (m : MethodId) (meth : Method) (c : Code) (b L : Nat) (xs : Nat → Int32) : Prop :=
  p.tables.exec = Jvm.exec ∧ c.code = code ∧ meth.sig.returnType = ret ∧ c.maxLocals = 4 ∧ s.vm.findClass R_law = some m.cls ∧ (∀ w ∈ lw_tbl, w.before #[Value.ref b] s = true) ∧ va_X b L xs s s.heap ∧ b < s.heap.size ∧ meth.locks = false ∧ (Jvm.Cond.and given_1 narrow_1).before #[Value.ref b] s = true
def INVALL (ah : Int) (bn : Int) (n : Int) (b : Int) (mo : Int) (tf : Int → Int) (lf : Int → Int) (bf : Int → Int) (hf : Int → Int) (nu : Int) (rff : Int → Int) (rg : Int → Int) (nk : Int) (nf : Int → Int) (ng : Int → Int) (hafi : Int) (hala : Int) (bz : Int) (bnf : Int → Int) (bxf : Int → Int) (b' : Int) (mo' : Int) (n' : Int) (nu' : Int) (hl1' : Int) (fi' : Int) (la' : Int) (bw' : Int) (hm1' : Int) (lc' : Int) (tf' : Int → Int) (lf' : Int → Int) (bf' : Int → Int) (hf' : Int → Int) (rff' : Int → Int) (rg' : Int → Int) (pf' : Int → Int) (gv' : Int → Int) : Prop := (0 ≤ n) ∧ (n ≤ 24) ∧ (0 ≤ b) ∧ (b ≤ 100) ∧ (0 ≤ mo) ∧ (mo ≤ 100) ∧ (TS n tf) ∧ (B01 24 bf) ∧ (B01 96 hf) ∧ (HZ n hf) ∧ (0 ≤ nu) ∧ (nu ≤ 20) ∧ (ND nu rff rg) ∧ (0 ≤ nk) ∧ (nk ≤ 112) ∧ (ND nk nf ng) ∧ (ah = 0 ∨ ah = 1) ∧ (bn = 0 ∨ bn = 1) ∧ (ah = 1 → 0 ≤ hafi ∧ hafi < hala ∧ hala ≤ n - 1) ∧ (0 ≤ bz) ∧ (bz ≤ 23) ∧ (CN bnf) ∧ (NX bxf) ∧ (n' = n) ∧ (b' = b) ∧ (mo' = mo) ∧ (TS n' tf') ∧ (B01 24 bf') ∧ (B01 96 hf') ∧ (0 ≤ nu') ∧ (nu' ≤ 20) ∧ (ND nu' rff' rg') ∧ (SPB pf') ∧ (B01 24 gv') ∧ (hl1' = 0 ∨ hl1' = 1) ∧ (hm1' = 0 ∨ hm1' = 1) ∧ (hl1' = 1 → 0 ≤ fi' ∧ fi' < la' ∧ la' ≤ n' - 1 ∧ 1 ≤ bw' ∧ bw' ≤ 3221225472) ∧ (0 ≤ lc') ∧ (lc' ≤ 24) ∧ (EQ n tf tf') ∧ (EQ n lf lf') ∧ (EQ n bf bf') ∧ (EQI n hf hf')
def FRP (ah : Int) (bn : Int) (n : Int) (nu : Int) (nu' : Int) (hl1' : Int) (hm1' : Int) : Prop := (n = 0) ∧ (nu = 0) ∧ (nu' = 0) ∧ (ah = 0) ∧ (bn = 0) ∧ (hl1' = 0) ∧ (hm1' = 0)
def LX (cI cJ cZ : ClassId) (xo : Nat) (co : Nat) (tm : Nat) (lw : Nat) (br : Nat) (it : Nat) (ia : Nat) (ib : Nat) (ic : Nat) (ro : Nat) (ra : Nat) (rb : Nat) (rc : Nat) (rd : Nat) (ne : Nat) (na : Nat) (nb : Nat) (nc : Nat) (ha : Nat) (ha1 : Nat) (ha2 : Nat) (haf : Nat) (tr : Nat) (tr1 : Nat) (tr2 : Nat) (trf : Nat) (bk : Nat) (ba : Nat) (bb : Nat) (bc : Nat) (bd : Nat) (ah : Int) (bn : Int) (n : Int) (b : Int) (mo : Int) (tf : Int → Int) (lf : Int → Int) (bf : Int → Int) (hf : Int → Int) (ef : Int → Int) (gf : Int → Int) (nu : Int) (ct : Int) (rt : Int → Int) (rff : Int → Int) (rg : Int → Int) (rh : Int → Int) (nk : Int) (nf : Int → Int) (ng : Int → Int) (nw : Int → Int) (hafi : Int) (hala : Int) (haxc : Int) (has : Int → Int) (hap : Int → Int) (hafa : Int) (hafb : Int) (trfi : Int) (trla : Int) (trxc : Int) (trs : Int → Int) (trp : Int → Int) (trfa : Int) (trfb : Int) (bz : Int) (bcf : Int → Int) (bnf : Int → Int) (bxf : Int → Int) (bgf : Int → Int) : va_W := [(xo, .inr (0, [.ref co, .ref it, .ref ro, .ref ne, .ref ha, .ref tr, .ref bk, .int (iI ah), .int (iI bn)])), (co, .inr (1, [.ref tm, .ref lw, .ref br, .int (iI n), .int (iI b), .int (iI mo)])), (tm, .inl (cI, 24, .inl (ai tf))), (lw, .inl (cI, 24, .inl (ai lf))), (br, .inl (cZ, 24, .inl (ai bf))), (it, .inr (2, [.ref ia, .ref ib, .ref ic])), (ia, .inl (cZ, 96, .inl (ai hf))), (ib, .inl (cI, 96, .inl (ai ef))), (ic, .inl (cI, 96, .inl (ai gf))), (ro, .inr (3, [.ref ra, .ref rb, .ref rc, .ref rd, .int (iI nu), .int (iI ct)])), (ra, .inl (cZ, 20, .inl (ai rt))), (rb, .inl (cI, 20, .inl (ai rff))), (rc, .inl (cI, 20, .inl (ai rg))), (rd, .inl (cI, 20, .inl (ai rh))), (ne, .inr (4, [.ref na, .ref nb, .ref nc, .int (iI nk)])), (na, .inl (cI, 112, .inl (ai nf))), (nb, .inl (cI, 112, .inl (ai ng))), (nc, .inl (cI, 112, .inl (ai nw))), (ha, .inr (6, [.ref ha1, .ref ha2, .ref haf, .int (iI hafi), .int (iI hala), .long (lI haxc)])), (ha1, .inl (cJ, 24, .inr (.inl (al has)))), (ha2, .inl (cJ, 24, .inr (.inl (al hap)))), (haf, .inr (5, [.long (lI hafa), .long (lI hafb)])), (tr, .inr (6, [.ref tr1, .ref tr2, .ref trf, .int (iI trfi), .int (iI trla), .long (lI trxc)])), (tr1, .inl (cJ, 24, .inr (.inl (al trs)))), (tr2, .inl (cJ, 24, .inr (.inl (al trp)))), (trf, .inr (5, [.long (lI trfa), .long (lI trfb)])), (bk, .inr (7, [.ref ba, .ref bb, .ref bc, .ref bd, .int (iI bz)])), (ba, .inl (cJ, 24, .inr (.inl (al bcf)))), (bb, .inl (cI, 24, .inl (ai bnf))), (bc, .inl (cI, 24, .inl (ai bxf))), (bd, .inl (cI, 24, .inl (ai bgf)))]
def LM (cI cJ cZ : ClassId) (mx' : Nat) (ptm' : Nat) (plw' : Nat) (pbr' : Nat) (pit' : Nat) (ple' : Nat) (pri' : Nat) (prf' : Nat) (prt' : Nat) (prw' : Nat) (pir' : Nat) (pse' : Nat) (psp' : Nat) (pbg' : Nat) (pwk' : Nat) (pgv' : Nat) (pbc' : Nat) (pbl' : Nat) (pbe' : Nat) (b' : Int) (mo' : Int) (n' : Int) (nu' : Int) (nl' : Int) (hl1' : Int) (fi' : Int) (la' : Int) (ov' : Int) (av' : Int) (bw' : Int) (hm1' : Int) (lc' : Int) (cst' : Int) (fa' : Int) (fb' : Int) (tf' : Int → Int) (lf' : Int → Int) (bf' : Int → Int) (hf' : Int → Int) (ef' : Int → Int) (gf' : Int → Int) (rff' : Int → Int) (rg' : Int → Int) (rh' : Int → Int) (rt' : Int → Int) (zf' : Int → Int) (pf' : Int → Int) (gg' : Int → Int) (wf' : Int → Int) (gv' : Int → Int) (cf' : Int → Int) (bl1' : Int → Int) (be' : Int → Int) : va_W := [(mx', .inr (8, [.int (iI b'), .int (iI mo'), .int (iI n'), .ref ptm', .ref plw', .ref pbr', .ref pit', .ref ple', .ref pri', .int (iI nu'), .int (iI nl'), .ref prf', .ref prt', .ref prw', .ref pir', .int (iI hl1'), .int (iI fi'), .int (iI la'), .int (iI ov'), .long (lI av'), .long (lI bw'), .ref pse', .ref psp', .int (iI hm1'), .int (iI lc'), .long (lI cst'), .ref pbg', .ref pwk', .ref pgv', .long (lI fa'), .long (lI fb'), .ref pbc', .ref pbl', .ref pbe'])), (ptm', .inl (cI, 24, .inl (ai tf'))), (plw', .inl (cI, 24, .inl (ai lf'))), (pbr', .inl (cZ, 24, .inl (ai bf'))), (pit', .inl (cZ, 96, .inl (ai hf'))), (ple', .inl (cI, 96, .inl (ai ef'))), (pri', .inl (cI, 96, .inl (ai gf'))), (prf', .inl (cI, 20, .inl (ai rff'))), (prt', .inl (cI, 20, .inl (ai rg'))), (prw', .inl (cI, 20, .inl (ai rh'))), (pir', .inl (cZ, 20, .inl (ai rt'))), (pse', .inl (cI, 24, .inl (ai zf'))), (psp', .inl (cJ, 24, .inr (.inl (al pf')))), (pbg', .inl (cI, 25, .inl (ai gg'))), (pwk', .inl (cI, 24, .inl (ai wf'))), (pgv', .inl (cZ, 24, .inl (ai gv'))), (pbc', .inl (cJ, 24, .inr (.inl (al cf')))), (pbl', .inl (cI, 24, .inl (ai bl1'))), (pbe', .inl (cI, 24, .inl (ai be')))]
