/-! the words of the tables by their places; rows of fields, calls, makings -/
theorem zin_list {ws : List Cond} (ps : List Nat) (hp : ws = ps.filterMap (fun i => lw_tbl[i]?)) (h : ws.all goodWord = true) : ∀ w ∈ ws, w ∈ lw_ok := by
  intro w hw
  have h1 := List.all_eq_true.mp h w hw
  rw [hp] at hw
  obtain ⟨i, -, hi⟩ := List.mem_filterMap.mp hw
  exact lw_in i hi h1

abbrev mX6_init : zM := (yX6_init, cX6_init, 1, none)
theorem w_code_X6_init : Cond.code mX6_init.1 mX6_init.2.1 mX6_init.2.2.1 mX6_init.2.2.2 ∈ lw_ok := lw_in 54 (by decide +kernel) (by decide +kernel)
theorem w_inst_X6_init : Cond.instanceMethod yX6_init ∈ lw_ok := lw_in 53 (by decide +kernel) (by decide +kernel)
abbrev mX4_init : zM := (yX4_init, cX4_init, 1, none)
theorem w_code_X4_init : Cond.code mX4_init.1 mX4_init.2.1 mX4_init.2.2.1 mX4_init.2.2.2 ∈ lw_ok := lw_in 62 (by decide +kernel) (by decide +kernel)
theorem w_inst_X4_init : Cond.instanceMethod yX4_init ∈ lw_ok := lw_in 61 (by decide +kernel) (by decide +kernel)
abbrev mX4_begin : zM := (yX4_begin, cX4_begin, 2, none)
theorem w_code_X4_begin : Cond.code mX4_begin.1 mX4_begin.2.1 mX4_begin.2.2.1 mX4_begin.2.2.2 ∈ lw_ok := lw_in 67 (by decide +kernel) (by decide +kernel)
theorem w_inst_X4_begin : Cond.instanceMethod yX4_begin ∈ lw_ok := lw_in 65 (by decide +kernel) (by decide +kernel)
theorem w_sel_X4_begin : Cond.selects RX4 yX4_begin yX4_begin ∈ lw_ok := lw_in 66 (by decide +kernel) (by decide +kernel)
abbrev mJ7_fill_53178 : zM := (yJ7_fill_53178, cJ7_fill_53178, 4, none)
theorem w_code_J7_fill_53178 : Cond.code mJ7_fill_53178.1 mJ7_fill_53178.2.1 mJ7_fill_53178.2.2.1 mJ7_fill_53178.2.2.2 ∈ lw_ok := lw_in 70 (by decide +kernel) (by decide +kernel)
theorem w_stat_J7_fill_53178 : Cond.static yJ7_fill_53178 ∈ lw_ok := lw_in 69 (by decide +kernel) (by decide +kernel)
abbrev mX4_clearSnow : zM := (yX4_clearSnow, cX4_clearSnow, 1, none)
theorem w_code_X4_clearSnow : Cond.code mX4_clearSnow.1 mX4_clearSnow.2.1 mX4_clearSnow.2.2.1 mX4_clearSnow.2.2.2 ∈ lw_ok := lw_in 74 (by decide +kernel) (by decide +kernel)
theorem w_inst_X4_clearSnow : Cond.instanceMethod yX4_clearSnow ∈ lw_ok := lw_in 72 (by decide +kernel) (by decide +kernel)
theorem w_sel_X4_clearSnow : Cond.selects RX4 yX4_clearSnow yX4_clearSnow ∈ lw_ok := lw_in 73 (by decide +kernel) (by decide +kernel)
abbrev mX4_forgetWords : zM := (yX4_forgetWords, cX4_forgetWords, 2, none)
theorem w_code_X4_forgetWords : Cond.code mX4_forgetWords.1 mX4_forgetWords.2.1 mX4_forgetWords.2.2.1 mX4_forgetWords.2.2.2 ∈ lw_ok := lw_in 78 (by decide +kernel) (by decide +kernel)
theorem w_inst_X4_forgetWords : Cond.instanceMethod yX4_forgetWords ∈ lw_ok := lw_in 76 (by decide +kernel) (by decide +kernel)
theorem w_sel_X4_forgetWords : Cond.selects RX4 yX4_forgetWords yX4_forgetWords ∈ lw_ok := lw_in 77 (by decide +kernel) (by decide +kernel)
abbrev mJ7_fill_fda19 : zM := (yJ7_fill_fda19, cJ7_fill_fda19, 5, none)
theorem w_code_J7_fill_fda19 : Cond.code mJ7_fill_fda19.1 mJ7_fill_fda19.2.1 mJ7_fill_fda19.2.2.1 mJ7_fill_fda19.2.2.2 ∈ lw_ok := lw_in 81 (by decide +kernel) (by decide +kernel)
theorem w_stat_J7_fill_fda19 : Cond.static yJ7_fill_fda19 ∈ lw_ok := lw_in 80 (by decide +kernel) (by decide +kernel)
abbrev mJ7_rangeCheck_23922 : zM := (yJ7_rangeCheck_23922, cJ7_rangeCheck_23922, 3, none)
theorem w_code_J7_rangeCheck_23922 : Cond.code mJ7_rangeCheck_23922.1 mJ7_rangeCheck_23922.2.1 mJ7_rangeCheck_23922.2.2.1 mJ7_rangeCheck_23922.2.2.2 ∈ lw_ok := lw_in 84 (by decide +kernel) (by decide +kernel)
theorem w_stat_J7_rangeCheck_23922 : Cond.static yJ7_rangeCheck_23922 ∈ lw_ok := lw_in 83 (by decide +kernel) (by decide +kernel)
abbrev mX5_init : zM := (yX5_init, cX5_init, 1, none)
theorem w_code_X5_init : Cond.code mX5_init.1 mX5_init.2.1 mX5_init.2.2.1 mX5_init.2.2.2 ∈ lw_ok := lw_in 145 (by decide +kernel) (by decide +kernel)
theorem w_inst_X5_init : Cond.instanceMethod yX5_init ∈ lw_ok := lw_in 144 (by decide +kernel) (by decide +kernel)
abbrev mX1_init : zM := (yX1_init, cX1_init, 1, none)
theorem w_code_X1_init : Cond.code mX1_init.1 mX1_init.2.1 mX1_init.2.2.1 mX1_init.2.2.2 ∈ lw_ok := lw_in 184 (by decide +kernel) (by decide +kernel)
theorem w_inst_X1_init : Cond.instanceMethod yX1_init ∈ lw_ok := lw_in 183 (by decide +kernel) (by decide +kernel)
abbrev mX3_init : zM := (yX3_init, cX3_init, 1, none)
theorem w_code_X3_init : Cond.code mX3_init.1 mX3_init.2.1 mX3_init.2.2.1 mX3_init.2.2.2 ∈ lw_ok := lw_in 202 (by decide +kernel) (by decide +kernel)
theorem w_inst_X3_init : Cond.instanceMethod yX3_init ∈ lw_ok := lw_in 201 (by decide +kernel) (by decide +kernel)
abbrev mX2_init : zM := (yX2_init, cX2_init, 1, none)
theorem w_code_X2_init : Cond.code mX2_init.1 mX2_init.2.1 mX2_init.2.2.1 mX2_init.2.2.2 ∈ lw_ok := lw_in 221 (by decide +kernel) (by decide +kernel)
theorem w_inst_X2_init : Cond.instanceMethod yX2_init ∈ lw_ok := lw_in 220 (by decide +kernel) (by decide +kernel)
abbrev mX0_init : zM := (yX0_init, cX0_init, 1, none)
theorem w_code_X0_init : Cond.code mX0_init.1 mX0_init.2.1 mX0_init.2.2.1 mX0_init.2.2.2 ∈ lw_ok := lw_in 255 (by decide +kernel) (by decide +kernel)
theorem w_inst_X0_init : Cond.instanceMethod yX0_init ∈ lw_ok := lw_in 254 (by decide +kernel) (by decide +kernel)
abbrev mX6_gardens : zM := (yX6_gardens, cX6_gardens, 3, some .int)
theorem w_code_X6_gardens : Cond.code mX6_gardens.1 mX6_gardens.2.1 mX6_gardens.2.2.1 mX6_gardens.2.2.2 ∈ lw_ok := lw_in 293 (by decide +kernel) (by decide +kernel)
theorem w_inst_X6_gardens : Cond.instanceMethod yX6_gardens ∈ lw_ok := lw_in 291 (by decide +kernel) (by decide +kernel)
theorem w_sel_X6_gardens : Cond.selects RX6 yX6_gardens yX6_gardens ∈ lw_ok := lw_in 292 (by decide +kernel) (by decide +kernel)
abbrev mX6_garden : zM := (yX6_garden, cX6_garden, 5, some .int)
theorem w_code_X6_garden : Cond.code mX6_garden.1 mX6_garden.2.1 mX6_garden.2.2.1 mX6_garden.2.2.2 ∈ lw_ok := lw_in 298 (by decide +kernel) (by decide +kernel)
theorem w_inst_X6_garden : Cond.instanceMethod yX6_garden ∈ lw_ok := lw_in 296 (by decide +kernel) (by decide +kernel)
theorem w_sel_X6_garden : Cond.selects RX6 yX6_garden yX6_garden ∈ lw_ok := lw_in 297 (by decide +kernel) (by decide +kernel)
abbrev mX4_has : zM := (yX4_has, cX4_has, 2, some .boolean)
theorem w_code_X4_has : Cond.code mX4_has.1 mX4_has.2.1 mX4_has.2.2.1 mX4_has.2.2.2 ∈ lw_ok := lw_in 302 (by decide +kernel) (by decide +kernel)
theorem w_inst_X4_has : Cond.instanceMethod yX4_has ∈ lw_ok := lw_in 300 (by decide +kernel) (by decide +kernel)
theorem w_sel_X4_has : Cond.selects RX4 yX4_has yX4_has ∈ lw_ok := lw_in 301 (by decide +kernel) (by decide +kernel)
abbrev mX6_isOutside : zM := (yX6_isOutside, cX6_isOutside, 3, some .boolean)
theorem w_code_X6_isOutside : Cond.code mX6_isOutside.1 mX6_isOutside.2.1 mX6_isOutside.2.2.1 mX6_isOutside.2.2.2 ∈ lw_ok := lw_in 305 (by decide +kernel) (by decide +kernel)
theorem w_stat_X6_isOutside : Cond.static yX6_isOutside ∈ lw_ok := lw_in 304 (by decide +kernel) (by decide +kernel)
abbrev mX6_set : zM := (yX6_set, cX6_set, 4, some .int)
theorem w_code_X6_set : Cond.code mX6_set.1 mX6_set.2.1 mX6_set.2.2.1 mX6_set.2.2.2 ∈ lw_ok := lw_in 309 (by decide +kernel) (by decide +kernel)
theorem w_inst_X6_set : Cond.instanceMethod yX6_set ∈ lw_ok := lw_in 307 (by decide +kernel) (by decide +kernel)
theorem w_sel_X6_set : Cond.selects RX6 yX6_set yX6_set ∈ lw_ok := lw_in 308 (by decide +kernel) (by decide +kernel)
abbrev mX6_say : zM := (yX6_say, cX6_say, 2, some .int)
theorem w_code_X6_say : Cond.code mX6_say.1 mX6_say.2.1 mX6_say.2.2.1 mX6_say.2.2.2 ∈ lw_ok := lw_in 313 (by decide +kernel) (by decide +kernel)
theorem w_inst_X6_say : Cond.instanceMethod yX6_say ∈ lw_ok := lw_in 311 (by decide +kernel) (by decide +kernel)
theorem w_sel_X6_say : Cond.selects RX6 yX6_say yX6_say ∈ lw_ok := lw_in 312 (by decide +kernel) (by decide +kernel)
abbrev mX6_wipe : zM := (yX6_wipe, cX6_wipe, 2, some .int)
theorem w_code_X6_wipe : Cond.code mX6_wipe.1 mX6_wipe.2.1 mX6_wipe.2.2.1 mX6_wipe.2.2.2 ∈ lw_ok := lw_in 317 (by decide +kernel) (by decide +kernel)
theorem w_inst_X6_wipe : Cond.instanceMethod yX6_wipe ∈ lw_ok := lw_in 315 (by decide +kernel) (by decide +kernel)
theorem w_sel_X6_wipe : Cond.selects RX6 yX6_wipe yX6_wipe ∈ lw_ok := lw_in 316 (by decide +kernel) (by decide +kernel)
abbrev mX6_fault : zM := (yX6_fault, cX6_fault, 1, some .int)
theorem w_code_X6_fault : Cond.code mX6_fault.1 mX6_fault.2.1 mX6_fault.2.2.1 mX6_fault.2.2.2 ∈ lw_ok := lw_in 321 (by decide +kernel) (by decide +kernel)
theorem w_inst_X6_fault : Cond.instanceMethod yX6_fault ∈ lw_ok := lw_in 319 (by decide +kernel) (by decide +kernel)
theorem w_sel_X6_fault : Cond.selects RX6 yX6_fault yX6_fault ∈ lw_ok := lw_in 320 (by decide +kernel) (by decide +kernel)
abbrev mX5_read : zM := (yX5_read, cX5_read, 5, some .int)
theorem w_code_X5_read : Cond.code mX5_read.1 mX5_read.2.1 mX5_read.2.2.1 mX5_read.2.2.2 ∈ lw_ok := lw_in 325 (by decide +kernel) (by decide +kernel)
theorem w_inst_X5_read : Cond.instanceMethod yX5_read ∈ lw_ok := lw_in 323 (by decide +kernel) (by decide +kernel)
theorem w_sel_X5_read : Cond.selects RX5 yX5_read yX5_read ∈ lw_ok := lw_in 324 (by decide +kernel) (by decide +kernel)
abbrev mX5_readWord : zM := (yX5_readWord, cX5_readWord, 8, some .int)
theorem w_code_X5_readWord : Cond.code mX5_readWord.1 mX5_readWord.2.1 mX5_readWord.2.2.1 mX5_readWord.2.2.2 ∈ lw_ok := lw_in 329 (by decide +kernel) (by decide +kernel)
theorem w_inst_X5_readWord : Cond.instanceMethod yX5_readWord ∈ lw_ok := lw_in 328 (by decide +kernel) (by decide +kernel)
theorem w_sel_X5_readWord : Cond.selects RX5 yX5_readWord yX5_readWord ∈ lw_ok := lw_in 0 (by decide +kernel) (by decide +kernel)
abbrev mX5_signAt : zM := (yX5_signAt, cX5_signAt, 2, some .int)
theorem w_code_X5_signAt : Cond.code mX5_signAt.1 mX5_signAt.2.1 mX5_signAt.2.2.1 mX5_signAt.2.2.2 ∈ lw_ok := lw_in 333 (by decide +kernel) (by decide +kernel)
theorem w_inst_X5_signAt : Cond.instanceMethod yX5_signAt ∈ lw_ok := lw_in 332 (by decide +kernel) (by decide +kernel)
theorem w_sel_X5_signAt : Cond.selects RX5 yX5_signAt yX5_signAt ∈ lw_ok := lw_in 1 (by decide +kernel) (by decide +kernel)
abbrev mX5_addWord : zM := (yX5_addWord, cX5_addWord, 5, some .int)
theorem w_code_X5_addWord : Cond.code mX5_addWord.1 mX5_addWord.2.1 mX5_addWord.2.2.1 mX5_addWord.2.2.2 ∈ lw_ok := lw_in 337 (by decide +kernel) (by decide +kernel)
theorem w_inst_X5_addWord : Cond.instanceMethod yX5_addWord ∈ lw_ok := lw_in 336 (by decide +kernel) (by decide +kernel)
theorem w_sel_X5_addWord : Cond.selects RX5 yX5_addWord yX5_addWord ∈ lw_ok := lw_in 2 (by decide +kernel) (by decide +kernel)
abbrev mX5_kindOf : zM := (yX5_kindOf, cX5_kindOf, 1, some .int)
theorem w_code_X5_kindOf : Cond.code mX5_kindOf.1 mX5_kindOf.2.1 mX5_kindOf.2.2.1 mX5_kindOf.2.2.2 ∈ lw_ok := lw_in 340 (by decide +kernel) (by decide +kernel)
theorem w_stat_X5_kindOf : Cond.static yX5_kindOf ∈ lw_ok := lw_in 339 (by decide +kernel) (by decide +kernel)
abbrev mX6_judge : zM := (yX6_judge, cX6_judge, 3, some .int)
theorem w_code_X6_judge : Cond.code mX6_judge.1 mX6_judge.2.1 mX6_judge.2.2.1 mX6_judge.2.2.2 ∈ lw_ok := lw_in 344 (by decide +kernel) (by decide +kernel)
theorem w_inst_X6_judge : Cond.instanceMethod yX6_judge ∈ lw_ok := lw_in 342 (by decide +kernel) (by decide +kernel)
theorem w_sel_X6_judge : Cond.selects RX6 yX6_judge yX6_judge ∈ lw_ok := lw_in 343 (by decide +kernel) (by decide +kernel)
abbrev mX4_copy : zM := (yX4_copy, cX4_copy, 2, none)
theorem w_code_X4_copy : Cond.code mX4_copy.1 mX4_copy.2.1 mX4_copy.2.2.1 mX4_copy.2.2.2 ∈ lw_ok := lw_in 348 (by decide +kernel) (by decide +kernel)
theorem w_inst_X4_copy : Cond.instanceMethod yX4_copy ∈ lw_ok := lw_in 346 (by decide +kernel) (by decide +kernel)
theorem w_sel_X4_copy : Cond.selects RX4 yX4_copy yX4_copy ∈ lw_ok := lw_in 347 (by decide +kernel) (by decide +kernel)
abbrev mX5_holdOn : zM := (yX5_holdOn, cX5_holdOn, 5, some .int)
theorem w_code_X5_holdOn : Cond.code mX5_holdOn.1 mX5_holdOn.2.1 mX5_holdOn.2.2.1 mX5_holdOn.2.2.2 ∈ lw_ok := lw_in 355 (by decide +kernel) (by decide +kernel)
theorem w_inst_X5_holdOn : Cond.instanceMethod yX5_holdOn ∈ lw_ok := lw_in 353 (by decide +kernel) (by decide +kernel)
theorem w_sel_X5_holdOn : Cond.selects RX5 yX5_holdOn yX5_holdOn ∈ lw_ok := lw_in 354 (by decide +kernel) (by decide +kernel)
abbrev mX4_tell : zM := (yX4_tell, cX4_tell, 5, some .int)
theorem w_code_X4_tell : Cond.code mX4_tell.1 mX4_tell.2.1 mX4_tell.2.2.1 mX4_tell.2.2.2 ∈ lw_ok := lw_in 359 (by decide +kernel) (by decide +kernel)
theorem w_inst_X4_tell : Cond.instanceMethod yX4_tell ∈ lw_ok := lw_in 357 (by decide +kernel) (by decide +kernel)
theorem w_sel_X4_tell : Cond.selects RX4 yX4_tell yX4_tell ∈ lw_ok := lw_in 358 (by decide +kernel) (by decide +kernel)
abbrev mX4_hindrance : zM := (yX4_hindrance, cX4_hindrance, 4, some .int)
theorem w_code_X4_hindrance : Cond.code mX4_hindrance.1 mX4_hindrance.2.1 mX4_hindrance.2.2.1 mX4_hindrance.2.2.2 ∈ lw_ok := lw_in 363 (by decide +kernel) (by decide +kernel)
theorem w_inst_X4_hindrance : Cond.instanceMethod yX4_hindrance ∈ lw_ok := lw_in 361 (by decide +kernel) (by decide +kernel)
theorem w_sel_X4_hindrance : Cond.selects RX4 yX4_hindrance yX4_hindrance ∈ lw_ok := lw_in 362 (by decide +kernel) (by decide +kernel)
abbrev mX4_isDeep : zM := (yX4_isDeep, cX4_isDeep, 2, some .boolean)
theorem w_code_X4_isDeep : Cond.code mX4_isDeep.1 mX4_isDeep.2.1 mX4_isDeep.2.2.1 mX4_isDeep.2.2.2 ∈ lw_ok := lw_in 368 (by decide +kernel) (by decide +kernel)
theorem w_inst_X4_isDeep : Cond.instanceMethod yX4_isDeep ∈ lw_ok := lw_in 366 (by decide +kernel) (by decide +kernel)
theorem w_sel_X4_isDeep : Cond.selects RX4 yX4_isDeep yX4_isDeep ∈ lw_ok := lw_in 367 (by decide +kernel) (by decide +kernel)
abbrev mX4_weight : zM := (yX4_weight, cX4_weight, 4, some .int)
theorem w_code_X4_weight : Cond.code mX4_weight.1 mX4_weight.2.1 mX4_weight.2.2.1 mX4_weight.2.2.2 ∈ lw_ok := lw_in 372 (by decide +kernel) (by decide +kernel)
theorem w_inst_X4_weight : Cond.instanceMethod yX4_weight ∈ lw_ok := lw_in 370 (by decide +kernel) (by decide +kernel)
theorem w_sel_X4_weight : Cond.selects RX4 yX4_weight yX4_weight ∈ lw_ok := lw_in 371 (by decide +kernel) (by decide +kernel)
abbrev mX4_speak : zM := (yX4_speak, cX4_speak, 4, none)
theorem w_code_X4_speak : Cond.code mX4_speak.1 mX4_speak.2.1 mX4_speak.2.2.1 mX4_speak.2.2.2 ∈ lw_ok := lw_in 376 (by decide +kernel) (by decide +kernel)
theorem w_inst_X4_speak : Cond.instanceMethod yX4_speak ∈ lw_ok := lw_in 374 (by decide +kernel) (by decide +kernel)
theorem w_sel_X4_speak : Cond.selects RX4 yX4_speak yX4_speak ∈ lw_ok := lw_in 375 (by decide +kernel) (by decide +kernel)
abbrev mX4_fall : zM := (yX4_fall, cX4_fall, 5, none)
theorem w_code_X4_fall : Cond.code mX4_fall.1 mX4_fall.2.1 mX4_fall.2.2.1 mX4_fall.2.2.2 ∈ lw_ok := lw_in 380 (by decide +kernel) (by decide +kernel)
theorem w_inst_X4_fall : Cond.instanceMethod yX4_fall ∈ lw_ok := lw_in 379 (by decide +kernel) (by decide +kernel)
theorem w_sel_X4_fall : Cond.selects RX4 yX4_fall yX4_fall ∈ lw_ok := lw_in 3 (by decide +kernel) (by decide +kernel)
abbrev mX4_lower : zM := (yX4_lower, cX4_lower, 3, none)
theorem w_code_X4_lower : Cond.code mX4_lower.1 mX4_lower.2.1 mX4_lower.2.2.1 mX4_lower.2.2.2 ∈ lw_ok := lw_in 384 (by decide +kernel) (by decide +kernel)
theorem w_inst_X4_lower : Cond.instanceMethod yX4_lower ∈ lw_ok := lw_in 383 (by decide +kernel) (by decide +kernel)
theorem w_sel_X4_lower : Cond.selects RX4 yX4_lower yX4_lower ∈ lw_ok := lw_in 4 (by decide +kernel) (by decide +kernel)
abbrev mX6_passNight : zM := (yX6_passNight, cX6_passNight, 6, none)
theorem w_code_X6_passNight : Cond.code mX6_passNight.1 mX6_passNight.2.1 mX6_passNight.2.2.1 mX6_passNight.2.2.2 ∈ lw_ok := lw_in 390 (by decide +kernel) (by decide +kernel)
theorem w_stat_X6_passNight : Cond.static yX6_passNight ∈ lw_ok := lw_in 389 (by decide +kernel) (by decide +kernel)
abbrev mX4_thaw : zM := (yX4_thaw, cX4_thaw, 3, none)
theorem w_code_X4_thaw : Cond.code mX4_thaw.1 mX4_thaw.2.1 mX4_thaw.2.2.1 mX4_thaw.2.2.2 ∈ lw_ok := lw_in 394 (by decide +kernel) (by decide +kernel)
theorem w_inst_X4_thaw : Cond.instanceMethod yX4_thaw ∈ lw_ok := lw_in 393 (by decide +kernel) (by decide +kernel)
theorem w_sel_X4_thaw : Cond.selects RX4 yX4_thaw yX4_thaw ∈ lw_ok := lw_in 5 (by decide +kernel) (by decide +kernel)
abbrev mX4_overloaded : zM := (yX4_overloaded, cX4_overloaded, 3, some .int)
theorem w_code_X4_overloaded : Cond.code mX4_overloaded.1 mX4_overloaded.2.1 mX4_overloaded.2.2.1 mX4_overloaded.2.2.2 ∈ lw_ok := lw_in 401 (by decide +kernel) (by decide +kernel)
theorem w_inst_X4_overloaded : Cond.instanceMethod yX4_overloaded ∈ lw_ok := lw_in 399 (by decide +kernel) (by decide +kernel)
theorem w_sel_X4_overloaded : Cond.selects RX4 yX4_overloaded yX4_overloaded ∈ lw_ok := lw_in 400 (by decide +kernel) (by decide +kernel)
abbrev mX6_done : zM := (yX6_done, cX6_done, 1, some .int)
theorem w_code_X6_done : Cond.code mX6_done.1 mX6_done.2.1 mX6_done.2.2.1 mX6_done.2.2.2 ∈ lw_ok := lw_in 405 (by decide +kernel) (by decide +kernel)
theorem w_inst_X6_done : Cond.instanceMethod yX6_done ∈ lw_ok := lw_in 403 (by decide +kernel) (by decide +kernel)
theorem w_sel_X6_done : Cond.selects RX6 yX6_done yX6_done ∈ lw_ok := lw_in 404 (by decide +kernel) (by decide +kernel)
abbrev mX6_talkCanBe : zM := (yX6_talkCanBe, cX6_talkCanBe, 1, some .boolean)
theorem w_code_X6_talkCanBe : Cond.code mX6_talkCanBe.1 mX6_talkCanBe.2.1 mX6_talkCanBe.2.2.1 mX6_talkCanBe.2.2.2 ∈ lw_ok := lw_in 409 (by decide +kernel) (by decide +kernel)
theorem w_inst_X6_talkCanBe : Cond.instanceMethod yX6_talkCanBe ∈ lw_ok := lw_in 408 (by decide +kernel) (by decide +kernel)
theorem w_sel_X6_talkCanBe : Cond.selects RX6 yX6_talkCanBe yX6_talkCanBe ∈ lw_ok := lw_in 6 (by decide +kernel) (by decide +kernel)
abbrev mX6_state : zM := (yX6_state, cX6_state, 3, some .int)
theorem w_code_X6_state : Cond.code mX6_state.1 mX6_state.2.1 mX6_state.2.2.1 mX6_state.2.2.2 ∈ lw_ok := lw_in 413 (by decide +kernel) (by decide +kernel)
theorem w_inst_X6_state : Cond.instanceMethod yX6_state ∈ lw_ok := lw_in 411 (by decide +kernel) (by decide +kernel)
theorem w_sel_X6_state : Cond.selects RX6 yX6_state yX6_state ∈ lw_ok := lw_in 412 (by decide +kernel) (by decide +kernel)
abbrev mX4_look : zM := (yX4_look, cX4_look, 3, some .int)
theorem w_code_X4_look : Cond.code mX4_look.1 mX4_look.2.1 mX4_look.2.2.1 mX4_look.2.2.2 ∈ lw_ok := lw_in 417 (by decide +kernel) (by decide +kernel)
theorem w_inst_X4_look : Cond.instanceMethod yX4_look ∈ lw_ok := lw_in 415 (by decide +kernel) (by decide +kernel)
theorem w_sel_X4_look : Cond.selects RX4 yX4_look yX4_look ∈ lw_ok := lw_in 416 (by decide +kernel) (by decide +kernel)
abbrev mX6_behind : zM := (yX6_behind, cX6_behind, 3, some .int)
theorem w_code_X6_behind : Cond.code mX6_behind.1 mX6_behind.2.1 mX6_behind.2.2.1 mX6_behind.2.2.2 ∈ lw_ok := lw_in 421 (by decide +kernel) (by decide +kernel)
theorem w_inst_X6_behind : Cond.instanceMethod yX6_behind ∈ lw_ok := lw_in 419 (by decide +kernel) (by decide +kernel)
theorem w_sel_X6_behind : Cond.selects RX6 yX6_behind yX6_behind ∈ lw_ok := lw_in 420 (by decide +kernel) (by decide +kernel)
abbrev mX6_first : zM := (yX6_first, cX6_first, 1, some .int)
theorem w_code_X6_first : Cond.code mX6_first.1 mX6_first.2.1 mX6_first.2.2.1 mX6_first.2.2.2 ∈ lw_ok := lw_in 425 (by decide +kernel) (by decide +kernel)
theorem w_inst_X6_first : Cond.instanceMethod yX6_first ∈ lw_ok := lw_in 423 (by decide +kernel) (by decide +kernel)
theorem w_sel_X6_first : Cond.selects RX6 yX6_first yX6_first ∈ lw_ok := lw_in 424 (by decide +kernel) (by decide +kernel)
abbrev mX6_recognised : zM := (yX6_recognised, cX6_recognised, 2, some .int)
theorem w_code_X6_recognised : Cond.code mX6_recognised.1 mX6_recognised.2.1 mX6_recognised.2.2.1 mX6_recognised.2.2.2 ∈ lw_ok := lw_in 429 (by decide +kernel) (by decide +kernel)
theorem w_inst_X6_recognised : Cond.instanceMethod yX6_recognised ∈ lw_ok := lw_in 427 (by decide +kernel) (by decide +kernel)
theorem w_sel_X6_recognised : Cond.selects RX6 yX6_recognised yX6_recognised ∈ lw_ok := lw_in 428 (by decide +kernel) (by decide +kernel)
abbrev mX4_mostSaidOf : zM := (yX4_mostSaidOf, cX4_mostSaidOf, 5, some .int)
theorem w_code_X4_mostSaidOf : Cond.code mX4_mostSaidOf.1 mX4_mostSaidOf.2.1 mX4_mostSaidOf.2.2.1 mX4_mostSaidOf.2.2.2 ∈ lw_ok := lw_in 433 (by decide +kernel) (by decide +kernel)
theorem w_inst_X4_mostSaidOf : Cond.instanceMethod yX4_mostSaidOf ∈ lw_ok := lw_in 431 (by decide +kernel) (by decide +kernel)
theorem w_sel_X4_mostSaidOf : Cond.selects RX4 yX4_mostSaidOf yX4_mostSaidOf ∈ lw_ok := lw_in 432 (by decide +kernel) (by decide +kernel)
abbrev mX6_where : zM := (yX6_where, cX6_where, 2, some .int)
theorem w_code_X6_where : Cond.code mX6_where.1 mX6_where.2.1 mX6_where.2.2.1 mX6_where.2.2.2 ∈ lw_ok := lw_in 437 (by decide +kernel) (by decide +kernel)
theorem w_inst_X6_where : Cond.instanceMethod yX6_where ∈ lw_ok := lw_in 435 (by decide +kernel) (by decide +kernel)
theorem w_sel_X6_where : Cond.selects RX6 yX6_where yX6_where ∈ lw_ok := lw_in 436 (by decide +kernel) (by decide +kernel)
abbrev mX5_isOfOthersOnly : zM := (yX5_isOfOthersOnly, cX5_isOfOthersOnly, 2, some .boolean)
theorem w_code_X5_isOfOthersOnly : Cond.code mX5_isOfOthersOnly.1 mX5_isOfOthersOnly.2.1 mX5_isOfOthersOnly.2.2.1 mX5_isOfOthersOnly.2.2.2 ∈ lw_ok := lw_in 441 (by decide +kernel) (by decide +kernel)
theorem w_inst_X5_isOfOthersOnly : Cond.instanceMethod yX5_isOfOthersOnly ∈ lw_ok := lw_in 439 (by decide +kernel) (by decide +kernel)
theorem w_sel_X5_isOfOthersOnly : Cond.selects RX5 yX5_isOfOthersOnly yX5_isOfOthersOnly ∈ lw_ok := lw_in 440 (by decide +kernel) (by decide +kernel)
abbrev mX1_find : zM := (yX1_find, cX1_find, 3, none)
theorem w_code_X1_find : Cond.code mX1_find.1 mX1_find.2.1 mX1_find.2.2.1 mX1_find.2.2.2 ∈ lw_ok := lw_in 446 (by decide +kernel) (by decide +kernel)
theorem w_inst_X1_find : Cond.instanceMethod yX1_find ∈ lw_ok := lw_in 444 (by decide +kernel) (by decide +kernel)
theorem w_sel_X1_find : Cond.selects RX1 yX1_find yX1_find ∈ lw_ok := lw_in 445 (by decide +kernel) (by decide +kernel)
abbrev mX1_placeFrom : zM := (yX1_placeFrom, cX1_placeFrom, 8, none)
theorem w_code_X1_placeFrom : Cond.code mX1_placeFrom.1 mX1_placeFrom.2.1 mX1_placeFrom.2.2.1 mX1_placeFrom.2.2.2 ∈ lw_ok := lw_in 449 (by decide +kernel) (by decide +kernel)
theorem w_stat_X1_placeFrom : Cond.static yX1_placeFrom ∈ lw_ok := lw_in 448 (by decide +kernel) (by decide +kernel)
abbrev mX1_keep : zM := (yX1_keep, cX1_keep, 2, none)
theorem w_code_X1_keep : Cond.code mX1_keep.1 mX1_keep.2.1 mX1_keep.2.2.1 mX1_keep.2.2.2 ∈ lw_ok := lw_in 453 (by decide +kernel) (by decide +kernel)
theorem w_inst_X1_keep : Cond.instanceMethod yX1_keep ∈ lw_ok := lw_in 452 (by decide +kernel) (by decide +kernel)
theorem w_sel_X1_keep : Cond.selects RX1 yX1_keep yX1_keep ∈ lw_ok := lw_in 7 (by decide +kernel) (by decide +kernel)
abbrev mX4_bearsWord : zM := (yX4_bearsWord, cX4_bearsWord, 4, some .boolean)
theorem w_code_X4_bearsWord : Cond.code mX4_bearsWord.1 mX4_bearsWord.2.1 mX4_bearsWord.2.2.1 mX4_bearsWord.2.2.2 ∈ lw_ok := lw_in 458 (by decide +kernel) (by decide +kernel)
theorem w_inst_X4_bearsWord : Cond.instanceMethod yX4_bearsWord ∈ lw_ok := lw_in 456 (by decide +kernel) (by decide +kernel)
theorem w_sel_X4_bearsWord : Cond.selects RX4 yX4_bearsWord yX4_bearsWord ∈ lw_ok := lw_in 457 (by decide +kernel) (by decide +kernel)
abbrev mX6_cleared : zM := (yX6_cleared, cX6_cleared, 6, some .int)
theorem w_code_X6_cleared : Cond.code mX6_cleared.1 mX6_cleared.2.1 mX6_cleared.2.2.1 mX6_cleared.2.2.2 ∈ lw_ok := lw_in 462 (by decide +kernel) (by decide +kernel)
theorem w_inst_X6_cleared : Cond.instanceMethod yX6_cleared ∈ lw_ok := lw_in 460 (by decide +kernel) (by decide +kernel)
theorem w_sel_X6_cleared : Cond.selects RX6 yX6_cleared yX6_cleared ∈ lw_ok := lw_in 461 (by decide +kernel) (by decide +kernel)
abbrev mX6_salted : zM := (yX6_salted, cX6_salted, 2, some .int)
theorem w_code_X6_salted : Cond.code mX6_salted.1 mX6_salted.2.1 mX6_salted.2.2.1 mX6_salted.2.2.2 ∈ lw_ok := lw_in 467 (by decide +kernel) (by decide +kernel)
theorem w_inst_X6_salted : Cond.instanceMethod yX6_salted ∈ lw_ok := lw_in 465 (by decide +kernel) (by decide +kernel)
theorem w_sel_X6_salted : Cond.selects RX6 yX6_salted yX6_salted ∈ lw_ok := lw_in 466 (by decide +kernel) (by decide +kernel)
abbrev mX3_fewestFor : zM := (yX3_fewestFor, cX3_fewestFor, 4, some .int)
theorem w_code_X3_fewestFor : Cond.code mX3_fewestFor.1 mX3_fewestFor.2.1 mX3_fewestFor.2.2.1 mX3_fewestFor.2.2.2 ∈ lw_ok := lw_in 471 (by decide +kernel) (by decide +kernel)
theorem w_inst_X3_fewestFor : Cond.instanceMethod yX3_fewestFor ∈ lw_ok := lw_in 469 (by decide +kernel) (by decide +kernel)
theorem w_sel_X3_fewestFor : Cond.selects RX3 yX3_fewestFor yX3_fewestFor ∈ lw_ok := lw_in 470 (by decide +kernel) (by decide +kernel)
abbrev mX3_spreadFrom : zM := (yX3_spreadFrom, cX3_spreadFrom, 4, none)
theorem w_code_X3_spreadFrom : Cond.code mX3_spreadFrom.1 mX3_spreadFrom.2.1 mX3_spreadFrom.2.2.1 mX3_spreadFrom.2.2.2 ∈ lw_ok := lw_in 474 (by decide +kernel) (by decide +kernel)
theorem w_stat_X3_spreadFrom : Cond.static yX3_spreadFrom ∈ lw_ok := lw_in 473 (by decide +kernel) (by decide +kernel)
abbrev mX3_isEnough : zM := (yX3_isEnough, cX3_isEnough, 2, some .boolean)
theorem w_code_X3_isEnough : Cond.code mX3_isEnough.1 mX3_isEnough.2.1 mX3_isEnough.2.2.1 mX3_isEnough.2.2.2 ∈ lw_ok := lw_in 478 (by decide +kernel) (by decide +kernel)
theorem w_inst_X3_isEnough : Cond.instanceMethod yX3_isEnough ∈ lw_ok := lw_in 477 (by decide +kernel) (by decide +kernel)
theorem w_sel_X3_isEnough : Cond.selects RX3 yX3_isEnough yX3_isEnough ∈ lw_ok := lw_in 8 (by decide +kernel) (by decide +kernel)
abbrev mX3_spreadsIn : zM := (yX3_spreadsIn, cX3_spreadsIn, 2, some .int)
theorem w_code_X3_spreadsIn : Cond.code mX3_spreadsIn.1 mX3_spreadsIn.2.1 mX3_spreadsIn.2.2.1 mX3_spreadsIn.2.2.2 ∈ lw_ok := lw_in 482 (by decide +kernel) (by decide +kernel)
theorem w_inst_X3_spreadsIn : Cond.instanceMethod yX3_spreadsIn ∈ lw_ok := lw_in 481 (by decide +kernel) (by decide +kernel)
theorem w_sel_X3_spreadsIn : Cond.selects RX3 yX3_spreadsIn yX3_spreadsIn ∈ lw_ok := lw_in 9 (by decide +kernel) (by decide +kernel)
abbrev mX6_slide : zM := (yX6_slide, cX6_slide, 6, some .int)
theorem w_code_X6_slide : Cond.code mX6_slide.1 mX6_slide.2.1 mX6_slide.2.2.1 mX6_slide.2.2.2 ∈ lw_ok := lw_in 486 (by decide +kernel) (by decide +kernel)
theorem w_inst_X6_slide : Cond.instanceMethod yX6_slide ∈ lw_ok := lw_in 484 (by decide +kernel) (by decide +kernel)
theorem w_sel_X6_slide : Cond.selects RX6 yX6_slide yX6_slide ∈ lw_ok := lw_in 485 (by decide +kernel) (by decide +kernel)
abbrev mX6_holds : zM := (yX6_holds, cX6_holds, 4, some .int)
theorem w_code_X6_holds : Cond.code mX6_holds.1 mX6_holds.2.1 mX6_holds.2.2.1 mX6_holds.2.2.2 ∈ lw_ok := lw_in 490 (by decide +kernel) (by decide +kernel)
theorem w_inst_X6_holds : Cond.instanceMethod yX6_holds ∈ lw_ok := lw_in 488 (by decide +kernel) (by decide +kernel)
theorem w_sel_X6_holds : Cond.selects RX6 yX6_holds yX6_holds ∈ lw_ok := lw_in 489 (by decide +kernel) (by decide +kernel)
abbrev mX6_seen : zM := (yX6_seen, cX6_seen, 3, some .int)
theorem w_code_X6_seen : Cond.code mX6_seen.1 mX6_seen.2.1 mX6_seen.2.2.1 mX6_seen.2.2.2 ∈ lw_ok := lw_in 495 (by decide +kernel) (by decide +kernel)
theorem w_inst_X6_seen : Cond.instanceMethod yX6_seen ∈ lw_ok := lw_in 493 (by decide +kernel) (by decide +kernel)
theorem w_sel_X6_seen : Cond.selects RX6 yX6_seen yX6_seen ∈ lw_ok := lw_in 494 (by decide +kernel) (by decide +kernel)
abbrev mX6_forget : zM := (yX6_forget, cX6_forget, 2, some .int)
theorem w_code_X6_forget : Cond.code mX6_forget.1 mX6_forget.2.1 mX6_forget.2.2.1 mX6_forget.2.2.2 ∈ lw_ok := lw_in 499 (by decide +kernel) (by decide +kernel)
theorem w_inst_X6_forget : Cond.instanceMethod yX6_forget ∈ lw_ok := lw_in 497 (by decide +kernel) (by decide +kernel)
theorem w_sel_X6_forget : Cond.selects RX6 yX6_forget yX6_forget ∈ lw_ok := lw_in 498 (by decide +kernel) (by decide +kernel)
abbrev mX6_who : zM := (yX6_who, cX6_who, 3, some .int)
theorem w_code_X6_who : Cond.code mX6_who.1 mX6_who.2.1 mX6_who.2.2.1 mX6_who.2.2.2 ∈ lw_ok := lw_in 503 (by decide +kernel) (by decide +kernel)
theorem w_inst_X6_who : Cond.instanceMethod yX6_who ∈ lw_ok := lw_in 501 (by decide +kernel) (by decide +kernel)
theorem w_sel_X6_who : Cond.selects RX6 yX6_who yX6_who ∈ lw_ok := lw_in 502 (by decide +kernel) (by decide +kernel)
abbrev mX2_gather : zM := (yX2_gather, cX2_gather, 3, none)
theorem w_code_X2_gather : Cond.code mX2_gather.1 mX2_gather.2.1 mX2_gather.2.2.1 mX2_gather.2.2.2 ∈ lw_ok := lw_in 507 (by decide +kernel) (by decide +kernel)
theorem w_inst_X2_gather : Cond.instanceMethod yX2_gather ∈ lw_ok := lw_in 505 (by decide +kernel) (by decide +kernel)
theorem w_sel_X2_gather : Cond.selects RX2 yX2_gather yX2_gather ∈ lw_ok := lw_in 506 (by decide +kernel) (by decide +kernel)
abbrev mX2_pickFrom : zM := (yX2_pickFrom, cX2_pickFrom, 6, none)
theorem w_code_X2_pickFrom : Cond.code mX2_pickFrom.1 mX2_pickFrom.2.1 mX2_pickFrom.2.2.1 mX2_pickFrom.2.2.2 ∈ lw_ok := lw_in 513 (by decide +kernel) (by decide +kernel)
theorem w_stat_X2_pickFrom : Cond.static yX2_pickFrom ∈ lw_ok := lw_in 512 (by decide +kernel) (by decide +kernel)
abbrev mX2_weigh : zM := (yX2_weigh, cX2_weigh, 6, none)
theorem w_code_X2_weigh : Cond.code mX2_weigh.1 mX2_weigh.2.1 mX2_weigh.2.2.1 mX2_weigh.2.2.2 ∈ lw_ok := lw_in 517 (by decide +kernel) (by decide +kernel)
theorem w_inst_X2_weigh : Cond.instanceMethod yX2_weigh ∈ lw_ok := lw_in 516 (by decide +kernel) (by decide +kernel)
theorem w_sel_X2_weigh : Cond.selects RX2 yX2_weigh yX2_weigh ∈ lw_ok := lw_in 10 (by decide +kernel) (by decide +kernel)
abbrev mX4_sightsHold : zM := (yX4_sightsHold, cX4_sightsHold, 4, some .boolean)
theorem w_code_X4_sightsHold : Cond.code mX4_sightsHold.1 mX4_sightsHold.2.1 mX4_sightsHold.2.2.1 mX4_sightsHold.2.2.2 ∈ lw_ok := lw_in 522 (by decide +kernel) (by decide +kernel)
theorem w_inst_X4_sightsHold : Cond.instanceMethod yX4_sightsHold ∈ lw_ok := lw_in 520 (by decide +kernel) (by decide +kernel)
theorem w_sel_X4_sightsHold : Cond.selects RX4 yX4_sightsHold yX4_sightsHold ∈ lw_ok := lw_in 521 (by decide +kernel) (by decide +kernel)
abbrev mX2_orders : zM := (yX2_orders, cX2_orders, 4, some .int)
theorem w_code_X2_orders : Cond.code mX2_orders.1 mX2_orders.2.1 mX2_orders.2.2.1 mX2_orders.2.2.2 ∈ lw_ok := lw_in 526 (by decide +kernel) (by decide +kernel)
theorem w_inst_X2_orders : Cond.instanceMethod yX2_orders ∈ lw_ok := lw_in 525 (by decide +kernel) (by decide +kernel)
theorem w_sel_X2_orders : Cond.selects RX2 yX2_orders yX2_orders ∈ lw_ok := lw_in 11 (by decide +kernel) (by decide +kernel)
abbrev mX6_next : zM := (yX6_next, cX6_next, 4, some .int)
theorem w_code_X6_next : Cond.code mX6_next.1 mX6_next.2.1 mX6_next.2.2.1 mX6_next.2.2.2 ∈ lw_ok := lw_in 531 (by decide +kernel) (by decide +kernel)
theorem w_inst_X6_next : Cond.instanceMethod yX6_next ∈ lw_ok := lw_in 529 (by decide +kernel) (by decide +kernel)
theorem w_sel_X6_next : Cond.selects RX6 yX6_next yX6_next ∈ lw_ok := lw_in 530 (by decide +kernel) (by decide +kernel)
abbrev mX2_gardenToMeasure : zM := (yX2_gardenToMeasure, cX2_gardenToMeasure, 4, some .int)
theorem w_code_X2_gardenToMeasure : Cond.code mX2_gardenToMeasure.1 mX2_gardenToMeasure.2.1 mX2_gardenToMeasure.2.2.1 mX2_gardenToMeasure.2.2.2 ∈ lw_ok := lw_in 535 (by decide +kernel) (by decide +kernel)
theorem w_inst_X2_gardenToMeasure : Cond.instanceMethod yX2_gardenToMeasure ∈ lw_ok := lw_in 533 (by decide +kernel) (by decide +kernel)
theorem w_sel_X2_gardenToMeasure : Cond.selects RX2 yX2_gardenToMeasure yX2_gardenToMeasure ∈ lw_ok := lw_in 534 (by decide +kernel) (by decide +kernel)
abbrev mX4_isSeen : zM := (yX4_isSeen, cX4_isSeen, 3, some .boolean)
theorem w_code_X4_isSeen : Cond.code mX4_isSeen.1 mX4_isSeen.2.1 mX4_isSeen.2.2.1 mX4_isSeen.2.2.2 ∈ lw_ok := lw_in 539 (by decide +kernel) (by decide +kernel)
theorem w_inst_X4_isSeen : Cond.instanceMethod yX4_isSeen ∈ lw_ok := lw_in 537 (by decide +kernel) (by decide +kernel)
theorem w_sel_X4_isSeen : Cond.selects RX4 yX4_isSeen yX4_isSeen ∈ lw_ok := lw_in 538 (by decide +kernel) (by decide +kernel)
abbrev mX2_mostLeft : zM := (yX2_mostLeft, cX2_mostLeft, 4, some .int)
theorem w_code_X2_mostLeft : Cond.code mX2_mostLeft.1 mX2_mostLeft.2.1 mX2_mostLeft.2.2.1 mX2_mostLeft.2.2.2 ∈ lw_ok := lw_in 543 (by decide +kernel) (by decide +kernel)
theorem w_inst_X2_mostLeft : Cond.instanceMethod yX2_mostLeft ∈ lw_ok := lw_in 541 (by decide +kernel) (by decide +kernel)
theorem w_sel_X2_mostLeft : Cond.selects RX2 yX2_mostLeft yX2_mostLeft ∈ lw_ok := lw_in 542 (by decide +kernel) (by decide +kernel)
abbrev mX6_laws : zM := (yX6_laws, cX6_laws, 6, some .int)
theorem w_code_X6_laws : Cond.code mX6_laws.1 mX6_laws.2.1 mX6_laws.2.2.1 mX6_laws.2.2.2 ∈ lw_ok := lw_in 548 (by decide +kernel) (by decide +kernel)
theorem w_inst_X6_laws : Cond.instanceMethod yX6_laws ∈ lw_ok := lw_in 546 (by decide +kernel) (by decide +kernel)
theorem w_sel_X6_laws : Cond.selects RX6 yX6_laws yX6_laws ∈ lw_ok := lw_in 547 (by decide +kernel) (by decide +kernel)
abbrev mX5_fitsLaw : zM := (yX5_fitsLaw, cX5_fitsLaw, 6, some .boolean)
theorem w_code_X5_fitsLaw : Cond.code mX5_fitsLaw.1 mX5_fitsLaw.2.1 mX5_fitsLaw.2.2.1 mX5_fitsLaw.2.2.2 ∈ lw_ok := lw_in 552 (by decide +kernel) (by decide +kernel)
theorem w_inst_X5_fitsLaw : Cond.instanceMethod yX5_fitsLaw ∈ lw_ok := lw_in 550 (by decide +kernel) (by decide +kernel)
theorem w_sel_X5_fitsLaw : Cond.selects RX5 yX5_fitsLaw yX5_fitsLaw ∈ lw_ok := lw_in 551 (by decide +kernel) (by decide +kernel)
abbrev mX6_guests : zM := (yX6_guests, cX6_guests, 11, some .long)
theorem w_code_X6_guests : Cond.code mX6_guests.1 mX6_guests.2.1 mX6_guests.2.2.1 mX6_guests.2.2.2 ∈ lw_ok := lw_in 559 (by decide +kernel) (by decide +kernel)
theorem w_inst_X6_guests : Cond.instanceMethod yX6_guests ∈ lw_ok := lw_in 557 (by decide +kernel) (by decide +kernel)
theorem w_sel_X6_guests : Cond.selects RX6 yX6_guests yX6_guests ∈ lw_ok := lw_in 558 (by decide +kernel) (by decide +kernel)
abbrev mX4_bears : zM := (yX4_bears, cX4_bears, 3, some .boolean)
theorem w_code_X4_bears : Cond.code mX4_bears.1 mX4_bears.2.1 mX4_bears.2.2.1 mX4_bears.2.2.2 ∈ lw_ok := lw_in 565 (by decide +kernel) (by decide +kernel)
theorem w_inst_X4_bears : Cond.instanceMethod yX4_bears ∈ lw_ok := lw_in 563 (by decide +kernel) (by decide +kernel)
theorem w_sel_X4_bears : Cond.selects RX4 yX4_bears yX4_bears ∈ lw_ok := lw_in 564 (by decide +kernel) (by decide +kernel)
abbrev mX6_chanceOf : zM := (yX6_chanceOf, cX6_chanceOf, 6, some .long)
theorem w_code_X6_chanceOf : Cond.code mX6_chanceOf.1 mX6_chanceOf.2.1 mX6_chanceOf.2.2.1 mX6_chanceOf.2.2.2 ∈ lw_ok := lw_in 568 (by decide +kernel) (by decide +kernel)
theorem w_stat_X6_chanceOf : Cond.static yX6_chanceOf ∈ lw_ok := lw_in 567 (by decide +kernel) (by decide +kernel)
abbrev mX6_power : zM := (yX6_power, cX6_power, 5, some .long)
theorem w_code_X6_power : Cond.code mX6_power.1 mX6_power.2.1 mX6_power.2.2.1 mX6_power.2.2.2 ∈ lw_ok := lw_in 571 (by decide +kernel) (by decide +kernel)
theorem w_stat_X6_power : Cond.static yX6_power ∈ lw_ok := lw_in 570 (by decide +kernel) (by decide +kernel)
abbrev mX6_commonDivisor : zM := (yX6_commonDivisor, cX6_commonDivisor, 11, some .long)
theorem w_code_X6_commonDivisor : Cond.code mX6_commonDivisor.1 mX6_commonDivisor.2.1 mX6_commonDivisor.2.2.1 mX6_commonDivisor.2.2.2 ∈ lw_ok := lw_in 574 (by decide +kernel) (by decide +kernel)
theorem w_stat_X6_commonDivisor : Cond.static yX6_commonDivisor ∈ lw_ok := lw_in 573 (by decide +kernel) (by decide +kernel)
abbrev mX6_build : zM := (yX6_build, cX6_build, 12, some .int)
theorem w_code_X6_build : Cond.code mX6_build.1 mX6_build.2.1 mX6_build.2.2.1 mX6_build.2.2.2 ∈ lw_ok := lw_in 578 (by decide +kernel) (by decide +kernel)
theorem w_inst_X6_build : Cond.instanceMethod yX6_build ∈ lw_ok := lw_in 576 (by decide +kernel) (by decide +kernel)
theorem w_sel_X6_build : Cond.selects RX6 yX6_build yX6_build ∈ lw_ok := lw_in 577 (by decide +kernel) (by decide +kernel)
abbrev mX6_elsewhere : zM := (yX6_elsewhere, cX6_elsewhere, 3, some .int)
theorem w_code_X6_elsewhere : Cond.code mX6_elsewhere.1 mX6_elsewhere.2.1 mX6_elsewhere.2.2.1 mX6_elsewhere.2.2.2 ∈ lw_ok := lw_in 582 (by decide +kernel) (by decide +kernel)
theorem w_inst_X6_elsewhere : Cond.instanceMethod yX6_elsewhere ∈ lw_ok := lw_in 580 (by decide +kernel) (by decide +kernel)
theorem w_sel_X6_elsewhere : Cond.selects RX6 yX6_elsewhere yX6_elsewhere ∈ lw_ok := lw_in 581 (by decide +kernel) (by decide +kernel)
abbrev mX0_settle : zM := (yX0_settle, cX0_settle, 3, some .int)
theorem w_code_X0_settle : Cond.code mX0_settle.1 mX0_settle.2.1 mX0_settle.2.2.1 mX0_settle.2.2.2 ∈ lw_ok := lw_in 586 (by decide +kernel) (by decide +kernel)
theorem w_inst_X0_settle : Cond.instanceMethod yX0_settle ∈ lw_ok := lw_in 584 (by decide +kernel) (by decide +kernel)
theorem w_sel_X0_settle : Cond.selects RX0 yX0_settle yX0_settle ∈ lw_ok := lw_in 585 (by decide +kernel) (by decide +kernel)
abbrev mX0_somebodyGoes : zM := (yX0_somebodyGoes, cX0_somebodyGoes, 6, some .boolean)
theorem w_code_X0_somebodyGoes : Cond.code mX0_somebodyGoes.1 mX0_somebodyGoes.2.1 mX0_somebodyGoes.2.2.1 mX0_somebodyGoes.2.2.2 ∈ lw_ok := lw_in 592 (by decide +kernel) (by decide +kernel)
theorem w_inst_X0_somebodyGoes : Cond.instanceMethod yX0_somebodyGoes ∈ lw_ok := lw_in 591 (by decide +kernel) (by decide +kernel)
theorem w_sel_X0_somebodyGoes : Cond.selects RX0 yX0_somebodyGoes yX0_somebodyGoes ∈ lw_ok := lw_in 12 (by decide +kernel) (by decide +kernel)
abbrev mX0_emptiest : zM := (yX0_emptiest, cX0_emptiest, 5, some .int)
theorem w_code_X0_emptiest : Cond.code mX0_emptiest.1 mX0_emptiest.2.1 mX0_emptiest.2.2.1 mX0_emptiest.2.2.2 ∈ lw_ok := lw_in 597 (by decide +kernel) (by decide +kernel)
theorem w_inst_X0_emptiest : Cond.instanceMethod yX0_emptiest ∈ lw_ok := lw_in 596 (by decide +kernel) (by decide +kernel)
theorem w_sel_X0_emptiest : Cond.selects RX0 yX0_emptiest yX0_emptiest ∈ lw_ok := lw_in 13 (by decide +kernel) (by decide +kernel)
abbrev mX6_winter : zM := (yX6_winter, cX6_winter, 6, some .int)
theorem w_code_X6_winter : Cond.code mX6_winter.1 mX6_winter.2.1 mX6_winter.2.2.1 mX6_winter.2.2.2 ∈ lw_ok := lw_in 601 (by decide +kernel) (by decide +kernel)
theorem w_inst_X6_winter : Cond.instanceMethod yX6_winter ∈ lw_ok := lw_in 599 (by decide +kernel) (by decide +kernel)
theorem w_sel_X6_winter : Cond.selects RX6 yX6_winter yX6_winter ∈ lw_ok := lw_in 600 (by decide +kernel) (by decide +kernel)
abbrev mX4_draw : zM := (yX4_draw, cX4_draw, 4, none)
theorem w_code_X4_draw : Cond.code mX4_draw.1 mX4_draw.2.1 mX4_draw.2.2.1 mX4_draw.2.2.2 ∈ lw_ok := lw_in 606 (by decide +kernel) (by decide +kernel)
theorem w_inst_X4_draw : Cond.instanceMethod yX4_draw ∈ lw_ok := lw_in 604 (by decide +kernel) (by decide +kernel)
theorem w_sel_X4_draw : Cond.selects RX4 yX4_draw yX4_draw ∈ lw_ok := lw_in 605 (by decide +kernel) (by decide +kernel)
abbrev mX4_deepTogether : zM := (yX4_deepTogether, cX4_deepTogether, 3, some .int)
theorem w_code_X4_deepTogether : Cond.code mX4_deepTogether.1 mX4_deepTogether.2.1 mX4_deepTogether.2.2.1 mX4_deepTogether.2.2.2 ∈ lw_ok := lw_in 611 (by decide +kernel) (by decide +kernel)
theorem w_inst_X4_deepTogether : Cond.instanceMethod yX4_deepTogether ∈ lw_ok := lw_in 609 (by decide +kernel) (by decide +kernel)
theorem w_sel_X4_deepTogether : Cond.selects RX4 yX4_deepTogether yX4_deepTogether ∈ lw_ok := lw_in 610 (by decide +kernel) (by decide +kernel)
abbrev mX6_image : zM := (yX6_image, cX6_image, 2, some .int)
theorem w_code_X6_image : Cond.code mX6_image.1 mX6_image.2.1 mX6_image.2.2.1 mX6_image.2.2.2 ∈ lw_ok := lw_in 615 (by decide +kernel) (by decide +kernel)
theorem w_inst_X6_image : Cond.instanceMethod yX6_image ∈ lw_ok := lw_in 613 (by decide +kernel) (by decide +kernel)
theorem w_sel_X6_image : Cond.selects RX6 yX6_image yX6_image ∈ lw_ok := lw_in 614 (by decide +kernel) (by decide +kernel)
abbrev mX6_restore : zM := (yX6_restore, cX6_restore, 2, some .int)
theorem w_code_X6_restore : Cond.code mX6_restore.1 mX6_restore.2.1 mX6_restore.2.2.1 mX6_restore.2.2.2 ∈ lw_ok := lw_in 619 (by decide +kernel) (by decide +kernel)
theorem w_inst_X6_restore : Cond.instanceMethod yX6_restore ∈ lw_ok := lw_in 617 (by decide +kernel) (by decide +kernel)
theorem w_sel_X6_restore : Cond.selects RX6 yX6_restore yX6_restore ∈ lw_ok := lw_in 618 (by decide +kernel) (by decide +kernel)
abbrev mX6_told : zM := (yX6_told, cX6_told, 2, some .int)
theorem w_code_X6_told : Cond.code mX6_told.1 mX6_told.2.1 mX6_told.2.2.1 mX6_told.2.2.2 ∈ lw_ok := lw_in 623 (by decide +kernel) (by decide +kernel)
theorem w_inst_X6_told : Cond.instanceMethod yX6_told ∈ lw_ok := lw_in 621 (by decide +kernel) (by decide +kernel)
theorem w_sel_X6_told : Cond.selects RX6 yX6_told yX6_told ∈ lw_ok := lw_in 622 (by decide +kernel) (by decide +kernel)
abbrev mX7_init : zM := (yX7_init, cX7_init, 1, none)
theorem w_code_X7_init : Cond.code mX7_init.1 mX7_init.2.1 mX7_init.2.2.1 mX7_init.2.2.2 ∈ lw_ok := lw_in 628 (by decide +kernel) (by decide +kernel)
theorem w_inst_X7_init : Cond.instanceMethod yX7_init ∈ lw_ok := lw_in 627 (by decide +kernel) (by decide +kernel)
abbrev mX7_clear : zM := (yX7_clear, cX7_clear, 2, none)
theorem w_code_X7_clear : Cond.code mX7_clear.1 mX7_clear.2.1 mX7_clear.2.2.1 mX7_clear.2.2.2 ∈ lw_ok := lw_in 634 (by decide +kernel) (by decide +kernel)
theorem w_inst_X7_clear : Cond.instanceMethod yX7_clear ∈ lw_ok := lw_in 633 (by decide +kernel) (by decide +kernel)
theorem w_sel_X7_clear : Cond.selects RX7 yX7_clear yX7_clear ∈ lw_ok := lw_in 14 (by decide +kernel) (by decide +kernel)
abbrev mX7_gardens : zM := (yX7_gardens, cX7_gardens, 3, some .int)
theorem w_code_X7_gardens : Cond.code mX7_gardens.1 mX7_gardens.2.1 mX7_gardens.2.2.1 mX7_gardens.2.2.2 ∈ lw_ok := lw_in 757 (by decide +kernel) (by decide +kernel)
theorem w_inst_X7_gardens : Cond.instanceMethod yX7_gardens ∈ lw_ok := lw_in 755 (by decide +kernel) (by decide +kernel)
theorem w_sel_X7_gardens : Cond.selects RX7 yX7_gardens yX7_gardens ∈ lw_ok := lw_in 756 (by decide +kernel) (by decide +kernel)
abbrev mX7_in : zM := (yX7_in, cX7_in, 3, some .boolean)
theorem w_code_X7_in : Cond.code mX7_in.1 mX7_in.2.1 mX7_in.2.2.1 mX7_in.2.2.2 ∈ lw_ok := lw_in 760 (by decide +kernel) (by decide +kernel)
theorem w_stat_X7_in : Cond.static yX7_in ∈ lw_ok := lw_in 759 (by decide +kernel) (by decide +kernel)
abbrev mX7_garden : zM := (yX7_garden, cX7_garden, 5, some .int)
theorem w_code_X7_garden : Cond.code mX7_garden.1 mX7_garden.2.1 mX7_garden.2.2.1 mX7_garden.2.2.2 ∈ lw_ok := lw_in 764 (by decide +kernel) (by decide +kernel)
theorem w_inst_X7_garden : Cond.instanceMethod yX7_garden ∈ lw_ok := lw_in 762 (by decide +kernel) (by decide +kernel)
theorem w_sel_X7_garden : Cond.selects RX7 yX7_garden yX7_garden ∈ lw_ok := lw_in 763 (by decide +kernel) (by decide +kernel)
abbrev mX7_isGarden : zM := (yX7_isGarden, cX7_isGarden, 2, some .boolean)
theorem w_code_X7_isGarden : Cond.code mX7_isGarden.1 mX7_isGarden.2.1 mX7_isGarden.2.2.1 mX7_isGarden.2.2.2 ∈ lw_ok := lw_in 768 (by decide +kernel) (by decide +kernel)
theorem w_inst_X7_isGarden : Cond.instanceMethod yX7_isGarden ∈ lw_ok := lw_in 767 (by decide +kernel) (by decide +kernel)
theorem w_sel_X7_isGarden : Cond.selects RX7 yX7_isGarden yX7_isGarden ∈ lw_ok := lw_in 15 (by decide +kernel) (by decide +kernel)
abbrev mX7_set : zM := (yX7_set, cX7_set, 4, some .int)
theorem w_code_X7_set : Cond.code mX7_set.1 mX7_set.2.1 mX7_set.2.2.1 mX7_set.2.2.2 ∈ lw_ok := lw_in 772 (by decide +kernel) (by decide +kernel)
theorem w_inst_X7_set : Cond.instanceMethod yX7_set ∈ lw_ok := lw_in 770 (by decide +kernel) (by decide +kernel)
theorem w_sel_X7_set : Cond.selects RX7 yX7_set yX7_set ∈ lw_ok := lw_in 771 (by decide +kernel) (by decide +kernel)
abbrev mX7_say : zM := (yX7_say, cX7_say, 2, some .int)
theorem w_code_X7_say : Cond.code mX7_say.1 mX7_say.2.1 mX7_say.2.2.1 mX7_say.2.2.2 ∈ lw_ok := lw_in 776 (by decide +kernel) (by decide +kernel)
theorem w_inst_X7_say : Cond.instanceMethod yX7_say ∈ lw_ok := lw_in 774 (by decide +kernel) (by decide +kernel)
theorem w_sel_X7_say : Cond.selects RX7 yX7_say yX7_say ∈ lw_ok := lw_in 775 (by decide +kernel) (by decide +kernel)
abbrev mX7_wipe : zM := (yX7_wipe, cX7_wipe, 2, some .int)
theorem w_code_X7_wipe : Cond.code mX7_wipe.1 mX7_wipe.2.1 mX7_wipe.2.2.1 mX7_wipe.2.2.2 ∈ lw_ok := lw_in 780 (by decide +kernel) (by decide +kernel)
theorem w_inst_X7_wipe : Cond.instanceMethod yX7_wipe ∈ lw_ok := lw_in 778 (by decide +kernel) (by decide +kernel)
theorem w_sel_X7_wipe : Cond.selects RX7 yX7_wipe yX7_wipe ∈ lw_ok := lw_in 779 (by decide +kernel) (by decide +kernel)
abbrev mX7_fault : zM := (yX7_fault, cX7_fault, 1, some .int)
theorem w_code_X7_fault : Cond.code mX7_fault.1 mX7_fault.2.1 mX7_fault.2.2.1 mX7_fault.2.2.2 ∈ lw_ok := lw_in 784 (by decide +kernel) (by decide +kernel)
theorem w_inst_X7_fault : Cond.instanceMethod yX7_fault ∈ lw_ok := lw_in 782 (by decide +kernel) (by decide +kernel)
theorem w_sel_X7_fault : Cond.selects RX7 yX7_fault yX7_fault ∈ lw_ok := lw_in 783 (by decide +kernel) (by decide +kernel)
abbrev mX7_faultOf : zM := (yX7_faultOf, cX7_faultOf, 5, some .int)
theorem w_code_X7_faultOf : Cond.code mX7_faultOf.1 mX7_faultOf.2.1 mX7_faultOf.2.2.1 mX7_faultOf.2.2.2 ∈ lw_ok := lw_in 788 (by decide +kernel) (by decide +kernel)
theorem w_inst_X7_faultOf : Cond.instanceMethod yX7_faultOf ∈ lw_ok := lw_in 787 (by decide +kernel) (by decide +kernel)
theorem w_sel_X7_faultOf : Cond.selects RX7 yX7_faultOf yX7_faultOf ∈ lw_ok := lw_in 16 (by decide +kernel) (by decide +kernel)
abbrev mX7_judge : zM := (yX7_judge, cX7_judge, 3, some .int)
theorem w_code_X7_judge : Cond.code mX7_judge.1 mX7_judge.2.1 mX7_judge.2.2.1 mX7_judge.2.2.2 ∈ lw_ok := lw_in 792 (by decide +kernel) (by decide +kernel)
theorem w_inst_X7_judge : Cond.instanceMethod yX7_judge ∈ lw_ok := lw_in 790 (by decide +kernel) (by decide +kernel)
theorem w_sel_X7_judge : Cond.selects RX7 yX7_judge yX7_judge ∈ lw_ok := lw_in 791 (by decide +kernel) (by decide +kernel)
abbrev mX7_asNow : zM := (yX7_asNow, cX7_asNow, 2, none)
theorem w_code_X7_asNow : Cond.code mX7_asNow.1 mX7_asNow.2.1 mX7_asNow.2.2.1 mX7_asNow.2.2.2 ∈ lw_ok := lw_in 796 (by decide +kernel) (by decide +kernel)
theorem w_inst_X7_asNow : Cond.instanceMethod yX7_asNow ∈ lw_ok := lw_in 795 (by decide +kernel) (by decide +kernel)
theorem w_sel_X7_asNow : Cond.selects RX7 yX7_asNow yX7_asNow ∈ lw_ok := lw_in 17 (by decide +kernel) (by decide +kernel)
abbrev mX7_goTalk : zM := (yX7_goTalk, cX7_goTalk, 5, some .int)
theorem w_code_X7_goTalk : Cond.code mX7_goTalk.1 mX7_goTalk.2.1 mX7_goTalk.2.2.1 mX7_goTalk.2.2.2 ∈ lw_ok := lw_in 800 (by decide +kernel) (by decide +kernel)
theorem w_inst_X7_goTalk : Cond.instanceMethod yX7_goTalk ∈ lw_ok := lw_in 799 (by decide +kernel) (by decide +kernel)
theorem w_sel_X7_goTalk : Cond.selects RX7 yX7_goTalk yX7_goTalk ∈ lw_ok := lw_in 18 (by decide +kernel) (by decide +kernel)
abbrev mX7_night : zM := (yX7_night, cX7_night, 2, none)
theorem w_code_X7_night : Cond.code mX7_night.1 mX7_night.2.1 mX7_night.2.2.1 mX7_night.2.2.2 ∈ lw_ok := lw_in 804 (by decide +kernel) (by decide +kernel)
theorem w_inst_X7_night : Cond.instanceMethod yX7_night ∈ lw_ok := lw_in 803 (by decide +kernel) (by decide +kernel)
theorem w_sel_X7_night : Cond.selects RX7 yX7_night yX7_night ∈ lw_ok := lw_in 19 (by decide +kernel) (by decide +kernel)
abbrev mX7_thaw : zM := (yX7_thaw, cX7_thaw, 3, none)
theorem w_code_X7_thaw : Cond.code mX7_thaw.1 mX7_thaw.2.1 mX7_thaw.2.2.1 mX7_thaw.2.2.2 ∈ lw_ok := lw_in 808 (by decide +kernel) (by decide +kernel)
theorem w_inst_X7_thaw : Cond.instanceMethod yX7_thaw ∈ lw_ok := lw_in 807 (by decide +kernel) (by decide +kernel)
theorem w_sel_X7_thaw : Cond.selects RX7 yX7_thaw yX7_thaw ∈ lw_ok := lw_in 20 (by decide +kernel) (by decide +kernel)
abbrev mX7_isBare : zM := (yX7_isBare, cX7_isBare, 2, some .boolean)
theorem w_code_X7_isBare : Cond.code mX7_isBare.1 mX7_isBare.2.1 mX7_isBare.2.2.1 mX7_isBare.2.2.2 ∈ lw_ok := lw_in 812 (by decide +kernel) (by decide +kernel)
theorem w_inst_X7_isBare : Cond.instanceMethod yX7_isBare ∈ lw_ok := lw_in 811 (by decide +kernel) (by decide +kernel)
theorem w_sel_X7_isBare : Cond.selects RX7 yX7_isBare yX7_isBare ∈ lw_ok := lw_in 21 (by decide +kernel) (by decide +kernel)
abbrev mX7_salt : zM := (yX7_salt, cX7_salt, 2, none)
theorem w_code_X7_salt : Cond.code mX7_salt.1 mX7_salt.2.1 mX7_salt.2.2.1 mX7_salt.2.2.2 ∈ lw_ok := lw_in 816 (by decide +kernel) (by decide +kernel)
theorem w_inst_X7_salt : Cond.instanceMethod yX7_salt ∈ lw_ok := lw_in 815 (by decide +kernel) (by decide +kernel)
theorem w_sel_X7_salt : Cond.selects RX7 yX7_salt yX7_salt ∈ lw_ok := lw_in 22 (by decide +kernel) (by decide +kernel)
abbrev mX7_less : zM := (yX7_less, cX7_less, 2, some .int)
theorem w_code_X7_less : Cond.code mX7_less.1 mX7_less.2.1 mX7_less.2.2.1 mX7_less.2.2.2 ∈ lw_ok := lw_in 819 (by decide +kernel) (by decide +kernel)
theorem w_stat_X7_less : Cond.static yX7_less ∈ lw_ok := lw_in 818 (by decide +kernel) (by decide +kernel)
abbrev mX7_whyNot : zM := (yX7_whyNot, cX7_whyNot, 4, some .int)
theorem w_code_X7_whyNot : Cond.code mX7_whyNot.1 mX7_whyNot.2.1 mX7_whyNot.2.2.1 mX7_whyNot.2.2.2 ∈ lw_ok := lw_in 823 (by decide +kernel) (by decide +kernel)
theorem w_inst_X7_whyNot : Cond.instanceMethod yX7_whyNot ∈ lw_ok := lw_in 822 (by decide +kernel) (by decide +kernel)
theorem w_sel_X7_whyNot : Cond.selects RX7 yX7_whyNot yX7_whyNot ∈ lw_ok := lw_in 23 (by decide +kernel) (by decide +kernel)
abbrev mX7_flakesOf : zM := (yX7_flakesOf, cX7_flakesOf, 4, some .int)
theorem w_code_X7_flakesOf : Cond.code mX7_flakesOf.1 mX7_flakesOf.2.1 mX7_flakesOf.2.2.1 mX7_flakesOf.2.2.2 ∈ lw_ok := lw_in 827 (by decide +kernel) (by decide +kernel)
theorem w_inst_X7_flakesOf : Cond.instanceMethod yX7_flakesOf ∈ lw_ok := lw_in 826 (by decide +kernel) (by decide +kernel)
theorem w_sel_X7_flakesOf : Cond.selects RX7 yX7_flakesOf yX7_flakesOf ∈ lw_ok := lw_in 24 (by decide +kernel) (by decide +kernel)
abbrev mX7_has : zM := (yX7_has, cX7_has, 2, some .boolean)
theorem w_code_X7_has : Cond.code mX7_has.1 mX7_has.2.1 mX7_has.2.2.1 mX7_has.2.2.2 ∈ lw_ok := lw_in 830 (by decide +kernel) (by decide +kernel)
theorem w_stat_X7_has : Cond.static yX7_has ∈ lw_ok := lw_in 829 (by decide +kernel) (by decide +kernel)
abbrev mX7_speak : zM := (yX7_speak, cX7_speak, 4, none)
theorem w_code_X7_speak : Cond.code mX7_speak.1 mX7_speak.2.1 mX7_speak.2.2.1 mX7_speak.2.2.2 ∈ lw_ok := lw_in 834 (by decide +kernel) (by decide +kernel)
theorem w_inst_X7_speak : Cond.instanceMethod yX7_speak ∈ lw_ok := lw_in 833 (by decide +kernel) (by decide +kernel)
theorem w_sel_X7_speak : Cond.selects RX7 yX7_speak yX7_speak ∈ lw_ok := lw_in 25 (by decide +kernel) (by decide +kernel)
abbrev mX7_snow : zM := (yX7_snow, cX7_snow, 5, none)
theorem w_code_X7_snow : Cond.code mX7_snow.1 mX7_snow.2.1 mX7_snow.2.2.1 mX7_snow.2.2.2 ∈ lw_ok := lw_in 838 (by decide +kernel) (by decide +kernel)
theorem w_inst_X7_snow : Cond.instanceMethod yX7_snow ∈ lw_ok := lw_in 837 (by decide +kernel) (by decide +kernel)
theorem w_sel_X7_snow : Cond.selects RX7 yX7_snow yX7_snow ∈ lw_ok := lw_in 26 (by decide +kernel) (by decide +kernel)
abbrev mX7_collapse : zM := (yX7_collapse, cX7_collapse, 2, none)
theorem w_code_X7_collapse : Cond.code mX7_collapse.1 mX7_collapse.2.1 mX7_collapse.2.2.1 mX7_collapse.2.2.2 ∈ lw_ok := lw_in 842 (by decide +kernel) (by decide +kernel)
theorem w_inst_X7_collapse : Cond.instanceMethod yX7_collapse ∈ lw_ok := lw_in 841 (by decide +kernel) (by decide +kernel)
theorem w_sel_X7_collapse : Cond.selects RX7 yX7_collapse yX7_collapse ∈ lw_ok := lw_in 27 (by decide +kernel) (by decide +kernel)
abbrev mX7_done : zM := (yX7_done, cX7_done, 2, some .int)
theorem w_code_X7_done : Cond.code mX7_done.1 mX7_done.2.1 mX7_done.2.2.1 mX7_done.2.2.2 ∈ lw_ok := lw_in 846 (by decide +kernel) (by decide +kernel)
theorem w_inst_X7_done : Cond.instanceMethod yX7_done ∈ lw_ok := lw_in 844 (by decide +kernel) (by decide +kernel)
theorem w_sel_X7_done : Cond.selects RX7 yX7_done yX7_done ∈ lw_ok := lw_in 845 (by decide +kernel) (by decide +kernel)
abbrev mX7_barOfTalk : zM := (yX7_barOfTalk, cX7_barOfTalk, 1, some .int)
theorem w_code_X7_barOfTalk : Cond.code mX7_barOfTalk.1 mX7_barOfTalk.2.1 mX7_barOfTalk.2.2.1 mX7_barOfTalk.2.2.2 ∈ lw_ok := lw_in 850 (by decide +kernel) (by decide +kernel)
theorem w_inst_X7_barOfTalk : Cond.instanceMethod yX7_barOfTalk ∈ lw_ok := lw_in 849 (by decide +kernel) (by decide +kernel)
theorem w_sel_X7_barOfTalk : Cond.selects RX7 yX7_barOfTalk yX7_barOfTalk ∈ lw_ok := lw_in 28 (by decide +kernel) (by decide +kernel)
abbrev mX7_state : zM := (yX7_state, cX7_state, 3, some .int)
theorem w_code_X7_state : Cond.code mX7_state.1 mX7_state.2.1 mX7_state.2.2.1 mX7_state.2.2.2 ∈ lw_ok := lw_in 854 (by decide +kernel) (by decide +kernel)
theorem w_inst_X7_state : Cond.instanceMethod yX7_state ∈ lw_ok := lw_in 852 (by decide +kernel) (by decide +kernel)
theorem w_sel_X7_state : Cond.selects RX7 yX7_state yX7_state ∈ lw_ok := lw_in 853 (by decide +kernel) (by decide +kernel)
abbrev mX7_behind : zM := (yX7_behind, cX7_behind, 3, some .int)
theorem w_code_X7_behind : Cond.code mX7_behind.1 mX7_behind.2.1 mX7_behind.2.2.1 mX7_behind.2.2.2 ∈ lw_ok := lw_in 858 (by decide +kernel) (by decide +kernel)
theorem w_inst_X7_behind : Cond.instanceMethod yX7_behind ∈ lw_ok := lw_in 856 (by decide +kernel) (by decide +kernel)
theorem w_sel_X7_behind : Cond.selects RX7 yX7_behind yX7_behind ∈ lw_ok := lw_in 857 (by decide +kernel) (by decide +kernel)
abbrev mX7_first : zM := (yX7_first, cX7_first, 1, some .int)
theorem w_code_X7_first : Cond.code mX7_first.1 mX7_first.2.1 mX7_first.2.2.1 mX7_first.2.2.2 ∈ lw_ok := lw_in 862 (by decide +kernel) (by decide +kernel)
theorem w_inst_X7_first : Cond.instanceMethod yX7_first ∈ lw_ok := lw_in 860 (by decide +kernel) (by decide +kernel)
theorem w_sel_X7_first : Cond.selects RX7 yX7_first yX7_first ∈ lw_ok := lw_in 861 (by decide +kernel) (by decide +kernel)
abbrev mX7_recognised : zM := (yX7_recognised, cX7_recognised, 5, some .int)
theorem w_code_X7_recognised : Cond.code mX7_recognised.1 mX7_recognised.2.1 mX7_recognised.2.2.1 mX7_recognised.2.2.2 ∈ lw_ok := lw_in 866 (by decide +kernel) (by decide +kernel)
theorem w_inst_X7_recognised : Cond.instanceMethod yX7_recognised ∈ lw_ok := lw_in 864 (by decide +kernel) (by decide +kernel)
theorem w_sel_X7_recognised : Cond.selects RX7 yX7_recognised yX7_recognised ∈ lw_ok := lw_in 865 (by decide +kernel) (by decide +kernel)
abbrev mX7_where : zM := (yX7_where, cX7_where, 8, some .int)
theorem w_code_X7_where : Cond.code mX7_where.1 mX7_where.2.1 mX7_where.2.2.1 mX7_where.2.2.2 ∈ lw_ok := lw_in 870 (by decide +kernel) (by decide +kernel)
theorem w_inst_X7_where : Cond.instanceMethod yX7_where ∈ lw_ok := lw_in 868 (by decide +kernel) (by decide +kernel)
theorem w_sel_X7_where : Cond.selects RX7 yX7_where yX7_where ∈ lw_ok := lw_in 869 (by decide +kernel) (by decide +kernel)
abbrev mX7_isPlain : zM := (yX7_isPlain, cX7_isPlain, 3, some .boolean)
theorem w_code_X7_isPlain : Cond.code mX7_isPlain.1 mX7_isPlain.2.1 mX7_isPlain.2.2.1 mX7_isPlain.2.2.2 ∈ lw_ok := lw_in 874 (by decide +kernel) (by decide +kernel)
theorem w_inst_X7_isPlain : Cond.instanceMethod yX7_isPlain ∈ lw_ok := lw_in 873 (by decide +kernel) (by decide +kernel)
theorem w_sel_X7_isPlain : Cond.selects RX7 yX7_isPlain yX7_isPlain ∈ lw_ok := lw_in 29 (by decide +kernel) (by decide +kernel)
abbrev mX7_unsaid : zM := (yX7_unsaid, cX7_unsaid, 5, some .int)
theorem w_code_X7_unsaid : Cond.code mX7_unsaid.1 mX7_unsaid.2.1 mX7_unsaid.2.2.1 mX7_unsaid.2.2.2 ∈ lw_ok := lw_in 879 (by decide +kernel) (by decide +kernel)
theorem w_inst_X7_unsaid : Cond.instanceMethod yX7_unsaid ∈ lw_ok := lw_in 878 (by decide +kernel) (by decide +kernel)
theorem w_sel_X7_unsaid : Cond.selects RX7 yX7_unsaid yX7_unsaid ∈ lw_ok := lw_in 30 (by decide +kernel) (by decide +kernel)
abbrev mX7_cleared : zM := (yX7_cleared, cX7_cleared, 5, some .int)
theorem w_code_X7_cleared : Cond.code mX7_cleared.1 mX7_cleared.2.1 mX7_cleared.2.2.1 mX7_cleared.2.2.2 ∈ lw_ok := lw_in 883 (by decide +kernel) (by decide +kernel)
theorem w_inst_X7_cleared : Cond.instanceMethod yX7_cleared ∈ lw_ok := lw_in 881 (by decide +kernel) (by decide +kernel)
theorem w_sel_X7_cleared : Cond.selects RX7 yX7_cleared yX7_cleared ∈ lw_ok := lw_in 882 (by decide +kernel) (by decide +kernel)
abbrev mX7_salted : zM := (yX7_salted, cX7_salted, 8, some .int)
theorem w_code_X7_salted : Cond.code mX7_salted.1 mX7_salted.2.1 mX7_salted.2.2.1 mX7_salted.2.2.2 ∈ lw_ok := lw_in 887 (by decide +kernel) (by decide +kernel)
theorem w_inst_X7_salted : Cond.instanceMethod yX7_salted ∈ lw_ok := lw_in 885 (by decide +kernel) (by decide +kernel)
theorem w_sel_X7_salted : Cond.selects RX7 yX7_salted yX7_salted ∈ lw_ok := lw_in 886 (by decide +kernel) (by decide +kernel)
abbrev mX7_slide : zM := (yX7_slide, cX7_slide, 5, some .int)
theorem w_code_X7_slide : Cond.code mX7_slide.1 mX7_slide.2.1 mX7_slide.2.2.1 mX7_slide.2.2.2 ∈ lw_ok := lw_in 891 (by decide +kernel) (by decide +kernel)
theorem w_inst_X7_slide : Cond.instanceMethod yX7_slide ∈ lw_ok := lw_in 889 (by decide +kernel) (by decide +kernel)
theorem w_sel_X7_slide : Cond.selects RX7 yX7_slide yX7_slide ∈ lw_ok := lw_in 890 (by decide +kernel) (by decide +kernel)
abbrev mX7_slideOf : zM := (yX7_slideOf, cX7_slideOf, 4, some .int)
theorem w_code_X7_slideOf : Cond.code mX7_slideOf.1 mX7_slideOf.2.1 mX7_slideOf.2.2.1 mX7_slideOf.2.2.2 ∈ lw_ok := lw_in 895 (by decide +kernel) (by decide +kernel)
theorem w_inst_X7_slideOf : Cond.instanceMethod yX7_slideOf ∈ lw_ok := lw_in 894 (by decide +kernel) (by decide +kernel)
theorem w_sel_X7_slideOf : Cond.selects RX7 yX7_slideOf yX7_slideOf ∈ lw_ok := lw_in 31 (by decide +kernel) (by decide +kernel)
abbrev mX7_holds : zM := (yX7_holds, cX7_holds, 3, some .int)
theorem w_code_X7_holds : Cond.code mX7_holds.1 mX7_holds.2.1 mX7_holds.2.2.1 mX7_holds.2.2.2 ∈ lw_ok := lw_in 899 (by decide +kernel) (by decide +kernel)
theorem w_inst_X7_holds : Cond.instanceMethod yX7_holds ∈ lw_ok := lw_in 897 (by decide +kernel) (by decide +kernel)
theorem w_sel_X7_holds : Cond.selects RX7 yX7_holds yX7_holds ∈ lw_ok := lw_in 898 (by decide +kernel) (by decide +kernel)
abbrev mX7_seen : zM := (yX7_seen, cX7_seen, 3, some .int)
theorem w_code_X7_seen : Cond.code mX7_seen.1 mX7_seen.2.1 mX7_seen.2.2.1 mX7_seen.2.2.2 ∈ lw_ok := lw_in 903 (by decide +kernel) (by decide +kernel)
theorem w_inst_X7_seen : Cond.instanceMethod yX7_seen ∈ lw_ok := lw_in 901 (by decide +kernel) (by decide +kernel)
theorem w_sel_X7_seen : Cond.selects RX7 yX7_seen yX7_seen ∈ lw_ok := lw_in 902 (by decide +kernel) (by decide +kernel)
abbrev mX7_forget : zM := (yX7_forget, cX7_forget, 2, some .int)
theorem w_code_X7_forget : Cond.code mX7_forget.1 mX7_forget.2.1 mX7_forget.2.2.1 mX7_forget.2.2.2 ∈ lw_ok := lw_in 907 (by decide +kernel) (by decide +kernel)
theorem w_inst_X7_forget : Cond.instanceMethod yX7_forget ∈ lw_ok := lw_in 905 (by decide +kernel) (by decide +kernel)
theorem w_sel_X7_forget : Cond.selects RX7 yX7_forget yX7_forget ∈ lw_ok := lw_in 906 (by decide +kernel) (by decide +kernel)
abbrev mX7_who : zM := (yX7_who, cX7_who, 3, some .int)
theorem w_code_X7_who : Cond.code mX7_who.1 mX7_who.2.1 mX7_who.2.2.1 mX7_who.2.2.2 ∈ lw_ok := lw_in 911 (by decide +kernel) (by decide +kernel)
theorem w_inst_X7_who : Cond.instanceMethod yX7_who ∈ lw_ok := lw_in 909 (by decide +kernel) (by decide +kernel)
theorem w_sel_X7_who : Cond.selects RX7 yX7_who yX7_who ∈ lw_ok := lw_in 910 (by decide +kernel) (by decide +kernel)
abbrev mX7_layWho : zM := (yX7_layWho, cX7_layWho, 8, none)
theorem w_code_X7_layWho : Cond.code mX7_layWho.1 mX7_layWho.2.1 mX7_layWho.2.2.1 mX7_layWho.2.2.2 ∈ lw_ok := lw_in 915 (by decide +kernel) (by decide +kernel)
theorem w_inst_X7_layWho : Cond.instanceMethod yX7_layWho ∈ lw_ok := lw_in 914 (by decide +kernel) (by decide +kernel)
theorem w_sel_X7_layWho : Cond.selects RX7 yX7_layWho yX7_layWho ∈ lw_ok := lw_in 32 (by decide +kernel) (by decide +kernel)
abbrev mX7_holdsNow : zM := (yX7_holdsNow, cX7_holdsNow, 3, some .boolean)
theorem w_code_X7_holdsNow : Cond.code mX7_holdsNow.1 mX7_holdsNow.2.1 mX7_holdsNow.2.2.1 mX7_holdsNow.2.2.2 ∈ lw_ok := lw_in 919 (by decide +kernel) (by decide +kernel)
theorem w_inst_X7_holdsNow : Cond.instanceMethod yX7_holdsNow ∈ lw_ok := lw_in 918 (by decide +kernel) (by decide +kernel)
theorem w_sel_X7_holdsNow : Cond.selects RX7 yX7_holdsNow yX7_holdsNow ∈ lw_ok := lw_in 33 (by decide +kernel) (by decide +kernel)
abbrev mX7_next : zM := (yX7_next, cX7_next, 9, some .int)
theorem w_code_X7_next : Cond.code mX7_next.1 mX7_next.2.1 mX7_next.2.2.1 mX7_next.2.2.2 ∈ lw_ok := lw_in 923 (by decide +kernel) (by decide +kernel)
theorem w_inst_X7_next : Cond.instanceMethod yX7_next ∈ lw_ok := lw_in 921 (by decide +kernel) (by decide +kernel)
theorem w_sel_X7_next : Cond.selects RX7 yX7_next yX7_next ∈ lw_ok := lw_in 922 (by decide +kernel) (by decide +kernel)
abbrev mX7_isSeen : zM := (yX7_isSeen, cX7_isSeen, 4, some .boolean)
theorem w_code_X7_isSeen : Cond.code mX7_isSeen.1 mX7_isSeen.2.1 mX7_isSeen.2.2.1 mX7_isSeen.2.2.2 ∈ lw_ok := lw_in 927 (by decide +kernel) (by decide +kernel)
theorem w_inst_X7_isSeen : Cond.instanceMethod yX7_isSeen ∈ lw_ok := lw_in 926 (by decide +kernel) (by decide +kernel)
theorem w_sel_X7_isSeen : Cond.selects RX7 yX7_isSeen yX7_isSeen ∈ lw_ok := lw_in 34 (by decide +kernel) (by decide +kernel)
abbrev mX7_laws : zM := (yX7_laws, cX7_laws, 4, some .int)
theorem w_code_X7_laws : Cond.code mX7_laws.1 mX7_laws.2.1 mX7_laws.2.2.1 mX7_laws.2.2.2 ∈ lw_ok := lw_in 931 (by decide +kernel) (by decide +kernel)
theorem w_inst_X7_laws : Cond.instanceMethod yX7_laws ∈ lw_ok := lw_in 929 (by decide +kernel) (by decide +kernel)
theorem w_sel_X7_laws : Cond.selects RX7 yX7_laws yX7_laws ∈ lw_ok := lw_in 930 (by decide +kernel) (by decide +kernel)
abbrev mX7_isLaw : zM := (yX7_isLaw, cX7_isLaw, 3, some .boolean)
theorem w_code_X7_isLaw : Cond.code mX7_isLaw.1 mX7_isLaw.2.1 mX7_isLaw.2.2.1 mX7_isLaw.2.2.2 ∈ lw_ok := lw_in 935 (by decide +kernel) (by decide +kernel)
theorem w_inst_X7_isLaw : Cond.instanceMethod yX7_isLaw ∈ lw_ok := lw_in 934 (by decide +kernel) (by decide +kernel)
theorem w_sel_X7_isLaw : Cond.selects RX7 yX7_isLaw yX7_isLaw ∈ lw_ok := lw_in 35 (by decide +kernel) (by decide +kernel)
abbrev mX7_guests : zM := (yX7_guests, cX7_guests, 15, some .long)
theorem w_code_X7_guests : Cond.code mX7_guests.1 mX7_guests.2.1 mX7_guests.2.2.1 mX7_guests.2.2.2 ∈ lw_ok := lw_in 939 (by decide +kernel) (by decide +kernel)
theorem w_inst_X7_guests : Cond.instanceMethod yX7_guests ∈ lw_ok := lw_in 937 (by decide +kernel) (by decide +kernel)
theorem w_sel_X7_guests : Cond.selects RX7 yX7_guests yX7_guests ∈ lw_ok := lw_in 938 (by decide +kernel) (by decide +kernel)
abbrev mX7_bearing : zM := (yX7_bearing, cX7_bearing, 12, some .long)
theorem w_code_X7_bearing : Cond.code mX7_bearing.1 mX7_bearing.2.1 mX7_bearing.2.2.1 mX7_bearing.2.2.2 ∈ lw_ok := lw_in 945 (by decide +kernel) (by decide +kernel)
theorem w_inst_X7_bearing : Cond.instanceMethod yX7_bearing ∈ lw_ok := lw_in 944 (by decide +kernel) (by decide +kernel)
theorem w_sel_X7_bearing : Cond.selects RX7 yX7_bearing yX7_bearing ∈ lw_ok := lw_in 36 (by decide +kernel) (by decide +kernel)
abbrev mX7_tens : zM := (yX7_tens, cX7_tens, 4, some .long)
theorem w_code_X7_tens : Cond.code mX7_tens.1 mX7_tens.2.1 mX7_tens.2.2.1 mX7_tens.2.2.2 ∈ lw_ok := lw_in 948 (by decide +kernel) (by decide +kernel)
theorem w_stat_X7_tens : Cond.static yX7_tens ∈ lw_ok := lw_in 947 (by decide +kernel) (by decide +kernel)
abbrev mX7_build : zM := (yX7_build, cX7_build, 8, some .int)
theorem w_code_X7_build : Cond.code mX7_build.1 mX7_build.2.1 mX7_build.2.2.1 mX7_build.2.2.2 ∈ lw_ok := lw_in 953 (by decide +kernel) (by decide +kernel)
theorem w_inst_X7_build : Cond.instanceMethod yX7_build ∈ lw_ok := lw_in 951 (by decide +kernel) (by decide +kernel)
theorem w_sel_X7_build : Cond.selects RX7 yX7_build yX7_build ∈ lw_ok := lw_in 952 (by decide +kernel) (by decide +kernel)
abbrev mX7_elsewhere : zM := (yX7_elsewhere, cX7_elsewhere, 9, some .int)
theorem w_code_X7_elsewhere : Cond.code mX7_elsewhere.1 mX7_elsewhere.2.1 mX7_elsewhere.2.2.1 mX7_elsewhere.2.2.2 ∈ lw_ok := lw_in 957 (by decide +kernel) (by decide +kernel)
theorem w_inst_X7_elsewhere : Cond.instanceMethod yX7_elsewhere ∈ lw_ok := lw_in 955 (by decide +kernel) (by decide +kernel)
theorem w_sel_X7_elsewhere : Cond.selects RX7 yX7_elsewhere yX7_elsewhere ∈ lw_ok := lw_in 956 (by decide +kernel) (by decide +kernel)
abbrev mX7_others : zM := (yX7_others, cX7_others, 5, some .int)
theorem w_code_X7_others : Cond.code mX7_others.1 mX7_others.2.1 mX7_others.2.2.1 mX7_others.2.2.2 ∈ lw_ok := lw_in 961 (by decide +kernel) (by decide +kernel)
theorem w_inst_X7_others : Cond.instanceMethod yX7_others ∈ lw_ok := lw_in 960 (by decide +kernel) (by decide +kernel)
theorem w_sel_X7_others : Cond.selects RX7 yX7_others yX7_others ∈ lw_ok := lw_in 37 (by decide +kernel) (by decide +kernel)
abbrev mX7_winter : zM := (yX7_winter, cX7_winter, 10, some .int)
theorem w_code_X7_winter : Cond.code mX7_winter.1 mX7_winter.2.1 mX7_winter.2.2.1 mX7_winter.2.2.2 ∈ lw_ok := lw_in 965 (by decide +kernel) (by decide +kernel)
theorem w_inst_X7_winter : Cond.instanceMethod yX7_winter ∈ lw_ok := lw_in 963 (by decide +kernel) (by decide +kernel)
theorem w_sel_X7_winter : Cond.selects RX7 yX7_winter yX7_winter ∈ lw_ok := lw_in 964 (by decide +kernel) (by decide +kernel)
abbrev mX7_image : zM := (yX7_image, cX7_image, 4, some .int)
theorem w_code_X7_image : Cond.code mX7_image.1 mX7_image.2.1 mX7_image.2.2.1 mX7_image.2.2.2 ∈ lw_ok := lw_in 970 (by decide +kernel) (by decide +kernel)
theorem w_inst_X7_image : Cond.instanceMethod yX7_image ∈ lw_ok := lw_in 968 (by decide +kernel) (by decide +kernel)
theorem w_sel_X7_image : Cond.selects RX7 yX7_image yX7_image ∈ lw_ok := lw_in 969 (by decide +kernel) (by decide +kernel)
abbrev mX7_restore : zM := (yX7_restore, cX7_restore, 4, some .int)
theorem w_code_X7_restore : Cond.code mX7_restore.1 mX7_restore.2.1 mX7_restore.2.2.1 mX7_restore.2.2.2 ∈ lw_ok := lw_in 974 (by decide +kernel) (by decide +kernel)
theorem w_inst_X7_restore : Cond.instanceMethod yX7_restore ∈ lw_ok := lw_in 972 (by decide +kernel) (by decide +kernel)
theorem w_sel_X7_restore : Cond.selects RX7 yX7_restore yX7_restore ∈ lw_ok := lw_in 973 (by decide +kernel) (by decide +kernel)
abbrev mX7_told : zM := (yX7_told, cX7_told, 2, some .int)
theorem w_code_X7_told : Cond.code mX7_told.1 mX7_told.2.1 mX7_told.2.2.1 mX7_told.2.2.2 ∈ lw_ok := lw_in 978 (by decide +kernel) (by decide +kernel)
theorem w_inst_X7_told : Cond.instanceMethod yX7_told ∈ lw_ok := lw_in 976 (by decide +kernel) (by decide +kernel)
theorem w_sel_X7_told : Cond.selects RX7 yX7_told yX7_told ∈ lw_ok := lw_in 977 (by decide +kernel) (by decide +kernel)
theorem w_init_L : Cond.initialized RL ∈ lw_ok := lw_in 38 (by decide +kernel) (by decide +kernel)
theorem w_init_X6 : Cond.initialized RX6 ∈ lw_ok := lw_in 39 (by decide +kernel) (by decide +kernel)
theorem w_init_X4 : Cond.initialized RX4 ∈ lw_ok := lw_in 40 (by decide +kernel) (by decide +kernel)
theorem w_init_J7 : Cond.initialized RJ7 ∈ lw_ok := lw_in 41 (by decide +kernel) (by decide +kernel)
theorem w_init_X5 : Cond.initialized RX5 ∈ lw_ok := lw_in 42 (by decide +kernel) (by decide +kernel)
theorem w_init_X1 : Cond.initialized RX1 ∈ lw_ok := lw_in 43 (by decide +kernel) (by decide +kernel)
theorem w_init_X3 : Cond.initialized RX3 ∈ lw_ok := lw_in 44 (by decide +kernel) (by decide +kernel)
theorem w_init_X2 : Cond.initialized RX2 ∈ lw_ok := lw_in 45 (by decide +kernel) (by decide +kernel)
theorem w_init_X0 : Cond.initialized RX0 ∈ lw_ok := lw_in 46 (by decide +kernel) (by decide +kernel)
theorem w_init_X7 : Cond.initialized RX7 ∈ lw_ok := lw_in 47 (by decide +kernel) (by decide +kernel)
theorem inX0 : ∀ w ∈ u_ws RX0 TX0 2, w ∈ lw_ok := zin_list [260, 262] (by decide +kernel) (by decide +kernel)
theorem dfX0 : ∀ (base j : Nat), j < 2 → defaultValue (tyX0 j) = zf base 0 j none 0 := by
  intro base j hj
  have h : ∀ j, j < 2 → (tyX0 j = .int ∨ (defaultValue (tyX0 j) = .null ∧ tyX0 j ≠ .int)) := by decide +kernel
  have e : zf base 0 j none 0 = (match tyX0 j with | .int => .int (Int32.ofInt 0) | _ => va_rf ((none : Option Nat).map (fun k => base + k))) := rfl
  rw [e]
  rcases h j hj with h1 | ⟨h1, h2⟩
  · rw [h1]; rfl
  · rw [h1]; split
    · contradiction
    · rfl
theorem inX1 : ∀ w ∈ u_ws RX1 TX1 3, w ∈ lw_ok := zin_list [191, 193, 195] (by decide +kernel) (by decide +kernel)
theorem dfX1 : ∀ (base j : Nat), j < 3 → defaultValue (tyX1 j) = zf base 1 j none 0 := by
  intro base j hj
  have h : ∀ j, j < 3 → (tyX1 j = .int ∨ (defaultValue (tyX1 j) = .null ∧ tyX1 j ≠ .int)) := by decide +kernel
  have e : zf base 1 j none 0 = (match tyX1 j with | .int => .int (Int32.ofInt 0) | _ => va_rf ((none : Option Nat).map (fun k => base + k))) := rfl
  rw [e]
  rcases h j hj with h1 | ⟨h1, h2⟩
  · rw [h1]; rfl
  · rw [h1]; split
    · contradiction
    · rfl
theorem inX2 : ∀ w ∈ u_ws RX2 TX2 8, w ∈ lw_ok := zin_list [234, 236, 238, 240, 242, 244, 246, 248] (by decide +kernel) (by decide +kernel)
theorem dfX2 : ∀ (base j : Nat), j < 8 → defaultValue (tyX2 j) = zf base 2 j none 0 := by
  intro base j hj
  have h : ∀ j, j < 8 → (tyX2 j = .int ∨ (defaultValue (tyX2 j) = .null ∧ tyX2 j ≠ .int)) := by decide +kernel
  have e : zf base 2 j none 0 = (match tyX2 j with | .int => .int (Int32.ofInt 0) | _ => va_rf ((none : Option Nat).map (fun k => base + k))) := rfl
  rw [e]
  rcases h j hj with h1 | ⟨h1, h2⟩
  · rw [h1]; rfl
  · rw [h1]; split
    · contradiction
    · rfl
theorem inX3 : ∀ w ∈ u_ws RX3 TX3 4, w ∈ lw_ok := zin_list [208, 210, 212, 214] (by decide +kernel) (by decide +kernel)
theorem dfX3 : ∀ (base j : Nat), j < 4 → defaultValue (tyX3 j) = zf base 3 j none 0 := by
  intro base j hj
  have h : ∀ j, j < 4 → (tyX3 j = .int ∨ (defaultValue (tyX3 j) = .null ∧ tyX3 j ≠ .int)) := by decide +kernel
  have e : zf base 3 j none 0 = (match tyX3 j with | .int => .int (Int32.ofInt 0) | _ => va_rf ((none : Option Nat).map (fun k => base + k))) := rfl
  rw [e]
  rcases h j hj with h1 | ⟨h1, h2⟩
  · rw [h1]; rfl
  · rw [h1]; split
    · contradiction
    · rfl
theorem inX4 : ∀ w ∈ u_ws RX4 TX4 11, w ∈ lw_ok := zin_list [116, 118, 120, 122, 124, 126, 128, 130, 132, 134, 136] (by decide +kernel) (by decide +kernel)
theorem dfX4 : ∀ (base j : Nat), j < 11 → defaultValue (tyX4 j) = zf base 4 j none 0 := by
  intro base j hj
  have h : ∀ j, j < 11 → (tyX4 j = .int ∨ (defaultValue (tyX4 j) = .null ∧ tyX4 j ≠ .int)) := by decide +kernel
  have e : zf base 4 j none 0 = (match tyX4 j with | .int => .int (Int32.ofInt 0) | _ => va_rf ((none : Option Nat).map (fun k => base + k))) := rfl
  rw [e]
  rcases h j hj with h1 | ⟨h1, h2⟩
  · rw [h1]; rfl
  · rw [h1]; split
    · contradiction
    · rfl
theorem inX5 : ∀ w ∈ u_ws RX5 TX5 8, w ∈ lw_ok := zin_list [163, 165, 167, 169, 171, 173, 175, 177] (by decide +kernel) (by decide +kernel)
theorem dfX5 : ∀ (base j : Nat), j < 8 → defaultValue (tyX5 j) = zf base 5 j none 0 := by
  intro base j hj
  have h : ∀ j, j < 8 → (tyX5 j = .int ∨ (defaultValue (tyX5 j) = .null ∧ tyX5 j ≠ .int)) := by decide +kernel
  have e : zf base 5 j none 0 = (match tyX5 j with | .int => .int (Int32.ofInt 0) | _ => va_rf ((none : Option Nat).map (fun k => base + k))) := rfl
  rw [e]
  rcases h j hj with h1 | ⟨h1, h2⟩
  · rw [h1]; rfl
  · rw [h1]; split
    · contradiction
    · rfl
theorem inX6 : ∀ w ∈ u_ws RX6 TX6 8, w ∈ lw_ok := zin_list [273, 275, 277, 279, 281, 283, 285, 287] (by decide +kernel) (by decide +kernel)
theorem dfX6 : ∀ (base j : Nat), j < 8 → defaultValue (tyX6 j) = zf base 6 j none 0 := by
  intro base j hj
  have h : ∀ j, j < 8 → (tyX6 j = .int ∨ (defaultValue (tyX6 j) = .null ∧ tyX6 j ≠ .int)) := by decide +kernel
  have e : zf base 6 j none 0 = (match tyX6 j with | .int => .int (Int32.ofInt 0) | _ => va_rf ((none : Option Nat).map (fun k => base + k))) := rfl
  rw [e]
  rcases h j hj with h1 | ⟨h1, h2⟩
  · rw [h1]; rfl
  · rw [h1]; split
    · contradiction
    · rfl
theorem inX7 : ∀ w ∈ u_ws RX7 TX7 39, w ∈ lw_ok := zin_list [674, 676, 678, 680, 682, 684, 686, 688, 690, 692, 694, 696, 698, 700, 702, 704, 706, 708, 710, 712, 714, 716, 718, 720, 722, 724, 726, 728, 730, 732, 734, 736, 738, 740, 742, 744, 746, 748, 750] (by decide +kernel) (by decide +kernel)
theorem dfX7 : ∀ (base j : Nat), j < 39 → defaultValue (tyX7 j) = zf base 7 j none 0 := by
  intro base j hj
  have h : ∀ j, j < 39 → (tyX7 j = .int ∨ (defaultValue (tyX7 j) = .null ∧ tyX7 j ≠ .int)) := by decide +kernel
  have e : zf base 7 j none 0 = (match tyX7 j with | .int => .int (Int32.ofInt 0) | _ => va_rf ((none : Option Nat).map (fun k => base + k))) := rfl
  rw [e]
  rcases h j hj with h1 | ⟨h1, h2⟩
  · rw [h1]; rfl
  · rw [h1]; split
    · contradiction
    · rfl
theorem w_insb_X6 : Cond.instantiable RX6 8 ∈ lw_ok := lw_in 51 (by decide +kernel) (by decide +kernel)
theorem w_insb_X4 : Cond.instantiable RX4 11 ∈ lw_ok := lw_in 59 (by decide +kernel) (by decide +kernel)
theorem w_insb_X5 : Cond.instantiable RX5 8 ∈ lw_ok := lw_in 142 (by decide +kernel) (by decide +kernel)
theorem w_insb_X1 : Cond.instantiable RX1 3 ∈ lw_ok := lw_in 181 (by decide +kernel) (by decide +kernel)
theorem w_insb_X3 : Cond.instantiable RX3 4 ∈ lw_ok := lw_in 199 (by decide +kernel) (by decide +kernel)
theorem w_insb_X2 : Cond.instantiable RX2 8 ∈ lw_ok := lw_in 218 (by decide +kernel) (by decide +kernel)
theorem w_insb_X0 : Cond.instantiable RX0 2 ∈ lw_ok := lw_in 252 (by decide +kernel) (by decide +kernel)
theorem w_insb_X7 : Cond.instantiable RX7 39 ∈ lw_ok := lw_in 625 (by decide +kernel) (by decide +kernel)
theorem w_arrI : Cond.arrayClass (newarray.typeOf .int) ∈ lw_ok := lw_in 139 (by decide +kernel) (by decide +kernel)
theorem w_arrZ : Cond.arrayClass (newarray.typeOf .boolean) ∈ lw_ok := lw_in 753 (by decide +kernel) (by decide +kernel)
theorem w_objI : Cond.instanceMethod Lib.objectInit ∈ lw_ok := lw_in 56 (by decide +kernel) (by decide +kernel)
theorem w_objC : Cond.code Lib.objectInit ⟨#[0xb1]⟩ 1 none ∈ lw_ok := lw_in 57 (by decide +kernel) (by decide +kernel)
theorem w_st_max : Cond.static Lib.Math.max.name ∈ lw_ok := lw_in 386 (by decide +kernel) (by decide +kernel)
theorem w_co_max : Cond.code Lib.Math.max.name Lib.Math.max.code 2 (some .int) ∈ lw_ok := lw_in 387 (by decide +kernel) (by decide +kernel)
theorem w_st_min : Cond.static Lib.Math.min.name ∈ lw_ok := lw_in 396 (by decide +kernel) (by decide +kernel)
theorem w_co_min : Cond.code Lib.Math.min.name Lib.Math.min.code 2 (some .int) ∈ lw_ok := lw_in 397 (by decide +kernel) (by decide +kernel)
theorem w_iMath : Cond.initialized "java/lang/Math" ∈ lw_ok := lw_in 49 (by decide +kernel) (by decide +kernel)
theorem w_iSys : Cond.initialized "java/lang/System" ∈ lw_ok := lw_in 48 (by decide +kernel) (by decide +kernel)
theorem w_st_copy : Cond.static arraycopyName ∈ lw_ok := lw_in 350 (by decide +kernel) (by decide +kernel)
theorem w_nat_copy : Cond.native arraycopyName ∈ lw_ok := lw_in 351 (by decide +kernel) (by decide +kernel)
theorem coX6_208 : Cond.constant RX6 208 (65537) ∈ lw_ok := lw_in 602 (by decide +kernel) (by decide +kernel)
theorem coX7_62 : Cond.constant RX7 62 (32768) ∈ lw_ok := lw_in 630 (by decide +kernel) (by decide +kernel)
theorem coX7_181 : Cond.constant RX7 181 (10000000) ∈ lw_ok := lw_in 875 (by decide +kernel) (by decide +kernel)
theorem coX7_233 : Cond.constant RX7 233 (65537) ∈ lw_ok := lw_in 966 (by decide +kernel) (by decide +kernel)
theorem coX6_182 : Cond.constantLong RX6 182 (-1000000000000000001) ∈ lw_ok := lw_in 560 (by decide +kernel) (by decide +kernel)
theorem coX6_184 : Cond.constantLong RX6 184 (-1000000000000000002) ∈ lw_ok := lw_in 561 (by decide +kernel) (by decide +kernel)
theorem coX7_218 : Cond.constantLong RX7 218 (-1000000000000000001) ∈ lw_ok := lw_in 940 (by decide +kernel) (by decide +kernel)
theorem coX7_220 : Cond.constantLong RX7 220 (-1000000000000000002) ∈ lw_ok := lw_in 941 (by decide +kernel) (by decide +kernel)
theorem coX7_216 : Cond.constantLong RX7 216 (10) ∈ lw_ok := lw_in 949 (by decide +kernel) (by decide +kernel)
section
variable {X : zXt} {μ : zM} {R : Room} {Z : zZt} {ce sl n ms : Nat} {S : zH} {pc : Nat} {L : List (Option zV)} {st : List zV} {Rf : zG} {V : zE}
theorem fX4_37 : Cond.fieldLink RX4 37 RX4 (TX4 0).2.1 (TX4 0).2.2.1 ∈ lw_ok := lw_in 85 (by decide +kernel) (by decide +kernel)
theorem gX4_37 {k : Nat} (hd : decode μ.2.1 pc = .ok (.getfield 37, 3)) (hμ : μ.1.cls = RX4) (hS : S k = some (.inr 4)) (kk : Wa X μ R Z ce sl n S (pc + 3) L (zI (V k 0) :: st) Rf V) : Wa X μ R Z ce sl n S (pc) L (zR k :: st) Rf V :=
  wa_getI hd (hμ ▸ fX4_37) rfl inX4 rfl rfl (by decide) (fun _ _ _ => rfl) hS kk
theorem pX4_37 {k : Nat} {x : Int} (hd : decode μ.2.1 pc = .ok (.putfield 37, 3)) (hμ : μ.1.cls = RX4) (hS : S k = some (.inr 4)) (kk : Wa X μ R Z ce sl n S (pc + 3) L st Rf (zp V k (za (V k) 0 x))) : Wa X μ R Z ce sl n S (pc) L (zI x :: zR k :: st) Rf V :=
  wa_putI hd (hμ ▸ fX4_37) rfl inX4 rfl rfl (by decide) tyX4_ok nmX4 rfl rfl (fun _ _ _ => rfl) hS kk
theorem fX3_25 : Cond.fieldLink RX3 25 RX4 (TX4 0).2.1 (TX4 0).2.2.1 ∈ lw_ok := lw_in 86 (by decide +kernel) (by decide +kernel)
theorem gX3_25 {k : Nat} (hd : decode μ.2.1 pc = .ok (.getfield 25, 3)) (hμ : μ.1.cls = RX3) (hS : S k = some (.inr 4)) (kk : Wa X μ R Z ce sl n S (pc + 3) L (zI (V k 0) :: st) Rf V) : Wa X μ R Z ce sl n S (pc) L (zR k :: st) Rf V :=
  wa_getI hd (hμ ▸ fX3_25) rfl inX4 rfl rfl (by decide) (fun _ _ _ => rfl) hS kk
theorem pX3_25 {k : Nat} {x : Int} (hd : decode μ.2.1 pc = .ok (.putfield 25, 3)) (hμ : μ.1.cls = RX3) (hS : S k = some (.inr 4)) (kk : Wa X μ R Z ce sl n S (pc + 3) L st Rf (zp V k (za (V k) 0 x))) : Wa X μ R Z ce sl n S (pc) L (zI x :: zR k :: st) Rf V :=
  wa_putI hd (hμ ▸ fX3_25) rfl inX4 rfl rfl (by decide) tyX4_ok nmX4 rfl rfl (fun _ _ _ => rfl) hS kk
theorem fX6_58 : Cond.fieldLink RX6 58 RX4 (TX4 0).2.1 (TX4 0).2.2.1 ∈ lw_ok := lw_in 87 (by decide +kernel) (by decide +kernel)
theorem gX6_58 {k : Nat} (hd : decode μ.2.1 pc = .ok (.getfield 58, 3)) (hμ : μ.1.cls = RX6) (hS : S k = some (.inr 4)) (kk : Wa X μ R Z ce sl n S (pc + 3) L (zI (V k 0) :: st) Rf V) : Wa X μ R Z ce sl n S (pc) L (zR k :: st) Rf V :=
  wa_getI hd (hμ ▸ fX6_58) rfl inX4 rfl rfl (by decide) (fun _ _ _ => rfl) hS kk
theorem pX6_58 {k : Nat} {x : Int} (hd : decode μ.2.1 pc = .ok (.putfield 58, 3)) (hμ : μ.1.cls = RX6) (hS : S k = some (.inr 4)) (kk : Wa X μ R Z ce sl n S (pc + 3) L st Rf (zp V k (za (V k) 0 x))) : Wa X μ R Z ce sl n S (pc) L (zI x :: zR k :: st) Rf V :=
  wa_putI hd (hμ ▸ fX6_58) rfl inX4 rfl rfl (by decide) tyX4_ok nmX4 rfl rfl (fun _ _ _ => rfl) hS kk
theorem fX2_41 : Cond.fieldLink RX2 41 RX4 (TX4 0).2.1 (TX4 0).2.2.1 ∈ lw_ok := lw_in 88 (by decide +kernel) (by decide +kernel)
theorem gX2_41 {k : Nat} (hd : decode μ.2.1 pc = .ok (.getfield 41, 3)) (hμ : μ.1.cls = RX2) (hS : S k = some (.inr 4)) (kk : Wa X μ R Z ce sl n S (pc + 3) L (zI (V k 0) :: st) Rf V) : Wa X μ R Z ce sl n S (pc) L (zR k :: st) Rf V :=
  wa_getI hd (hμ ▸ fX2_41) rfl inX4 rfl rfl (by decide) (fun _ _ _ => rfl) hS kk
theorem pX2_41 {k : Nat} {x : Int} (hd : decode μ.2.1 pc = .ok (.putfield 41, 3)) (hμ : μ.1.cls = RX2) (hS : S k = some (.inr 4)) (kk : Wa X μ R Z ce sl n S (pc + 3) L st Rf (zp V k (za (V k) 0 x))) : Wa X μ R Z ce sl n S (pc) L (zI x :: zR k :: st) Rf V :=
  wa_putI hd (hμ ▸ fX2_41) rfl inX4 rfl rfl (by decide) tyX4_ok nmX4 rfl rfl (fun _ _ _ => rfl) hS kk
theorem fX1_35 : Cond.fieldLink RX1 35 RX4 (TX4 0).2.1 (TX4 0).2.2.1 ∈ lw_ok := lw_in 89 (by decide +kernel) (by decide +kernel)
theorem gX1_35 {k : Nat} (hd : decode μ.2.1 pc = .ok (.getfield 35, 3)) (hμ : μ.1.cls = RX1) (hS : S k = some (.inr 4)) (kk : Wa X μ R Z ce sl n S (pc + 3) L (zI (V k 0) :: st) Rf V) : Wa X μ R Z ce sl n S (pc) L (zR k :: st) Rf V :=
  wa_getI hd (hμ ▸ fX1_35) rfl inX4 rfl rfl (by decide) (fun _ _ _ => rfl) hS kk
theorem pX1_35 {k : Nat} {x : Int} (hd : decode μ.2.1 pc = .ok (.putfield 35, 3)) (hμ : μ.1.cls = RX1) (hS : S k = some (.inr 4)) (kk : Wa X μ R Z ce sl n S (pc + 3) L st Rf (zp V k (za (V k) 0 x))) : Wa X μ R Z ce sl n S (pc) L (zI x :: zR k :: st) Rf V :=
  wa_putI hd (hμ ▸ fX1_35) rfl inX4 rfl rfl (by decide) tyX4_ok nmX4 rfl rfl (fun _ _ _ => rfl) hS kk
theorem fX4_9 : Cond.fieldLink RX4 9 RX4 (TX4 1).2.1 (TX4 1).2.2.1 ∈ lw_ok := lw_in 90 (by decide +kernel) (by decide +kernel)
theorem gX4_9 {k : Nat} {a : Option Nat} (hd : decode μ.2.1 pc = .ok (.getfield 9, 3)) (hμ : μ.1.cls = RX4) (hS : S k = some (.inr 4)) (ha : Rf k 1 = a) (kk : Wa X μ R Z ce sl n S (pc + 3) L (zO a :: st) Rf V) : Wa X μ R Z ce sl n S (pc) L (zR k :: st) Rf V :=
  wa_getO hd (hμ ▸ fX4_9) rfl inX4 rfl rfl (by decide) (fun _ _ _ => rfl) hS ha kk
theorem pX4_9 {k : Nat} {r : Option Nat} (hd : decode μ.2.1 pc = .ok (.putfield 9, 3)) (hμ : μ.1.cls = RX4) (hμ2 : μ.1.name = "<init>") (hS : S k = some (.inr 4)) (kk : Wa X μ R Z ce sl n S (pc + 3) L st (zp Rf k (za (Rf k) 1 r)) V) : Wa X μ R Z ce sl n S (pc) L (zO r :: zR k :: st) Rf V :=
  wa_putOF (ty := tyX4 1) hd (hμ ▸ fX4_9) rfl inX4 rfl rfl (by decide) tyX4_ok nmX4 rfl hμ2 (hμ ▸ rfl) (tyX4_ok 1 (by decide)) (fun r => by cases r <;> exact ⟨rfl, rfl⟩) (fun _ _ _ => rfl) hS kk
theorem fX3_28 : Cond.fieldLink RX3 28 RX4 (TX4 1).2.1 (TX4 1).2.2.1 ∈ lw_ok := lw_in 91 (by decide +kernel) (by decide +kernel)
theorem gX3_28 {k : Nat} {a : Option Nat} (hd : decode μ.2.1 pc = .ok (.getfield 28, 3)) (hμ : μ.1.cls = RX3) (hS : S k = some (.inr 4)) (ha : Rf k 1 = a) (kk : Wa X μ R Z ce sl n S (pc + 3) L (zO a :: st) Rf V) : Wa X μ R Z ce sl n S (pc) L (zR k :: st) Rf V :=
  wa_getO hd (hμ ▸ fX3_28) rfl inX4 rfl rfl (by decide) (fun _ _ _ => rfl) hS ha kk
theorem fX2_52 : Cond.fieldLink RX2 52 RX4 (TX4 1).2.1 (TX4 1).2.2.1 ∈ lw_ok := lw_in 92 (by decide +kernel) (by decide +kernel)
theorem gX2_52 {k : Nat} {a : Option Nat} (hd : decode μ.2.1 pc = .ok (.getfield 52, 3)) (hμ : μ.1.cls = RX2) (hS : S k = some (.inr 4)) (ha : Rf k 1 = a) (kk : Wa X μ R Z ce sl n S (pc + 3) L (zO a :: st) Rf V) : Wa X μ R Z ce sl n S (pc) L (zR k :: st) Rf V :=
  wa_getO hd (hμ ▸ fX2_52) rfl inX4 rfl rfl (by decide) (fun _ _ _ => rfl) hS ha kk
theorem fX6_74 : Cond.fieldLink RX6 74 RX4 (TX4 1).2.1 (TX4 1).2.2.1 ∈ lw_ok := lw_in 93 (by decide +kernel) (by decide +kernel)
theorem gX6_74 {k : Nat} {a : Option Nat} (hd : decode μ.2.1 pc = .ok (.getfield 74, 3)) (hμ : μ.1.cls = RX6) (hS : S k = some (.inr 4)) (ha : Rf k 1 = a) (kk : Wa X μ R Z ce sl n S (pc + 3) L (zO a :: st) Rf V) : Wa X μ R Z ce sl n S (pc) L (zR k :: st) Rf V :=
  wa_getO hd (hμ ▸ fX6_74) rfl inX4 rfl rfl (by decide) (fun _ _ _ => rfl) hS ha kk
theorem fX1_40 : Cond.fieldLink RX1 40 RX4 (TX4 1).2.1 (TX4 1).2.2.1 ∈ lw_ok := lw_in 94 (by decide +kernel) (by decide +kernel)
theorem gX1_40 {k : Nat} {a : Option Nat} (hd : decode μ.2.1 pc = .ok (.getfield 40, 3)) (hμ : μ.1.cls = RX1) (hS : S k = some (.inr 4)) (ha : Rf k 1 = a) (kk : Wa X μ R Z ce sl n S (pc + 3) L (zO a :: st) Rf V) : Wa X μ R Z ce sl n S (pc) L (zR k :: st) Rf V :=
  wa_getO hd (hμ ▸ fX1_40) rfl inX4 rfl rfl (by decide) (fun _ _ _ => rfl) hS ha kk
theorem fX5_75 : Cond.fieldLink RX5 75 RX4 (TX4 1).2.1 (TX4 1).2.2.1 ∈ lw_ok := lw_in 95 (by decide +kernel) (by decide +kernel)
theorem gX5_75 {k : Nat} {a : Option Nat} (hd : decode μ.2.1 pc = .ok (.getfield 75, 3)) (hμ : μ.1.cls = RX5) (hS : S k = some (.inr 4)) (ha : Rf k 1 = a) (kk : Wa X μ R Z ce sl n S (pc + 3) L (zO a :: st) Rf V) : Wa X μ R Z ce sl n S (pc) L (zR k :: st) Rf V :=
  wa_getO hd (hμ ▸ fX5_75) rfl inX4 rfl rfl (by decide) (fun _ _ _ => rfl) hS ha kk
theorem fX4_15 : Cond.fieldLink RX4 15 RX4 (TX4 2).2.1 (TX4 2).2.2.1 ∈ lw_ok := lw_in 96 (by decide +kernel) (by decide +kernel)
theorem gX4_15 {k : Nat} {a : Option Nat} (hd : decode μ.2.1 pc = .ok (.getfield 15, 3)) (hμ : μ.1.cls = RX4) (hS : S k = some (.inr 4)) (ha : Rf k 2 = a) (kk : Wa X μ R Z ce sl n S (pc + 3) L (zO a :: st) Rf V) : Wa X μ R Z ce sl n S (pc) L (zR k :: st) Rf V :=
  wa_getO hd (hμ ▸ fX4_15) rfl inX4 rfl rfl (by decide) (fun _ _ _ => rfl) hS ha kk
theorem pX4_15 {k : Nat} {r : Option Nat} (hd : decode μ.2.1 pc = .ok (.putfield 15, 3)) (hμ : μ.1.cls = RX4) (hμ2 : μ.1.name = "<init>") (hS : S k = some (.inr 4)) (kk : Wa X μ R Z ce sl n S (pc + 3) L st (zp Rf k (za (Rf k) 2 r)) V) : Wa X μ R Z ce sl n S (pc) L (zO r :: zR k :: st) Rf V :=
  wa_putOF (ty := tyX4 2) hd (hμ ▸ fX4_15) rfl inX4 rfl rfl (by decide) tyX4_ok nmX4 rfl hμ2 (hμ ▸ rfl) (tyX4_ok 2 (by decide)) (fun r => by cases r <;> exact ⟨rfl, rfl⟩) (fun _ _ _ => rfl) hS kk
theorem fX6_78 : Cond.fieldLink RX6 78 RX4 (TX4 2).2.1 (TX4 2).2.2.1 ∈ lw_ok := lw_in 97 (by decide +kernel) (by decide +kernel)
theorem gX6_78 {k : Nat} {a : Option Nat} (hd : decode μ.2.1 pc = .ok (.getfield 78, 3)) (hμ : μ.1.cls = RX6) (hS : S k = some (.inr 4)) (ha : Rf k 2 = a) (kk : Wa X μ R Z ce sl n S (pc + 3) L (zO a :: st) Rf V) : Wa X μ R Z ce sl n S (pc) L (zR k :: st) Rf V :=
  wa_getO hd (hμ ▸ fX6_78) rfl inX4 rfl rfl (by decide) (fun _ _ _ => rfl) hS ha kk
theorem fX4_47 : Cond.fieldLink RX4 47 RX4 (TX4 3).2.1 (TX4 3).2.2.1 ∈ lw_ok := lw_in 98 (by decide +kernel) (by decide +kernel)
theorem gX4_47 {k : Nat} (hd : decode μ.2.1 pc = .ok (.getfield 47, 3)) (hμ : μ.1.cls = RX4) (hS : S k = some (.inr 4)) (kk : Wa X μ R Z ce sl n S (pc + 3) L (zI (V k 3) :: st) Rf V) : Wa X μ R Z ce sl n S (pc) L (zR k :: st) Rf V :=
  wa_getI hd (hμ ▸ fX4_47) rfl inX4 rfl rfl (by decide) (fun _ _ _ => rfl) hS kk
theorem pX4_47 {k : Nat} {x : Int} (hd : decode μ.2.1 pc = .ok (.putfield 47, 3)) (hμ : μ.1.cls = RX4) (hS : S k = some (.inr 4)) (kk : Wa X μ R Z ce sl n S (pc + 3) L st Rf (zp V k (za (V k) 3 x))) : Wa X μ R Z ce sl n S (pc) L (zI x :: zR k :: st) Rf V :=
  wa_putI hd (hμ ▸ fX4_47) rfl inX4 rfl rfl (by decide) tyX4_ok nmX4 rfl rfl (fun _ _ _ => rfl) hS kk
theorem fX6_81 : Cond.fieldLink RX6 81 RX4 (TX4 3).2.1 (TX4 3).2.2.1 ∈ lw_ok := lw_in 99 (by decide +kernel) (by decide +kernel)
theorem gX6_81 {k : Nat} (hd : decode μ.2.1 pc = .ok (.getfield 81, 3)) (hμ : μ.1.cls = RX6) (hS : S k = some (.inr 4)) (kk : Wa X μ R Z ce sl n S (pc + 3) L (zI (V k 3) :: st) Rf V) : Wa X μ R Z ce sl n S (pc) L (zR k :: st) Rf V :=
  wa_getI hd (hμ ▸ fX6_81) rfl inX4 rfl rfl (by decide) (fun _ _ _ => rfl) hS kk
theorem pX6_81 {k : Nat} {x : Int} (hd : decode μ.2.1 pc = .ok (.putfield 81, 3)) (hμ : μ.1.cls = RX6) (hS : S k = some (.inr 4)) (kk : Wa X μ R Z ce sl n S (pc + 3) L st Rf (zp V k (za (V k) 3 x))) : Wa X μ R Z ce sl n S (pc) L (zI x :: zR k :: st) Rf V :=
  wa_putI hd (hμ ▸ fX6_81) rfl inX4 rfl rfl (by decide) tyX4_ok nmX4 rfl rfl (fun _ _ _ => rfl) hS kk
theorem fX5_52 : Cond.fieldLink RX5 52 RX4 (TX4 3).2.1 (TX4 3).2.2.1 ∈ lw_ok := lw_in 100 (by decide +kernel) (by decide +kernel)
theorem gX5_52 {k : Nat} (hd : decode μ.2.1 pc = .ok (.getfield 52, 3)) (hμ : μ.1.cls = RX5) (hS : S k = some (.inr 4)) (kk : Wa X μ R Z ce sl n S (pc + 3) L (zI (V k 3) :: st) Rf V) : Wa X μ R Z ce sl n S (pc) L (zR k :: st) Rf V :=
  wa_getI hd (hμ ▸ fX5_52) rfl inX4 rfl rfl (by decide) (fun _ _ _ => rfl) hS kk
theorem pX5_52 {k : Nat} {x : Int} (hd : decode μ.2.1 pc = .ok (.putfield 52, 3)) (hμ : μ.1.cls = RX5) (hS : S k = some (.inr 4)) (kk : Wa X μ R Z ce sl n S (pc + 3) L st Rf (zp V k (za (V k) 3 x))) : Wa X μ R Z ce sl n S (pc) L (zI x :: zR k :: st) Rf V :=
  wa_putI hd (hμ ▸ fX5_52) rfl inX4 rfl rfl (by decide) tyX4_ok nmX4 rfl rfl (fun _ _ _ => rfl) hS kk
theorem fX4_50 : Cond.fieldLink RX4 50 RX4 (TX4 4).2.1 (TX4 4).2.2.1 ∈ lw_ok := lw_in 101 (by decide +kernel) (by decide +kernel)
theorem gX4_50 {k : Nat} (hd : decode μ.2.1 pc = .ok (.getfield 50, 3)) (hμ : μ.1.cls = RX4) (hS : S k = some (.inr 4)) (kk : Wa X μ R Z ce sl n S (pc + 3) L (zI (V k 4) :: st) Rf V) : Wa X μ R Z ce sl n S (pc) L (zR k :: st) Rf V :=
  wa_getI hd (hμ ▸ fX4_50) rfl inX4 rfl rfl (by decide) (fun _ _ _ => rfl) hS kk
theorem pX4_50 {k : Nat} {x : Int} (hd : decode μ.2.1 pc = .ok (.putfield 50, 3)) (hμ : μ.1.cls = RX4) (hS : S k = some (.inr 4)) (kk : Wa X μ R Z ce sl n S (pc + 3) L st Rf (zp V k (za (V k) 4 x))) : Wa X μ R Z ce sl n S (pc) L (zI x :: zR k :: st) Rf V :=
  wa_putI hd (hμ ▸ fX4_50) rfl inX4 rfl rfl (by decide) tyX4_ok nmX4 rfl rfl (fun _ _ _ => rfl) hS kk
theorem fX6_216 : Cond.fieldLink RX6 216 RX4 (TX4 4).2.1 (TX4 4).2.2.1 ∈ lw_ok := lw_in 102 (by decide +kernel) (by decide +kernel)
theorem gX6_216 {k : Nat} (hd : decode μ.2.1 pc = .ok (.getfield 216, 3)) (hμ : μ.1.cls = RX6) (hS : S k = some (.inr 4)) (kk : Wa X μ R Z ce sl n S (pc + 3) L (zI (V k 4) :: st) Rf V) : Wa X μ R Z ce sl n S (pc) L (zR k :: st) Rf V :=
  wa_getI hd (hμ ▸ fX6_216) rfl inX4 rfl rfl (by decide) (fun _ _ _ => rfl) hS kk
theorem pX6_216 {k : Nat} {x : Int} (hd : decode μ.2.1 pc = .ok (.putfield 216, 3)) (hμ : μ.1.cls = RX6) (hS : S k = some (.inr 4)) (kk : Wa X μ R Z ce sl n S (pc + 3) L st Rf (zp V k (za (V k) 4 x))) : Wa X μ R Z ce sl n S (pc) L (zI x :: zR k :: st) Rf V :=
  wa_putI hd (hμ ▸ fX6_216) rfl inX4 rfl rfl (by decide) tyX4_ok nmX4 rfl rfl (fun _ _ _ => rfl) hS kk
theorem fX4_18 : Cond.fieldLink RX4 18 RX4 (TX4 5).2.1 (TX4 5).2.2.1 ∈ lw_ok := lw_in 103 (by decide +kernel) (by decide +kernel)
theorem gX4_18 {k : Nat} {a : Option Nat} (hd : decode μ.2.1 pc = .ok (.getfield 18, 3)) (hμ : μ.1.cls = RX4) (hS : S k = some (.inr 4)) (ha : Rf k 5 = a) (kk : Wa X μ R Z ce sl n S (pc + 3) L (zO a :: st) Rf V) : Wa X μ R Z ce sl n S (pc) L (zR k :: st) Rf V :=
  wa_getO hd (hμ ▸ fX4_18) rfl inX4 rfl rfl (by decide) (fun _ _ _ => rfl) hS ha kk
theorem pX4_18 {k : Nat} {r : Option Nat} (hd : decode μ.2.1 pc = .ok (.putfield 18, 3)) (hμ : μ.1.cls = RX4) (hμ2 : μ.1.name = "<init>") (hS : S k = some (.inr 4)) (kk : Wa X μ R Z ce sl n S (pc + 3) L st (zp Rf k (za (Rf k) 5 r)) V) : Wa X μ R Z ce sl n S (pc) L (zO r :: zR k :: st) Rf V :=
  wa_putOF (ty := tyX4 5) hd (hμ ▸ fX4_18) rfl inX4 rfl rfl (by decide) tyX4_ok nmX4 rfl hμ2 (hμ ▸ rfl) (tyX4_ok 5 (by decide)) (fun r => by cases r <;> exact ⟨rfl, rfl⟩) (fun _ _ _ => rfl) hS kk
theorem fX2_75 : Cond.fieldLink RX2 75 RX4 (TX4 5).2.1 (TX4 5).2.2.1 ∈ lw_ok := lw_in 104 (by decide +kernel) (by decide +kernel)
theorem gX2_75 {k : Nat} {a : Option Nat} (hd : decode μ.2.1 pc = .ok (.getfield 75, 3)) (hμ : μ.1.cls = RX2) (hS : S k = some (.inr 4)) (ha : Rf k 5 = a) (kk : Wa X μ R Z ce sl n S (pc + 3) L (zO a :: st) Rf V) : Wa X μ R Z ce sl n S (pc) L (zR k :: st) Rf V :=
  wa_getO hd (hμ ▸ fX2_75) rfl inX4 rfl rfl (by decide) (fun _ _ _ => rfl) hS ha kk
theorem fX6_84 : Cond.fieldLink RX6 84 RX4 (TX4 5).2.1 (TX4 5).2.2.1 ∈ lw_ok := lw_in 105 (by decide +kernel) (by decide +kernel)
theorem gX6_84 {k : Nat} {a : Option Nat} (hd : decode μ.2.1 pc = .ok (.getfield 84, 3)) (hμ : μ.1.cls = RX6) (hS : S k = some (.inr 4)) (ha : Rf k 5 = a) (kk : Wa X μ R Z ce sl n S (pc + 3) L (zO a :: st) Rf V) : Wa X μ R Z ce sl n S (pc) L (zR k :: st) Rf V :=
  wa_getO hd (hμ ▸ fX6_84) rfl inX4 rfl rfl (by decide) (fun _ _ _ => rfl) hS ha kk
theorem fX5_68 : Cond.fieldLink RX5 68 RX4 (TX4 5).2.1 (TX4 5).2.2.1 ∈ lw_ok := lw_in 106 (by decide +kernel) (by decide +kernel)
theorem gX5_68 {k : Nat} {a : Option Nat} (hd : decode μ.2.1 pc = .ok (.getfield 68, 3)) (hμ : μ.1.cls = RX5) (hS : S k = some (.inr 4)) (ha : Rf k 5 = a) (kk : Wa X μ R Z ce sl n S (pc + 3) L (zO a :: st) Rf V) : Wa X μ R Z ce sl n S (pc) L (zR k :: st) Rf V :=
  wa_getO hd (hμ ▸ fX5_68) rfl inX4 rfl rfl (by decide) (fun _ _ _ => rfl) hS ha kk
theorem fX4_21 : Cond.fieldLink RX4 21 RX4 (TX4 6).2.1 (TX4 6).2.2.1 ∈ lw_ok := lw_in 107 (by decide +kernel) (by decide +kernel)
theorem gX4_21 {k : Nat} {a : Option Nat} (hd : decode μ.2.1 pc = .ok (.getfield 21, 3)) (hμ : μ.1.cls = RX4) (hS : S k = some (.inr 4)) (ha : Rf k 6 = a) (kk : Wa X μ R Z ce sl n S (pc + 3) L (zO a :: st) Rf V) : Wa X μ R Z ce sl n S (pc) L (zR k :: st) Rf V :=
  wa_getO hd (hμ ▸ fX4_21) rfl inX4 rfl rfl (by decide) (fun _ _ _ => rfl) hS ha kk
theorem pX4_21 {k : Nat} {r : Option Nat} (hd : decode μ.2.1 pc = .ok (.putfield 21, 3)) (hμ : μ.1.cls = RX4) (hμ2 : μ.1.name = "<init>") (hS : S k = some (.inr 4)) (kk : Wa X μ R Z ce sl n S (pc + 3) L st (zp Rf k (za (Rf k) 6 r)) V) : Wa X μ R Z ce sl n S (pc) L (zO r :: zR k :: st) Rf V :=
  wa_putOF (ty := tyX4 6) hd (hμ ▸ fX4_21) rfl inX4 rfl rfl (by decide) tyX4_ok nmX4 rfl hμ2 (hμ ▸ rfl) (tyX4_ok 6 (by decide)) (fun r => by cases r <;> exact ⟨rfl, rfl⟩) (fun _ _ _ => rfl) hS kk
theorem fX1_43 : Cond.fieldLink RX1 43 RX4 (TX4 6).2.1 (TX4 6).2.2.1 ∈ lw_ok := lw_in 108 (by decide +kernel) (by decide +kernel)
theorem gX1_43 {k : Nat} {a : Option Nat} (hd : decode μ.2.1 pc = .ok (.getfield 43, 3)) (hμ : μ.1.cls = RX1) (hS : S k = some (.inr 4)) (ha : Rf k 6 = a) (kk : Wa X μ R Z ce sl n S (pc + 3) L (zO a :: st) Rf V) : Wa X μ R Z ce sl n S (pc) L (zR k :: st) Rf V :=
  wa_getO hd (hμ ▸ fX1_43) rfl inX4 rfl rfl (by decide) (fun _ _ _ => rfl) hS ha kk
theorem fX4_24 : Cond.fieldLink RX4 24 RX4 (TX4 7).2.1 (TX4 7).2.2.1 ∈ lw_ok := lw_in 109 (by decide +kernel) (by decide +kernel)
theorem gX4_24 {k : Nat} {a : Option Nat} (hd : decode μ.2.1 pc = .ok (.getfield 24, 3)) (hμ : μ.1.cls = RX4) (hS : S k = some (.inr 4)) (ha : Rf k 7 = a) (kk : Wa X μ R Z ce sl n S (pc + 3) L (zO a :: st) Rf V) : Wa X μ R Z ce sl n S (pc) L (zR k :: st) Rf V :=
  wa_getO hd (hμ ▸ fX4_24) rfl inX4 rfl rfl (by decide) (fun _ _ _ => rfl) hS ha kk
theorem pX4_24 {k : Nat} {r : Option Nat} (hd : decode μ.2.1 pc = .ok (.putfield 24, 3)) (hμ : μ.1.cls = RX4) (hμ2 : μ.1.name = "<init>") (hS : S k = some (.inr 4)) (kk : Wa X μ R Z ce sl n S (pc + 3) L st (zp Rf k (za (Rf k) 7 r)) V) : Wa X μ R Z ce sl n S (pc) L (zO r :: zR k :: st) Rf V :=
  wa_putOF (ty := tyX4 7) hd (hμ ▸ fX4_24) rfl inX4 rfl rfl (by decide) tyX4_ok nmX4 rfl hμ2 (hμ ▸ rfl) (tyX4_ok 7 (by decide)) (fun r => by cases r <;> exact ⟨rfl, rfl⟩) (fun _ _ _ => rfl) hS kk
theorem fX4_53 : Cond.fieldLink RX4 53 RX4 (TX4 8).2.1 (TX4 8).2.2.1 ∈ lw_ok := lw_in 110 (by decide +kernel) (by decide +kernel)
theorem gX4_53 {k : Nat} (hd : decode μ.2.1 pc = .ok (.getfield 53, 3)) (hμ : μ.1.cls = RX4) (hS : S k = some (.inr 4)) (kk : Wa X μ R Z ce sl n S (pc + 3) L (zI (V k 8) :: st) Rf V) : Wa X μ R Z ce sl n S (pc) L (zR k :: st) Rf V :=
  wa_getI hd (hμ ▸ fX4_53) rfl inX4 rfl rfl (by decide) (fun _ _ _ => rfl) hS kk
theorem pX4_53 {k : Nat} {x : Int} (hd : decode μ.2.1 pc = .ok (.putfield 53, 3)) (hμ : μ.1.cls = RX4) (hS : S k = some (.inr 4)) (kk : Wa X μ R Z ce sl n S (pc + 3) L st Rf (zp V k (za (V k) 8 x))) : Wa X μ R Z ce sl n S (pc) L (zI x :: zR k :: st) Rf V :=
  wa_putI hd (hμ ▸ fX4_53) rfl inX4 rfl rfl (by decide) tyX4_ok nmX4 rfl rfl (fun _ _ _ => rfl) hS kk
theorem fX6_150 : Cond.fieldLink RX6 150 RX4 (TX4 8).2.1 (TX4 8).2.2.1 ∈ lw_ok := lw_in 111 (by decide +kernel) (by decide +kernel)
theorem gX6_150 {k : Nat} (hd : decode μ.2.1 pc = .ok (.getfield 150, 3)) (hμ : μ.1.cls = RX6) (hS : S k = some (.inr 4)) (kk : Wa X μ R Z ce sl n S (pc + 3) L (zI (V k 8) :: st) Rf V) : Wa X μ R Z ce sl n S (pc) L (zR k :: st) Rf V :=
  wa_getI hd (hμ ▸ fX6_150) rfl inX4 rfl rfl (by decide) (fun _ _ _ => rfl) hS kk
theorem pX6_150 {k : Nat} {x : Int} (hd : decode μ.2.1 pc = .ok (.putfield 150, 3)) (hμ : μ.1.cls = RX6) (hS : S k = some (.inr 4)) (kk : Wa X μ R Z ce sl n S (pc + 3) L st Rf (zp V k (za (V k) 8 x))) : Wa X μ R Z ce sl n S (pc) L (zI x :: zR k :: st) Rf V :=
  wa_putI hd (hμ ▸ fX6_150) rfl inX4 rfl rfl (by decide) tyX4_ok nmX4 rfl rfl (fun _ _ _ => rfl) hS kk
theorem fX4_27 : Cond.fieldLink RX4 27 RX4 (TX4 9).2.1 (TX4 9).2.2.1 ∈ lw_ok := lw_in 112 (by decide +kernel) (by decide +kernel)
theorem gX4_27 {k : Nat} {a : Option Nat} (hd : decode μ.2.1 pc = .ok (.getfield 27, 3)) (hμ : μ.1.cls = RX4) (hS : S k = some (.inr 4)) (ha : Rf k 9 = a) (kk : Wa X μ R Z ce sl n S (pc + 3) L (zO a :: st) Rf V) : Wa X μ R Z ce sl n S (pc) L (zR k :: st) Rf V :=
  wa_getO hd (hμ ▸ fX4_27) rfl inX4 rfl rfl (by decide) (fun _ _ _ => rfl) hS ha kk
theorem pX4_27 {k : Nat} {r : Option Nat} (hd : decode μ.2.1 pc = .ok (.putfield 27, 3)) (hμ : μ.1.cls = RX4) (hμ2 : μ.1.name = "<init>") (hS : S k = some (.inr 4)) (kk : Wa X μ R Z ce sl n S (pc + 3) L st (zp Rf k (za (Rf k) 9 r)) V) : Wa X μ R Z ce sl n S (pc) L (zO r :: zR k :: st) Rf V :=
  wa_putOF (ty := tyX4 9) hd (hμ ▸ fX4_27) rfl inX4 rfl rfl (by decide) tyX4_ok nmX4 rfl hμ2 (hμ ▸ rfl) (tyX4_ok 9 (by decide)) (fun r => by cases r <;> exact ⟨rfl, rfl⟩) (fun _ _ _ => rfl) hS kk
theorem fX6_153 : Cond.fieldLink RX6 153 RX4 (TX4 9).2.1 (TX4 9).2.2.1 ∈ lw_ok := lw_in 113 (by decide +kernel) (by decide +kernel)
theorem gX6_153 {k : Nat} {a : Option Nat} (hd : decode μ.2.1 pc = .ok (.getfield 153, 3)) (hμ : μ.1.cls = RX6) (hS : S k = some (.inr 4)) (ha : Rf k 9 = a) (kk : Wa X μ R Z ce sl n S (pc + 3) L (zO a :: st) Rf V) : Wa X μ R Z ce sl n S (pc) L (zR k :: st) Rf V :=
  wa_getO hd (hμ ▸ fX6_153) rfl inX4 rfl rfl (by decide) (fun _ _ _ => rfl) hS ha kk
theorem fX4_30 : Cond.fieldLink RX4 30 RX4 (TX4 10).2.1 (TX4 10).2.2.1 ∈ lw_ok := lw_in 114 (by decide +kernel) (by decide +kernel)
theorem gX4_30 {k : Nat} {a : Option Nat} (hd : decode μ.2.1 pc = .ok (.getfield 30, 3)) (hμ : μ.1.cls = RX4) (hS : S k = some (.inr 4)) (ha : Rf k 10 = a) (kk : Wa X μ R Z ce sl n S (pc + 3) L (zO a :: st) Rf V) : Wa X μ R Z ce sl n S (pc) L (zR k :: st) Rf V :=
  wa_getO hd (hμ ▸ fX4_30) rfl inX4 rfl rfl (by decide) (fun _ _ _ => rfl) hS ha kk
theorem pX4_30 {k : Nat} {r : Option Nat} (hd : decode μ.2.1 pc = .ok (.putfield 30, 3)) (hμ : μ.1.cls = RX4) (hμ2 : μ.1.name = "<init>") (hS : S k = some (.inr 4)) (kk : Wa X μ R Z ce sl n S (pc + 3) L st (zp Rf k (za (Rf k) 10 r)) V) : Wa X μ R Z ce sl n S (pc) L (zO r :: zR k :: st) Rf V :=
  wa_putOF (ty := tyX4 10) hd (hμ ▸ fX4_30) rfl inX4 rfl rfl (by decide) tyX4_ok nmX4 rfl hμ2 (hμ ▸ rfl) (tyX4_ok 10 (by decide)) (fun r => by cases r <;> exact ⟨rfl, rfl⟩) (fun _ _ _ => rfl) hS kk
theorem fX6_156 : Cond.fieldLink RX6 156 RX4 (TX4 10).2.1 (TX4 10).2.2.1 ∈ lw_ok := lw_in 115 (by decide +kernel) (by decide +kernel)
theorem gX6_156 {k : Nat} {a : Option Nat} (hd : decode μ.2.1 pc = .ok (.getfield 156, 3)) (hμ : μ.1.cls = RX6) (hS : S k = some (.inr 4)) (ha : Rf k 10 = a) (kk : Wa X μ R Z ce sl n S (pc + 3) L (zO a :: st) Rf V) : Wa X μ R Z ce sl n S (pc) L (zR k :: st) Rf V :=
  wa_getO hd (hμ ▸ fX6_156) rfl inX4 rfl rfl (by decide) (fun _ _ _ => rfl) hS ha kk
theorem fX5_9 : Cond.fieldLink RX5 9 RX5 (TX5 0).2.1 (TX5 0).2.2.1 ∈ lw_ok := lw_in 147 (by decide +kernel) (by decide +kernel)
theorem gX5_9 {k : Nat} {a : Option Nat} (hd : decode μ.2.1 pc = .ok (.getfield 9, 3)) (hμ : μ.1.cls = RX5) (hS : S k = some (.inr 5)) (ha : Rf k 0 = a) (kk : Wa X μ R Z ce sl n S (pc + 3) L (zO a :: st) Rf V) : Wa X μ R Z ce sl n S (pc) L (zR k :: st) Rf V :=
  wa_getO hd (hμ ▸ fX5_9) rfl inX5 rfl rfl (by decide) (fun _ _ _ => rfl) hS ha kk
theorem pX5_9 {k : Nat} {r : Option Nat} (hd : decode μ.2.1 pc = .ok (.putfield 9, 3)) (hμ : μ.1.cls = RX5) (hμ2 : μ.1.name = "<init>") (hS : S k = some (.inr 5)) (kk : Wa X μ R Z ce sl n S (pc + 3) L st (zp Rf k (za (Rf k) 0 r)) V) : Wa X μ R Z ce sl n S (pc) L (zO r :: zR k :: st) Rf V :=
  wa_putOF (ty := tyX5 0) hd (hμ ▸ fX5_9) rfl inX5 rfl rfl (by decide) tyX5_ok nmX5 rfl hμ2 (hμ ▸ rfl) (tyX5_ok 0 (by decide)) (fun r => by cases r <;> exact ⟨rfl, rfl⟩) (fun _ _ _ => rfl) hS kk
theorem fX6_90 : Cond.fieldLink RX6 90 RX5 (TX5 0).2.1 (TX5 0).2.2.1 ∈ lw_ok := lw_in 148 (by decide +kernel) (by decide +kernel)
theorem gX6_90 {k : Nat} {a : Option Nat} (hd : decode μ.2.1 pc = .ok (.getfield 90, 3)) (hμ : μ.1.cls = RX6) (hS : S k = some (.inr 5)) (ha : Rf k 0 = a) (kk : Wa X μ R Z ce sl n S (pc + 3) L (zO a :: st) Rf V) : Wa X μ R Z ce sl n S (pc) L (zR k :: st) Rf V :=
  wa_getO hd (hμ ▸ fX6_90) rfl inX5 rfl rfl (by decide) (fun _ _ _ => rfl) hS ha kk
theorem fX5_24 : Cond.fieldLink RX5 24 RX5 (TX5 1).2.1 (TX5 1).2.2.1 ∈ lw_ok := lw_in 149 (by decide +kernel) (by decide +kernel)
theorem gX5_24 {k : Nat} (hd : decode μ.2.1 pc = .ok (.getfield 24, 3)) (hμ : μ.1.cls = RX5) (hS : S k = some (.inr 5)) (kk : Wa X μ R Z ce sl n S (pc + 3) L (zI (V k 1) :: st) Rf V) : Wa X μ R Z ce sl n S (pc) L (zR k :: st) Rf V :=
  wa_getI hd (hμ ▸ fX5_24) rfl inX5 rfl rfl (by decide) (fun _ _ _ => rfl) hS kk
theorem pX5_24 {k : Nat} {x : Int} (hd : decode μ.2.1 pc = .ok (.putfield 24, 3)) (hμ : μ.1.cls = RX5) (hS : S k = some (.inr 5)) (kk : Wa X μ R Z ce sl n S (pc + 3) L st Rf (zp V k (za (V k) 1 x))) : Wa X μ R Z ce sl n S (pc) L (zI x :: zR k :: st) Rf V :=
  wa_putI hd (hμ ▸ fX5_24) rfl inX5 rfl rfl (by decide) tyX5_ok nmX5 rfl rfl (fun _ _ _ => rfl) hS kk
theorem fX6_87 : Cond.fieldLink RX6 87 RX5 (TX5 1).2.1 (TX5 1).2.2.1 ∈ lw_ok := lw_in 150 (by decide +kernel) (by decide +kernel)
theorem gX6_87 {k : Nat} (hd : decode μ.2.1 pc = .ok (.getfield 87, 3)) (hμ : μ.1.cls = RX6) (hS : S k = some (.inr 5)) (kk : Wa X μ R Z ce sl n S (pc + 3) L (zI (V k 1) :: st) Rf V) : Wa X μ R Z ce sl n S (pc) L (zR k :: st) Rf V :=
  wa_getI hd (hμ ▸ fX6_87) rfl inX5 rfl rfl (by decide) (fun _ _ _ => rfl) hS kk
theorem pX6_87 {k : Nat} {x : Int} (hd : decode μ.2.1 pc = .ok (.putfield 87, 3)) (hμ : μ.1.cls = RX6) (hS : S k = some (.inr 5)) (kk : Wa X μ R Z ce sl n S (pc + 3) L st Rf (zp V k (za (V k) 1 x))) : Wa X μ R Z ce sl n S (pc) L (zI x :: zR k :: st) Rf V :=
  wa_putI hd (hμ ▸ fX6_87) rfl inX5 rfl rfl (by decide) tyX5_ok nmX5 rfl rfl (fun _ _ _ => rfl) hS kk
theorem fX5_28 : Cond.fieldLink RX5 28 RX5 (TX5 2).2.1 (TX5 2).2.2.1 ∈ lw_ok := lw_in 151 (by decide +kernel) (by decide +kernel)
theorem gX5_28 {k : Nat} (hd : decode μ.2.1 pc = .ok (.getfield 28, 3)) (hμ : μ.1.cls = RX5) (hS : S k = some (.inr 5)) (kk : Wa X μ R Z ce sl n S (pc + 3) L (zI (V k 2) :: st) Rf V) : Wa X μ R Z ce sl n S (pc) L (zR k :: st) Rf V :=
  wa_getI hd (hμ ▸ fX5_28) rfl inX5 rfl rfl (by decide) (fun _ _ _ => rfl) hS kk
theorem pX5_28 {k : Nat} {x : Int} (hd : decode μ.2.1 pc = .ok (.putfield 28, 3)) (hμ : μ.1.cls = RX5) (hS : S k = some (.inr 5)) (kk : Wa X μ R Z ce sl n S (pc + 3) L st Rf (zp V k (za (V k) 2 x))) : Wa X μ R Z ce sl n S (pc) L (zI x :: zR k :: st) Rf V :=
  wa_putI hd (hμ ▸ fX5_28) rfl inX5 rfl rfl (by decide) tyX5_ok nmX5 rfl rfl (fun _ _ _ => rfl) hS kk
theorem fX1_22 : Cond.fieldLink RX1 22 RX5 (TX5 2).2.1 (TX5 2).2.2.1 ∈ lw_ok := lw_in 152 (by decide +kernel) (by decide +kernel)
theorem gX1_22 {k : Nat} (hd : decode μ.2.1 pc = .ok (.getfield 22, 3)) (hμ : μ.1.cls = RX1) (hS : S k = some (.inr 5)) (kk : Wa X μ R Z ce sl n S (pc + 3) L (zI (V k 2) :: st) Rf V) : Wa X μ R Z ce sl n S (pc) L (zR k :: st) Rf V :=
  wa_getI hd (hμ ▸ fX1_22) rfl inX5 rfl rfl (by decide) (fun _ _ _ => rfl) hS kk
theorem pX1_22 {k : Nat} {x : Int} (hd : decode μ.2.1 pc = .ok (.putfield 22, 3)) (hμ : μ.1.cls = RX1) (hS : S k = some (.inr 5)) (kk : Wa X μ R Z ce sl n S (pc + 3) L st Rf (zp V k (za (V k) 2 x))) : Wa X μ R Z ce sl n S (pc) L (zI x :: zR k :: st) Rf V :=
  wa_putI hd (hμ ▸ fX1_22) rfl inX5 rfl rfl (by decide) tyX5_ok nmX5 rfl rfl (fun _ _ _ => rfl) hS kk
theorem fX6_112 : Cond.fieldLink RX6 112 RX5 (TX5 2).2.1 (TX5 2).2.2.1 ∈ lw_ok := lw_in 153 (by decide +kernel) (by decide +kernel)
theorem gX6_112 {k : Nat} (hd : decode μ.2.1 pc = .ok (.getfield 112, 3)) (hμ : μ.1.cls = RX6) (hS : S k = some (.inr 5)) (kk : Wa X μ R Z ce sl n S (pc + 3) L (zI (V k 2) :: st) Rf V) : Wa X μ R Z ce sl n S (pc) L (zR k :: st) Rf V :=
  wa_getI hd (hμ ▸ fX6_112) rfl inX5 rfl rfl (by decide) (fun _ _ _ => rfl) hS kk
theorem pX6_112 {k : Nat} {x : Int} (hd : decode μ.2.1 pc = .ok (.putfield 112, 3)) (hμ : μ.1.cls = RX6) (hS : S k = some (.inr 5)) (kk : Wa X μ R Z ce sl n S (pc + 3) L st Rf (zp V k (za (V k) 2 x))) : Wa X μ R Z ce sl n S (pc) L (zI x :: zR k :: st) Rf V :=
  wa_putI hd (hμ ▸ fX6_112) rfl inX5 rfl rfl (by decide) tyX5_ok nmX5 rfl rfl (fun _ _ _ => rfl) hS kk
theorem fX5_15 : Cond.fieldLink RX5 15 RX5 (TX5 3).2.1 (TX5 3).2.2.1 ∈ lw_ok := lw_in 154 (by decide +kernel) (by decide +kernel)
theorem gX5_15 {k : Nat} {a : Option Nat} (hd : decode μ.2.1 pc = .ok (.getfield 15, 3)) (hμ : μ.1.cls = RX5) (hS : S k = some (.inr 5)) (ha : Rf k 3 = a) (kk : Wa X μ R Z ce sl n S (pc + 3) L (zO a :: st) Rf V) : Wa X μ R Z ce sl n S (pc) L (zR k :: st) Rf V :=
  wa_getO hd (hμ ▸ fX5_15) rfl inX5 rfl rfl (by decide) (fun _ _ _ => rfl) hS ha kk
theorem pX5_15 {k : Nat} {r : Option Nat} (hd : decode μ.2.1 pc = .ok (.putfield 15, 3)) (hμ : μ.1.cls = RX5) (hμ2 : μ.1.name = "<init>") (hS : S k = some (.inr 5)) (kk : Wa X μ R Z ce sl n S (pc + 3) L st (zp Rf k (za (Rf k) 3 r)) V) : Wa X μ R Z ce sl n S (pc) L (zO r :: zR k :: st) Rf V :=
  wa_putOF (ty := tyX5 3) hd (hμ ▸ fX5_15) rfl inX5 rfl rfl (by decide) tyX5_ok nmX5 rfl hμ2 (hμ ▸ rfl) (tyX5_ok 3 (by decide)) (fun r => by cases r <;> exact ⟨rfl, rfl⟩) (fun _ _ _ => rfl) hS kk
theorem fX1_46 : Cond.fieldLink RX1 46 RX5 (TX5 3).2.1 (TX5 3).2.2.1 ∈ lw_ok := lw_in 155 (by decide +kernel) (by decide +kernel)
theorem gX1_46 {k : Nat} {a : Option Nat} (hd : decode μ.2.1 pc = .ok (.getfield 46, 3)) (hμ : μ.1.cls = RX1) (hS : S k = some (.inr 5)) (ha : Rf k 3 = a) (kk : Wa X μ R Z ce sl n S (pc + 3) L (zO a :: st) Rf V) : Wa X μ R Z ce sl n S (pc) L (zR k :: st) Rf V :=
  wa_getO hd (hμ ▸ fX1_46) rfl inX5 rfl rfl (by decide) (fun _ _ _ => rfl) hS ha kk
theorem fX5_18 : Cond.fieldLink RX5 18 RX5 (TX5 4).2.1 (TX5 4).2.2.1 ∈ lw_ok := lw_in 156 (by decide +kernel) (by decide +kernel)
theorem gX5_18 {k : Nat} {a : Option Nat} (hd : decode μ.2.1 pc = .ok (.getfield 18, 3)) (hμ : μ.1.cls = RX5) (hS : S k = some (.inr 5)) (ha : Rf k 4 = a) (kk : Wa X μ R Z ce sl n S (pc + 3) L (zO a :: st) Rf V) : Wa X μ R Z ce sl n S (pc) L (zR k :: st) Rf V :=
  wa_getO hd (hμ ▸ fX5_18) rfl inX5 rfl rfl (by decide) (fun _ _ _ => rfl) hS ha kk
theorem pX5_18 {k : Nat} {r : Option Nat} (hd : decode μ.2.1 pc = .ok (.putfield 18, 3)) (hμ : μ.1.cls = RX5) (hμ2 : μ.1.name = "<init>") (hS : S k = some (.inr 5)) (kk : Wa X μ R Z ce sl n S (pc + 3) L st (zp Rf k (za (Rf k) 4 r)) V) : Wa X μ R Z ce sl n S (pc) L (zO r :: zR k :: st) Rf V :=
  wa_putOF (ty := tyX5 4) hd (hμ ▸ fX5_18) rfl inX5 rfl rfl (by decide) tyX5_ok nmX5 rfl hμ2 (hμ ▸ rfl) (tyX5_ok 4 (by decide)) (fun r => by cases r <;> exact ⟨rfl, rfl⟩) (fun _ _ _ => rfl) hS kk
theorem fX5_21 : Cond.fieldLink RX5 21 RX5 (TX5 5).2.1 (TX5 5).2.2.1 ∈ lw_ok := lw_in 157 (by decide +kernel) (by decide +kernel)
theorem gX5_21 {k : Nat} {a : Option Nat} (hd : decode μ.2.1 pc = .ok (.getfield 21, 3)) (hμ : μ.1.cls = RX5) (hS : S k = some (.inr 5)) (ha : Rf k 5 = a) (kk : Wa X μ R Z ce sl n S (pc + 3) L (zO a :: st) Rf V) : Wa X μ R Z ce sl n S (pc) L (zR k :: st) Rf V :=
  wa_getO hd (hμ ▸ fX5_21) rfl inX5 rfl rfl (by decide) (fun _ _ _ => rfl) hS ha kk
theorem pX5_21 {k : Nat} {r : Option Nat} (hd : decode μ.2.1 pc = .ok (.putfield 21, 3)) (hμ : μ.1.cls = RX5) (hμ2 : μ.1.name = "<init>") (hS : S k = some (.inr 5)) (kk : Wa X μ R Z ce sl n S (pc + 3) L st (zp Rf k (za (Rf k) 5 r)) V) : Wa X μ R Z ce sl n S (pc) L (zO r :: zR k :: st) Rf V :=
  wa_putOF (ty := tyX5 5) hd (hμ ▸ fX5_21) rfl inX5 rfl rfl (by decide) tyX5_ok nmX5 rfl hμ2 (hμ ▸ rfl) (tyX5_ok 5 (by decide)) (fun r => by cases r <;> exact ⟨rfl, rfl⟩) (fun _ _ _ => rfl) hS kk
theorem fX1_49 : Cond.fieldLink RX1 49 RX5 (TX5 5).2.1 (TX5 5).2.2.1 ∈ lw_ok := lw_in 158 (by decide +kernel) (by decide +kernel)
theorem gX1_49 {k : Nat} {a : Option Nat} (hd : decode μ.2.1 pc = .ok (.getfield 49, 3)) (hμ : μ.1.cls = RX1) (hS : S k = some (.inr 5)) (ha : Rf k 5 = a) (kk : Wa X μ R Z ce sl n S (pc + 3) L (zO a :: st) Rf V) : Wa X μ R Z ce sl n S (pc) L (zR k :: st) Rf V :=
  wa_getO hd (hμ ▸ fX1_49) rfl inX5 rfl rfl (by decide) (fun _ _ _ => rfl) hS ha kk
theorem fX5_31 : Cond.fieldLink RX5 31 RX5 (TX5 6).2.1 (TX5 6).2.2.1 ∈ lw_ok := lw_in 159 (by decide +kernel) (by decide +kernel)
theorem gX5_31 {k : Nat} (hd : decode μ.2.1 pc = .ok (.getfield 31, 3)) (hμ : μ.1.cls = RX5) (hS : S k = some (.inr 5)) (kk : Wa X μ R Z ce sl n S (pc + 3) L (zI (V k 6) :: st) Rf V) : Wa X μ R Z ce sl n S (pc) L (zR k :: st) Rf V :=
  wa_getI hd (hμ ▸ fX5_31) rfl inX5 rfl rfl (by decide) (fun _ _ _ => rfl) hS kk
theorem pX5_31 {k : Nat} {x : Int} (hd : decode μ.2.1 pc = .ok (.putfield 31, 3)) (hμ : μ.1.cls = RX5) (hS : S k = some (.inr 5)) (kk : Wa X μ R Z ce sl n S (pc + 3) L st Rf (zp V k (za (V k) 6 x))) : Wa X μ R Z ce sl n S (pc) L (zI x :: zR k :: st) Rf V :=
  wa_putI hd (hμ ▸ fX5_31) rfl inX5 rfl rfl (by decide) tyX5_ok nmX5 rfl rfl (fun _ _ _ => rfl) hS kk
theorem fX6_105 : Cond.fieldLink RX6 105 RX5 (TX5 6).2.1 (TX5 6).2.2.1 ∈ lw_ok := lw_in 160 (by decide +kernel) (by decide +kernel)
theorem gX6_105 {k : Nat} (hd : decode μ.2.1 pc = .ok (.getfield 105, 3)) (hμ : μ.1.cls = RX6) (hS : S k = some (.inr 5)) (kk : Wa X μ R Z ce sl n S (pc + 3) L (zI (V k 6) :: st) Rf V) : Wa X μ R Z ce sl n S (pc) L (zR k :: st) Rf V :=
  wa_getI hd (hμ ▸ fX6_105) rfl inX5 rfl rfl (by decide) (fun _ _ _ => rfl) hS kk
theorem pX6_105 {k : Nat} {x : Int} (hd : decode μ.2.1 pc = .ok (.putfield 105, 3)) (hμ : μ.1.cls = RX6) (hS : S k = some (.inr 5)) (kk : Wa X μ R Z ce sl n S (pc + 3) L st Rf (zp V k (za (V k) 6 x))) : Wa X μ R Z ce sl n S (pc) L (zI x :: zR k :: st) Rf V :=
  wa_putI hd (hμ ▸ fX6_105) rfl inX5 rfl rfl (by decide) tyX5_ok nmX5 rfl rfl (fun _ _ _ => rfl) hS kk
theorem fX5_34 : Cond.fieldLink RX5 34 RX5 (TX5 7).2.1 (TX5 7).2.2.1 ∈ lw_ok := lw_in 161 (by decide +kernel) (by decide +kernel)
theorem gX5_34 {k : Nat} (hd : decode μ.2.1 pc = .ok (.getfield 34, 3)) (hμ : μ.1.cls = RX5) (hS : S k = some (.inr 5)) (kk : Wa X μ R Z ce sl n S (pc + 3) L (zI (V k 7) :: st) Rf V) : Wa X μ R Z ce sl n S (pc) L (zR k :: st) Rf V :=
  wa_getI hd (hμ ▸ fX5_34) rfl inX5 rfl rfl (by decide) (fun _ _ _ => rfl) hS kk
theorem pX5_34 {k : Nat} {x : Int} (hd : decode μ.2.1 pc = .ok (.putfield 34, 3)) (hμ : μ.1.cls = RX5) (hS : S k = some (.inr 5)) (kk : Wa X μ R Z ce sl n S (pc + 3) L st Rf (zp V k (za (V k) 7 x))) : Wa X μ R Z ce sl n S (pc) L (zI x :: zR k :: st) Rf V :=
  wa_putI hd (hμ ▸ fX5_34) rfl inX5 rfl rfl (by decide) tyX5_ok nmX5 rfl rfl (fun _ _ _ => rfl) hS kk
theorem fX6_119 : Cond.fieldLink RX6 119 RX5 (TX5 7).2.1 (TX5 7).2.2.1 ∈ lw_ok := lw_in 162 (by decide +kernel) (by decide +kernel)
theorem gX6_119 {k : Nat} (hd : decode μ.2.1 pc = .ok (.getfield 119, 3)) (hμ : μ.1.cls = RX6) (hS : S k = some (.inr 5)) (kk : Wa X μ R Z ce sl n S (pc + 3) L (zI (V k 7) :: st) Rf V) : Wa X μ R Z ce sl n S (pc) L (zR k :: st) Rf V :=
  wa_getI hd (hμ ▸ fX6_119) rfl inX5 rfl rfl (by decide) (fun _ _ _ => rfl) hS kk
theorem pX6_119 {k : Nat} {x : Int} (hd : decode μ.2.1 pc = .ok (.putfield 119, 3)) (hμ : μ.1.cls = RX6) (hS : S k = some (.inr 5)) (kk : Wa X μ R Z ce sl n S (pc + 3) L st Rf (zp V k (za (V k) 7 x))) : Wa X μ R Z ce sl n S (pc) L (zI x :: zR k :: st) Rf V :=
  wa_putI hd (hμ ▸ fX6_119) rfl inX5 rfl rfl (by decide) tyX5_ok nmX5 rfl rfl (fun _ _ _ => rfl) hS kk
theorem fX1_9 : Cond.fieldLink RX1 9 RX1 (TX1 0).2.1 (TX1 0).2.2.1 ∈ lw_ok := lw_in 186 (by decide +kernel) (by decide +kernel)
theorem gX1_9 {k : Nat} {a : Option Nat} (hd : decode μ.2.1 pc = .ok (.getfield 9, 3)) (hμ : μ.1.cls = RX1) (hS : S k = some (.inr 1)) (ha : Rf k 0 = a) (kk : Wa X μ R Z ce sl n S (pc + 3) L (zO a :: st) Rf V) : Wa X μ R Z ce sl n S (pc) L (zR k :: st) Rf V :=
  wa_getO hd (hμ ▸ fX1_9) rfl inX1 rfl rfl (by decide) (fun _ _ _ => rfl) hS ha kk
theorem pX1_9 {k : Nat} {r : Option Nat} (hd : decode μ.2.1 pc = .ok (.putfield 9, 3)) (hμ : μ.1.cls = RX1) (hμ2 : μ.1.name = "<init>") (hS : S k = some (.inr 1)) (kk : Wa X μ R Z ce sl n S (pc + 3) L st (zp Rf k (za (Rf k) 0 r)) V) : Wa X μ R Z ce sl n S (pc) L (zO r :: zR k :: st) Rf V :=
  wa_putOF (ty := tyX1 0) hd (hμ ▸ fX1_9) rfl inX1 rfl rfl (by decide) tyX1_ok nmX1 rfl hμ2 (hμ ▸ rfl) (tyX1_ok 0 (by decide)) (fun r => by cases r <;> exact ⟨rfl, rfl⟩) (fun _ _ _ => rfl) hS kk
theorem fX1_15 : Cond.fieldLink RX1 15 RX1 (TX1 1).2.1 (TX1 1).2.2.1 ∈ lw_ok := lw_in 187 (by decide +kernel) (by decide +kernel)
theorem gX1_15 {k : Nat} {a : Option Nat} (hd : decode μ.2.1 pc = .ok (.getfield 15, 3)) (hμ : μ.1.cls = RX1) (hS : S k = some (.inr 1)) (ha : Rf k 1 = a) (kk : Wa X μ R Z ce sl n S (pc + 3) L (zO a :: st) Rf V) : Wa X μ R Z ce sl n S (pc) L (zR k :: st) Rf V :=
  wa_getO hd (hμ ▸ fX1_15) rfl inX1 rfl rfl (by decide) (fun _ _ _ => rfl) hS ha kk
theorem pX1_15 {k : Nat} {r : Option Nat} (hd : decode μ.2.1 pc = .ok (.putfield 15, 3)) (hμ : μ.1.cls = RX1) (hμ2 : μ.1.name = "<init>") (hS : S k = some (.inr 1)) (kk : Wa X μ R Z ce sl n S (pc + 3) L st (zp Rf k (za (Rf k) 1 r)) V) : Wa X μ R Z ce sl n S (pc) L (zO r :: zR k :: st) Rf V :=
  wa_putOF (ty := tyX1 1) hd (hμ ▸ fX1_15) rfl inX1 rfl rfl (by decide) tyX1_ok nmX1 rfl hμ2 (hμ ▸ rfl) (tyX1_ok 1 (by decide)) (fun r => by cases r <;> exact ⟨rfl, rfl⟩) (fun _ _ _ => rfl) hS kk
theorem fX6_135 : Cond.fieldLink RX6 135 RX1 (TX1 1).2.1 (TX1 1).2.2.1 ∈ lw_ok := lw_in 188 (by decide +kernel) (by decide +kernel)
theorem gX6_135 {k : Nat} {a : Option Nat} (hd : decode μ.2.1 pc = .ok (.getfield 135, 3)) (hμ : μ.1.cls = RX6) (hS : S k = some (.inr 1)) (ha : Rf k 1 = a) (kk : Wa X μ R Z ce sl n S (pc + 3) L (zO a :: st) Rf V) : Wa X μ R Z ce sl n S (pc) L (zR k :: st) Rf V :=
  wa_getO hd (hμ ▸ fX6_135) rfl inX1 rfl rfl (by decide) (fun _ _ _ => rfl) hS ha kk
theorem fX1_18 : Cond.fieldLink RX1 18 RX1 (TX1 2).2.1 (TX1 2).2.2.1 ∈ lw_ok := lw_in 189 (by decide +kernel) (by decide +kernel)
theorem gX1_18 {k : Nat} (hd : decode μ.2.1 pc = .ok (.getfield 18, 3)) (hμ : μ.1.cls = RX1) (hS : S k = some (.inr 1)) (kk : Wa X μ R Z ce sl n S (pc + 3) L (zI (V k 2) :: st) Rf V) : Wa X μ R Z ce sl n S (pc) L (zR k :: st) Rf V :=
  wa_getI hd (hμ ▸ fX1_18) rfl inX1 rfl rfl (by decide) (fun _ _ _ => rfl) hS kk
theorem pX1_18 {k : Nat} {x : Int} (hd : decode μ.2.1 pc = .ok (.putfield 18, 3)) (hμ : μ.1.cls = RX1) (hS : S k = some (.inr 1)) (kk : Wa X μ R Z ce sl n S (pc + 3) L st Rf (zp V k (za (V k) 2 x))) : Wa X μ R Z ce sl n S (pc) L (zI x :: zR k :: st) Rf V :=
  wa_putI hd (hμ ▸ fX1_18) rfl inX1 rfl rfl (by decide) tyX1_ok nmX1 rfl rfl (fun _ _ _ => rfl) hS kk
theorem fX6_132 : Cond.fieldLink RX6 132 RX1 (TX1 2).2.1 (TX1 2).2.2.1 ∈ lw_ok := lw_in 190 (by decide +kernel) (by decide +kernel)
theorem gX6_132 {k : Nat} (hd : decode μ.2.1 pc = .ok (.getfield 132, 3)) (hμ : μ.1.cls = RX6) (hS : S k = some (.inr 1)) (kk : Wa X μ R Z ce sl n S (pc + 3) L (zI (V k 2) :: st) Rf V) : Wa X μ R Z ce sl n S (pc) L (zR k :: st) Rf V :=
  wa_getI hd (hμ ▸ fX6_132) rfl inX1 rfl rfl (by decide) (fun _ _ _ => rfl) hS kk
theorem pX6_132 {k : Nat} {x : Int} (hd : decode μ.2.1 pc = .ok (.putfield 132, 3)) (hμ : μ.1.cls = RX6) (hS : S k = some (.inr 1)) (kk : Wa X μ R Z ce sl n S (pc + 3) L st Rf (zp V k (za (V k) 2 x))) : Wa X μ R Z ce sl n S (pc) L (zI x :: zR k :: st) Rf V :=
  wa_putI hd (hμ ▸ fX6_132) rfl inX1 rfl rfl (by decide) tyX1_ok nmX1 rfl rfl (fun _ _ _ => rfl) hS kk
theorem fX3_9 : Cond.fieldLink RX3 9 RX3 (TX3 0).2.1 (TX3 0).2.2.1 ∈ lw_ok := lw_in 204 (by decide +kernel) (by decide +kernel)
theorem gX3_9 {k : Nat} {a : Option Nat} (hd : decode μ.2.1 pc = .ok (.getfield 9, 3)) (hμ : μ.1.cls = RX3) (hS : S k = some (.inr 3)) (ha : Rf k 0 = a) (kk : Wa X μ R Z ce sl n S (pc + 3) L (zO a :: st) Rf V) : Wa X μ R Z ce sl n S (pc) L (zR k :: st) Rf V :=
  wa_getO hd (hμ ▸ fX3_9) rfl inX3 rfl rfl (by decide) (fun _ _ _ => rfl) hS ha kk
theorem pX3_9 {k : Nat} {r : Option Nat} (hd : decode μ.2.1 pc = .ok (.putfield 9, 3)) (hμ : μ.1.cls = RX3) (hμ2 : μ.1.name = "<init>") (hS : S k = some (.inr 3)) (kk : Wa X μ R Z ce sl n S (pc + 3) L st (zp Rf k (za (Rf k) 0 r)) V) : Wa X μ R Z ce sl n S (pc) L (zO r :: zR k :: st) Rf V :=
  wa_putOF (ty := tyX3 0) hd (hμ ▸ fX3_9) rfl inX3 rfl rfl (by decide) tyX3_ok nmX3 rfl hμ2 (hμ ▸ rfl) (tyX3_ok 0 (by decide)) (fun r => by cases r <;> exact ⟨rfl, rfl⟩) (fun _ _ _ => rfl) hS kk
theorem fX3_15 : Cond.fieldLink RX3 15 RX3 (TX3 1).2.1 (TX3 1).2.2.1 ∈ lw_ok := lw_in 205 (by decide +kernel) (by decide +kernel)
theorem gX3_15 {k : Nat} {a : Option Nat} (hd : decode μ.2.1 pc = .ok (.getfield 15, 3)) (hμ : μ.1.cls = RX3) (hS : S k = some (.inr 3)) (ha : Rf k 1 = a) (kk : Wa X μ R Z ce sl n S (pc + 3) L (zO a :: st) Rf V) : Wa X μ R Z ce sl n S (pc) L (zR k :: st) Rf V :=
  wa_getO hd (hμ ▸ fX3_15) rfl inX3 rfl rfl (by decide) (fun _ _ _ => rfl) hS ha kk
theorem pX3_15 {k : Nat} {r : Option Nat} (hd : decode μ.2.1 pc = .ok (.putfield 15, 3)) (hμ : μ.1.cls = RX3) (hμ2 : μ.1.name = "<init>") (hS : S k = some (.inr 3)) (kk : Wa X μ R Z ce sl n S (pc + 3) L st (zp Rf k (za (Rf k) 1 r)) V) : Wa X μ R Z ce sl n S (pc) L (zO r :: zR k :: st) Rf V :=
  wa_putOF (ty := tyX3 1) hd (hμ ▸ fX3_15) rfl inX3 rfl rfl (by decide) tyX3_ok nmX3 rfl hμ2 (hμ ▸ rfl) (tyX3_ok 1 (by decide)) (fun r => by cases r <;> exact ⟨rfl, rfl⟩) (fun _ _ _ => rfl) hS kk
theorem fX3_18 : Cond.fieldLink RX3 18 RX3 (TX3 2).2.1 (TX3 2).2.2.1 ∈ lw_ok := lw_in 206 (by decide +kernel) (by decide +kernel)
theorem gX3_18 {k : Nat} (hd : decode μ.2.1 pc = .ok (.getfield 18, 3)) (hμ : μ.1.cls = RX3) (hS : S k = some (.inr 3)) (kk : Wa X μ R Z ce sl n S (pc + 3) L (zI (V k 2) :: st) Rf V) : Wa X μ R Z ce sl n S (pc) L (zR k :: st) Rf V :=
  wa_getI hd (hμ ▸ fX3_18) rfl inX3 rfl rfl (by decide) (fun _ _ _ => rfl) hS kk
theorem pX3_18 {k : Nat} {x : Int} (hd : decode μ.2.1 pc = .ok (.putfield 18, 3)) (hμ : μ.1.cls = RX3) (hS : S k = some (.inr 3)) (kk : Wa X μ R Z ce sl n S (pc + 3) L st Rf (zp V k (za (V k) 2 x))) : Wa X μ R Z ce sl n S (pc) L (zI x :: zR k :: st) Rf V :=
  wa_putI hd (hμ ▸ fX3_18) rfl inX3 rfl rfl (by decide) tyX3_ok nmX3 rfl rfl (fun _ _ _ => rfl) hS kk
theorem fX3_22 : Cond.fieldLink RX3 22 RX3 (TX3 3).2.1 (TX3 3).2.2.1 ∈ lw_ok := lw_in 207 (by decide +kernel) (by decide +kernel)
theorem gX3_22 {k : Nat} (hd : decode μ.2.1 pc = .ok (.getfield 22, 3)) (hμ : μ.1.cls = RX3) (hS : S k = some (.inr 3)) (kk : Wa X μ R Z ce sl n S (pc + 3) L (zI (V k 3) :: st) Rf V) : Wa X μ R Z ce sl n S (pc) L (zR k :: st) Rf V :=
  wa_getI hd (hμ ▸ fX3_22) rfl inX3 rfl rfl (by decide) (fun _ _ _ => rfl) hS kk
theorem pX3_22 {k : Nat} {x : Int} (hd : decode μ.2.1 pc = .ok (.putfield 22, 3)) (hμ : μ.1.cls = RX3) (hS : S k = some (.inr 3)) (kk : Wa X μ R Z ce sl n S (pc + 3) L st Rf (zp V k (za (V k) 3 x))) : Wa X μ R Z ce sl n S (pc) L (zI x :: zR k :: st) Rf V :=
  wa_putI hd (hμ ▸ fX3_22) rfl inX3 rfl rfl (by decide) tyX3_ok nmX3 rfl rfl (fun _ _ _ => rfl) hS kk
theorem fX2_9 : Cond.fieldLink RX2 9 RX2 (TX2 0).2.1 (TX2 0).2.2.1 ∈ lw_ok := lw_in 223 (by decide +kernel) (by decide +kernel)
theorem gX2_9 {k : Nat} {a : Option Nat} (hd : decode μ.2.1 pc = .ok (.getfield 9, 3)) (hμ : μ.1.cls = RX2) (hS : S k = some (.inr 2)) (ha : Rf k 0 = a) (kk : Wa X μ R Z ce sl n S (pc + 3) L (zO a :: st) Rf V) : Wa X μ R Z ce sl n S (pc) L (zR k :: st) Rf V :=
  wa_getO hd (hμ ▸ fX2_9) rfl inX2 rfl rfl (by decide) (fun _ _ _ => rfl) hS ha kk
theorem pX2_9 {k : Nat} {r : Option Nat} (hd : decode μ.2.1 pc = .ok (.putfield 9, 3)) (hμ : μ.1.cls = RX2) (hμ2 : μ.1.name = "<init>") (hS : S k = some (.inr 2)) (kk : Wa X μ R Z ce sl n S (pc + 3) L st (zp Rf k (za (Rf k) 0 r)) V) : Wa X μ R Z ce sl n S (pc) L (zO r :: zR k :: st) Rf V :=
  wa_putOF (ty := tyX2 0) hd (hμ ▸ fX2_9) rfl inX2 rfl rfl (by decide) tyX2_ok nmX2 rfl hμ2 (hμ ▸ rfl) (tyX2_ok 0 (by decide)) (fun r => by cases r <;> exact ⟨rfl, rfl⟩) (fun _ _ _ => rfl) hS kk
theorem fX2_15 : Cond.fieldLink RX2 15 RX2 (TX2 1).2.1 (TX2 1).2.2.1 ∈ lw_ok := lw_in 224 (by decide +kernel) (by decide +kernel)
theorem gX2_15 {k : Nat} {a : Option Nat} (hd : decode μ.2.1 pc = .ok (.getfield 15, 3)) (hμ : μ.1.cls = RX2) (hS : S k = some (.inr 2)) (ha : Rf k 1 = a) (kk : Wa X μ R Z ce sl n S (pc + 3) L (zO a :: st) Rf V) : Wa X μ R Z ce sl n S (pc) L (zR k :: st) Rf V :=
  wa_getO hd (hμ ▸ fX2_15) rfl inX2 rfl rfl (by decide) (fun _ _ _ => rfl) hS ha kk
theorem pX2_15 {k : Nat} {r : Option Nat} (hd : decode μ.2.1 pc = .ok (.putfield 15, 3)) (hμ : μ.1.cls = RX2) (hμ2 : μ.1.name = "<init>") (hS : S k = some (.inr 2)) (kk : Wa X μ R Z ce sl n S (pc + 3) L st (zp Rf k (za (Rf k) 1 r)) V) : Wa X μ R Z ce sl n S (pc) L (zO r :: zR k :: st) Rf V :=
  wa_putOF (ty := tyX2 1) hd (hμ ▸ fX2_15) rfl inX2 rfl rfl (by decide) tyX2_ok nmX2 rfl hμ2 (hμ ▸ rfl) (tyX2_ok 1 (by decide)) (fun r => by cases r <;> exact ⟨rfl, rfl⟩) (fun _ _ _ => rfl) hS kk
theorem fX2_18 : Cond.fieldLink RX2 18 RX2 (TX2 2).2.1 (TX2 2).2.2.1 ∈ lw_ok := lw_in 225 (by decide +kernel) (by decide +kernel)
theorem gX2_18 {k : Nat} {a : Option Nat} (hd : decode μ.2.1 pc = .ok (.getfield 18, 3)) (hμ : μ.1.cls = RX2) (hS : S k = some (.inr 2)) (ha : Rf k 2 = a) (kk : Wa X μ R Z ce sl n S (pc + 3) L (zO a :: st) Rf V) : Wa X μ R Z ce sl n S (pc) L (zR k :: st) Rf V :=
  wa_getO hd (hμ ▸ fX2_18) rfl inX2 rfl rfl (by decide) (fun _ _ _ => rfl) hS ha kk
theorem pX2_18 {k : Nat} {r : Option Nat} (hd : decode μ.2.1 pc = .ok (.putfield 18, 3)) (hμ : μ.1.cls = RX2) (hμ2 : μ.1.name = "<init>") (hS : S k = some (.inr 2)) (kk : Wa X μ R Z ce sl n S (pc + 3) L st (zp Rf k (za (Rf k) 2 r)) V) : Wa X μ R Z ce sl n S (pc) L (zO r :: zR k :: st) Rf V :=
  wa_putOF (ty := tyX2 2) hd (hμ ▸ fX2_18) rfl inX2 rfl rfl (by decide) tyX2_ok nmX2 rfl hμ2 (hμ ▸ rfl) (tyX2_ok 2 (by decide)) (fun r => by cases r <;> exact ⟨rfl, rfl⟩) (fun _ _ _ => rfl) hS kk
theorem fX2_21 : Cond.fieldLink RX2 21 RX2 (TX2 3).2.1 (TX2 3).2.2.1 ∈ lw_ok := lw_in 226 (by decide +kernel) (by decide +kernel)
theorem gX2_21 {k : Nat} {a : Option Nat} (hd : decode μ.2.1 pc = .ok (.getfield 21, 3)) (hμ : μ.1.cls = RX2) (hS : S k = some (.inr 2)) (ha : Rf k 3 = a) (kk : Wa X μ R Z ce sl n S (pc + 3) L (zO a :: st) Rf V) : Wa X μ R Z ce sl n S (pc) L (zR k :: st) Rf V :=
  wa_getO hd (hμ ▸ fX2_21) rfl inX2 rfl rfl (by decide) (fun _ _ _ => rfl) hS ha kk
theorem pX2_21 {k : Nat} {r : Option Nat} (hd : decode μ.2.1 pc = .ok (.putfield 21, 3)) (hμ : μ.1.cls = RX2) (hμ2 : μ.1.name = "<init>") (hS : S k = some (.inr 2)) (kk : Wa X μ R Z ce sl n S (pc + 3) L st (zp Rf k (za (Rf k) 3 r)) V) : Wa X μ R Z ce sl n S (pc) L (zO r :: zR k :: st) Rf V :=
  wa_putOF (ty := tyX2 3) hd (hμ ▸ fX2_21) rfl inX2 rfl rfl (by decide) tyX2_ok nmX2 rfl hμ2 (hμ ▸ rfl) (tyX2_ok 3 (by decide)) (fun r => by cases r <;> exact ⟨rfl, rfl⟩) (fun _ _ _ => rfl) hS kk
theorem fX2_24 : Cond.fieldLink RX2 24 RX2 (TX2 4).2.1 (TX2 4).2.2.1 ∈ lw_ok := lw_in 227 (by decide +kernel) (by decide +kernel)
theorem gX2_24 {k : Nat} (hd : decode μ.2.1 pc = .ok (.getfield 24, 3)) (hμ : μ.1.cls = RX2) (hS : S k = some (.inr 2)) (kk : Wa X μ R Z ce sl n S (pc + 3) L (zI (V k 4) :: st) Rf V) : Wa X μ R Z ce sl n S (pc) L (zR k :: st) Rf V :=
  wa_getI hd (hμ ▸ fX2_24) rfl inX2 rfl rfl (by decide) (fun _ _ _ => rfl) hS kk
theorem pX2_24 {k : Nat} {x : Int} (hd : decode μ.2.1 pc = .ok (.putfield 24, 3)) (hμ : μ.1.cls = RX2) (hS : S k = some (.inr 2)) (kk : Wa X μ R Z ce sl n S (pc + 3) L st Rf (zp V k (za (V k) 4 x))) : Wa X μ R Z ce sl n S (pc) L (zI x :: zR k :: st) Rf V :=
  wa_putI hd (hμ ▸ fX2_24) rfl inX2 rfl rfl (by decide) tyX2_ok nmX2 rfl rfl (fun _ _ _ => rfl) hS kk
theorem fX2_28 : Cond.fieldLink RX2 28 RX2 (TX2 5).2.1 (TX2 5).2.2.1 ∈ lw_ok := lw_in 228 (by decide +kernel) (by decide +kernel)
theorem gX2_28 {k : Nat} (hd : decode μ.2.1 pc = .ok (.getfield 28, 3)) (hμ : μ.1.cls = RX2) (hS : S k = some (.inr 2)) (kk : Wa X μ R Z ce sl n S (pc + 3) L (zI (V k 5) :: st) Rf V) : Wa X μ R Z ce sl n S (pc) L (zR k :: st) Rf V :=
  wa_getI hd (hμ ▸ fX2_28) rfl inX2 rfl rfl (by decide) (fun _ _ _ => rfl) hS kk
theorem pX2_28 {k : Nat} {x : Int} (hd : decode μ.2.1 pc = .ok (.putfield 28, 3)) (hμ : μ.1.cls = RX2) (hS : S k = some (.inr 2)) (kk : Wa X μ R Z ce sl n S (pc + 3) L st Rf (zp V k (za (V k) 5 x))) : Wa X μ R Z ce sl n S (pc) L (zI x :: zR k :: st) Rf V :=
  wa_putI hd (hμ ▸ fX2_28) rfl inX2 rfl rfl (by decide) tyX2_ok nmX2 rfl rfl (fun _ _ _ => rfl) hS kk
theorem fX6_163 : Cond.fieldLink RX6 163 RX2 (TX2 5).2.1 (TX2 5).2.2.1 ∈ lw_ok := lw_in 229 (by decide +kernel) (by decide +kernel)
theorem gX6_163 {k : Nat} (hd : decode μ.2.1 pc = .ok (.getfield 163, 3)) (hμ : μ.1.cls = RX6) (hS : S k = some (.inr 2)) (kk : Wa X μ R Z ce sl n S (pc + 3) L (zI (V k 5) :: st) Rf V) : Wa X μ R Z ce sl n S (pc) L (zR k :: st) Rf V :=
  wa_getI hd (hμ ▸ fX6_163) rfl inX2 rfl rfl (by decide) (fun _ _ _ => rfl) hS kk
theorem pX6_163 {k : Nat} {x : Int} (hd : decode μ.2.1 pc = .ok (.putfield 163, 3)) (hμ : μ.1.cls = RX6) (hS : S k = some (.inr 2)) (kk : Wa X μ R Z ce sl n S (pc + 3) L st Rf (zp V k (za (V k) 5 x))) : Wa X μ R Z ce sl n S (pc) L (zI x :: zR k :: st) Rf V :=
  wa_putI hd (hμ ▸ fX6_163) rfl inX2 rfl rfl (by decide) tyX2_ok nmX2 rfl rfl (fun _ _ _ => rfl) hS kk
theorem fX2_31 : Cond.fieldLink RX2 31 RX2 (TX2 6).2.1 (TX2 6).2.2.1 ∈ lw_ok := lw_in 230 (by decide +kernel) (by decide +kernel)
theorem gX2_31 {k : Nat} (hd : decode μ.2.1 pc = .ok (.getfield 31, 3)) (hμ : μ.1.cls = RX2) (hS : S k = some (.inr 2)) (kk : Wa X μ R Z ce sl n S (pc + 3) L (zI (V k 6) :: st) Rf V) : Wa X μ R Z ce sl n S (pc) L (zR k :: st) Rf V :=
  wa_getI hd (hμ ▸ fX2_31) rfl inX2 rfl rfl (by decide) (fun _ _ _ => rfl) hS kk
theorem pX2_31 {k : Nat} {x : Int} (hd : decode μ.2.1 pc = .ok (.putfield 31, 3)) (hμ : μ.1.cls = RX2) (hS : S k = some (.inr 2)) (kk : Wa X μ R Z ce sl n S (pc + 3) L st Rf (zp V k (za (V k) 6 x))) : Wa X μ R Z ce sl n S (pc) L (zI x :: zR k :: st) Rf V :=
  wa_putI hd (hμ ▸ fX2_31) rfl inX2 rfl rfl (by decide) tyX2_ok nmX2 rfl rfl (fun _ _ _ => rfl) hS kk
theorem fX6_166 : Cond.fieldLink RX6 166 RX2 (TX2 6).2.1 (TX2 6).2.2.1 ∈ lw_ok := lw_in 231 (by decide +kernel) (by decide +kernel)
theorem gX6_166 {k : Nat} (hd : decode μ.2.1 pc = .ok (.getfield 166, 3)) (hμ : μ.1.cls = RX6) (hS : S k = some (.inr 2)) (kk : Wa X μ R Z ce sl n S (pc + 3) L (zI (V k 6) :: st) Rf V) : Wa X μ R Z ce sl n S (pc) L (zR k :: st) Rf V :=
  wa_getI hd (hμ ▸ fX6_166) rfl inX2 rfl rfl (by decide) (fun _ _ _ => rfl) hS kk
theorem pX6_166 {k : Nat} {x : Int} (hd : decode μ.2.1 pc = .ok (.putfield 166, 3)) (hμ : μ.1.cls = RX6) (hS : S k = some (.inr 2)) (kk : Wa X μ R Z ce sl n S (pc + 3) L st Rf (zp V k (za (V k) 6 x))) : Wa X μ R Z ce sl n S (pc) L (zI x :: zR k :: st) Rf V :=
  wa_putI hd (hμ ▸ fX6_166) rfl inX2 rfl rfl (by decide) tyX2_ok nmX2 rfl rfl (fun _ _ _ => rfl) hS kk
theorem fX2_34 : Cond.fieldLink RX2 34 RX2 (TX2 7).2.1 (TX2 7).2.2.1 ∈ lw_ok := lw_in 232 (by decide +kernel) (by decide +kernel)
theorem gX2_34 {k : Nat} (hd : decode μ.2.1 pc = .ok (.getfield 34, 3)) (hμ : μ.1.cls = RX2) (hS : S k = some (.inr 2)) (kk : Wa X μ R Z ce sl n S (pc + 3) L (zI (V k 7) :: st) Rf V) : Wa X μ R Z ce sl n S (pc) L (zR k :: st) Rf V :=
  wa_getI hd (hμ ▸ fX2_34) rfl inX2 rfl rfl (by decide) (fun _ _ _ => rfl) hS kk
theorem pX2_34 {k : Nat} {x : Int} (hd : decode μ.2.1 pc = .ok (.putfield 34, 3)) (hμ : μ.1.cls = RX2) (hS : S k = some (.inr 2)) (kk : Wa X μ R Z ce sl n S (pc + 3) L st Rf (zp V k (za (V k) 7 x))) : Wa X μ R Z ce sl n S (pc) L (zI x :: zR k :: st) Rf V :=
  wa_putI hd (hμ ▸ fX2_34) rfl inX2 rfl rfl (by decide) tyX2_ok nmX2 rfl rfl (fun _ _ _ => rfl) hS kk
theorem fX6_169 : Cond.fieldLink RX6 169 RX2 (TX2 7).2.1 (TX2 7).2.2.1 ∈ lw_ok := lw_in 233 (by decide +kernel) (by decide +kernel)
theorem gX6_169 {k : Nat} (hd : decode μ.2.1 pc = .ok (.getfield 169, 3)) (hμ : μ.1.cls = RX6) (hS : S k = some (.inr 2)) (kk : Wa X μ R Z ce sl n S (pc + 3) L (zI (V k 7) :: st) Rf V) : Wa X μ R Z ce sl n S (pc) L (zR k :: st) Rf V :=
  wa_getI hd (hμ ▸ fX6_169) rfl inX2 rfl rfl (by decide) (fun _ _ _ => rfl) hS kk
theorem pX6_169 {k : Nat} {x : Int} (hd : decode μ.2.1 pc = .ok (.putfield 169, 3)) (hμ : μ.1.cls = RX6) (hS : S k = some (.inr 2)) (kk : Wa X μ R Z ce sl n S (pc + 3) L st Rf (zp V k (za (V k) 7 x))) : Wa X μ R Z ce sl n S (pc) L (zI x :: zR k :: st) Rf V :=
  wa_putI hd (hμ ▸ fX6_169) rfl inX2 rfl rfl (by decide) tyX2_ok nmX2 rfl rfl (fun _ _ _ => rfl) hS kk
theorem fX0_9 : Cond.fieldLink RX0 9 RX0 (TX0 0).2.1 (TX0 0).2.2.1 ∈ lw_ok := lw_in 257 (by decide +kernel) (by decide +kernel)
theorem gX0_9 {k : Nat} {a : Option Nat} (hd : decode μ.2.1 pc = .ok (.getfield 9, 3)) (hμ : μ.1.cls = RX0) (hS : S k = some (.inr 0)) (ha : Rf k 0 = a) (kk : Wa X μ R Z ce sl n S (pc + 3) L (zO a :: st) Rf V) : Wa X μ R Z ce sl n S (pc) L (zR k :: st) Rf V :=
  wa_getO hd (hμ ▸ fX0_9) rfl inX0 rfl rfl (by decide) (fun _ _ _ => rfl) hS ha kk
theorem pX0_9 {k : Nat} {r : Option Nat} (hd : decode μ.2.1 pc = .ok (.putfield 9, 3)) (hμ : μ.1.cls = RX0) (hμ2 : μ.1.name = "<init>") (hS : S k = some (.inr 0)) (kk : Wa X μ R Z ce sl n S (pc + 3) L st (zp Rf k (za (Rf k) 0 r)) V) : Wa X μ R Z ce sl n S (pc) L (zO r :: zR k :: st) Rf V :=
  wa_putOF (ty := tyX0 0) hd (hμ ▸ fX0_9) rfl inX0 rfl rfl (by decide) tyX0_ok nmX0 rfl hμ2 (hμ ▸ rfl) (tyX0_ok 0 (by decide)) (fun r => by cases r <;> exact ⟨rfl, rfl⟩) (fun _ _ _ => rfl) hS kk
theorem fX0_15 : Cond.fieldLink RX0 15 RX0 (TX0 1).2.1 (TX0 1).2.2.1 ∈ lw_ok := lw_in 258 (by decide +kernel) (by decide +kernel)
theorem gX0_15 {k : Nat} {a : Option Nat} (hd : decode μ.2.1 pc = .ok (.getfield 15, 3)) (hμ : μ.1.cls = RX0) (hS : S k = some (.inr 0)) (ha : Rf k 1 = a) (kk : Wa X μ R Z ce sl n S (pc + 3) L (zO a :: st) Rf V) : Wa X μ R Z ce sl n S (pc) L (zR k :: st) Rf V :=
  wa_getO hd (hμ ▸ fX0_15) rfl inX0 rfl rfl (by decide) (fun _ _ _ => rfl) hS ha kk
theorem pX0_15 {k : Nat} {r : Option Nat} (hd : decode μ.2.1 pc = .ok (.putfield 15, 3)) (hμ : μ.1.cls = RX0) (hμ2 : μ.1.name = "<init>") (hS : S k = some (.inr 0)) (kk : Wa X μ R Z ce sl n S (pc + 3) L st (zp Rf k (za (Rf k) 1 r)) V) : Wa X μ R Z ce sl n S (pc) L (zO r :: zR k :: st) Rf V :=
  wa_putOF (ty := tyX0 1) hd (hμ ▸ fX0_15) rfl inX0 rfl rfl (by decide) tyX0_ok nmX0 rfl hμ2 (hμ ▸ rfl) (tyX0_ok 1 (by decide)) (fun r => by cases r <;> exact ⟨rfl, rfl⟩) (fun _ _ _ => rfl) hS kk
theorem fX6_205 : Cond.fieldLink RX6 205 RX0 (TX0 1).2.1 (TX0 1).2.2.1 ∈ lw_ok := lw_in 259 (by decide +kernel) (by decide +kernel)
theorem gX6_205 {k : Nat} {a : Option Nat} (hd : decode μ.2.1 pc = .ok (.getfield 205, 3)) (hμ : μ.1.cls = RX6) (hS : S k = some (.inr 0)) (ha : Rf k 1 = a) (kk : Wa X μ R Z ce sl n S (pc + 3) L (zO a :: st) Rf V) : Wa X μ R Z ce sl n S (pc) L (zR k :: st) Rf V :=
  wa_getO hd (hμ ▸ fX6_205) rfl inX0 rfl rfl (by decide) (fun _ _ _ => rfl) hS ha kk
theorem fX6_10 : Cond.fieldLink RX6 10 RX6 (TX6 0).2.1 (TX6 0).2.2.1 ∈ lw_ok := lw_in 265 (by decide +kernel) (by decide +kernel)
theorem gX6_10 {k : Nat} {a : Option Nat} (hd : decode μ.2.1 pc = .ok (.getfield 10, 3)) (hμ : μ.1.cls = RX6) (hS : S k = some (.inr 6)) (ha : Rf k 0 = a) (kk : Wa X μ R Z ce sl n S (pc + 3) L (zO a :: st) Rf V) : Wa X μ R Z ce sl n S (pc) L (zR k :: st) Rf V :=
  wa_getO hd (hμ ▸ fX6_10) rfl inX6 rfl rfl (by decide) (fun _ _ _ => rfl) hS ha kk
theorem pX6_10 {k : Nat} {r : Option Nat} (hd : decode μ.2.1 pc = .ok (.putfield 10, 3)) (hμ : μ.1.cls = RX6) (hμ2 : μ.1.name = "<init>") (hS : S k = some (.inr 6)) (kk : Wa X μ R Z ce sl n S (pc + 3) L st (zp Rf k (za (Rf k) 0 r)) V) : Wa X μ R Z ce sl n S (pc) L (zO r :: zR k :: st) Rf V :=
  wa_putOF (ty := tyX6 0) hd (hμ ▸ fX6_10) rfl inX6 rfl rfl (by decide) tyX6_ok nmX6 rfl hμ2 (hμ ▸ rfl) (tyX6_ok 0 (by decide)) (fun r => by cases r <;> exact ⟨rfl, rfl⟩) (fun _ _ _ => rfl) hS kk
theorem fX6_16 : Cond.fieldLink RX6 16 RX6 (TX6 1).2.1 (TX6 1).2.2.1 ∈ lw_ok := lw_in 266 (by decide +kernel) (by decide +kernel)
theorem gX6_16 {k : Nat} {a : Option Nat} (hd : decode μ.2.1 pc = .ok (.getfield 16, 3)) (hμ : μ.1.cls = RX6) (hS : S k = some (.inr 6)) (ha : Rf k 1 = a) (kk : Wa X μ R Z ce sl n S (pc + 3) L (zO a :: st) Rf V) : Wa X μ R Z ce sl n S (pc) L (zR k :: st) Rf V :=
  wa_getO hd (hμ ▸ fX6_16) rfl inX6 rfl rfl (by decide) (fun _ _ _ => rfl) hS ha kk
theorem pX6_16 {k : Nat} {r : Option Nat} (hd : decode μ.2.1 pc = .ok (.putfield 16, 3)) (hμ : μ.1.cls = RX6) (hμ2 : μ.1.name = "<init>") (hS : S k = some (.inr 6)) (kk : Wa X μ R Z ce sl n S (pc + 3) L st (zp Rf k (za (Rf k) 1 r)) V) : Wa X μ R Z ce sl n S (pc) L (zO r :: zR k :: st) Rf V :=
  wa_putOF (ty := tyX6 1) hd (hμ ▸ fX6_16) rfl inX6 rfl rfl (by decide) tyX6_ok nmX6 rfl hμ2 (hμ ▸ rfl) (tyX6_ok 1 (by decide)) (fun r => by cases r <;> exact ⟨rfl, rfl⟩) (fun _ _ _ => rfl) hS kk
theorem fX6_19 : Cond.fieldLink RX6 19 RX6 (TX6 2).2.1 (TX6 2).2.2.1 ∈ lw_ok := lw_in 267 (by decide +kernel) (by decide +kernel)
theorem gX6_19 {k : Nat} {a : Option Nat} (hd : decode μ.2.1 pc = .ok (.getfield 19, 3)) (hμ : μ.1.cls = RX6) (hS : S k = some (.inr 6)) (ha : Rf k 2 = a) (kk : Wa X μ R Z ce sl n S (pc + 3) L (zO a :: st) Rf V) : Wa X μ R Z ce sl n S (pc) L (zR k :: st) Rf V :=
  wa_getO hd (hμ ▸ fX6_19) rfl inX6 rfl rfl (by decide) (fun _ _ _ => rfl) hS ha kk
theorem pX6_19 {k : Nat} {r : Option Nat} (hd : decode μ.2.1 pc = .ok (.putfield 19, 3)) (hμ : μ.1.cls = RX6) (hμ2 : μ.1.name = "<init>") (hS : S k = some (.inr 6)) (kk : Wa X μ R Z ce sl n S (pc + 3) L st (zp Rf k (za (Rf k) 2 r)) V) : Wa X μ R Z ce sl n S (pc) L (zO r :: zR k :: st) Rf V :=
  wa_putOF (ty := tyX6 2) hd (hμ ▸ fX6_19) rfl inX6 rfl rfl (by decide) tyX6_ok nmX6 rfl hμ2 (hμ ▸ rfl) (tyX6_ok 2 (by decide)) (fun r => by cases r <;> exact ⟨rfl, rfl⟩) (fun _ _ _ => rfl) hS kk
theorem fX6_26 : Cond.fieldLink RX6 26 RX6 (TX6 3).2.1 (TX6 3).2.2.1 ∈ lw_ok := lw_in 268 (by decide +kernel) (by decide +kernel)
theorem gX6_26 {k : Nat} {a : Option Nat} (hd : decode μ.2.1 pc = .ok (.getfield 26, 3)) (hμ : μ.1.cls = RX6) (hS : S k = some (.inr 6)) (ha : Rf k 3 = a) (kk : Wa X μ R Z ce sl n S (pc + 3) L (zO a :: st) Rf V) : Wa X μ R Z ce sl n S (pc) L (zR k :: st) Rf V :=
  wa_getO hd (hμ ▸ fX6_26) rfl inX6 rfl rfl (by decide) (fun _ _ _ => rfl) hS ha kk
theorem pX6_26 {k : Nat} {r : Option Nat} (hd : decode μ.2.1 pc = .ok (.putfield 26, 3)) (hμ : μ.1.cls = RX6) (hμ2 : μ.1.name = "<init>") (hS : S k = some (.inr 6)) (kk : Wa X μ R Z ce sl n S (pc + 3) L st (zp Rf k (za (Rf k) 3 r)) V) : Wa X μ R Z ce sl n S (pc) L (zO r :: zR k :: st) Rf V :=
  wa_putOF (ty := tyX6 3) hd (hμ ▸ fX6_26) rfl inX6 rfl rfl (by decide) tyX6_ok nmX6 rfl hμ2 (hμ ▸ rfl) (tyX6_ok 3 (by decide)) (fun r => by cases r <;> exact ⟨rfl, rfl⟩) (fun _ _ _ => rfl) hS kk
theorem fX6_33 : Cond.fieldLink RX6 33 RX6 (TX6 4).2.1 (TX6 4).2.2.1 ∈ lw_ok := lw_in 269 (by decide +kernel) (by decide +kernel)
theorem gX6_33 {k : Nat} {a : Option Nat} (hd : decode μ.2.1 pc = .ok (.getfield 33, 3)) (hμ : μ.1.cls = RX6) (hS : S k = some (.inr 6)) (ha : Rf k 4 = a) (kk : Wa X μ R Z ce sl n S (pc + 3) L (zO a :: st) Rf V) : Wa X μ R Z ce sl n S (pc) L (zR k :: st) Rf V :=
  wa_getO hd (hμ ▸ fX6_33) rfl inX6 rfl rfl (by decide) (fun _ _ _ => rfl) hS ha kk
theorem pX6_33 {k : Nat} {r : Option Nat} (hd : decode μ.2.1 pc = .ok (.putfield 33, 3)) (hμ : μ.1.cls = RX6) (hμ2 : μ.1.name = "<init>") (hS : S k = some (.inr 6)) (kk : Wa X μ R Z ce sl n S (pc + 3) L st (zp Rf k (za (Rf k) 4 r)) V) : Wa X μ R Z ce sl n S (pc) L (zO r :: zR k :: st) Rf V :=
  wa_putOF (ty := tyX6 4) hd (hμ ▸ fX6_33) rfl inX6 rfl rfl (by decide) tyX6_ok nmX6 rfl hμ2 (hμ ▸ rfl) (tyX6_ok 4 (by decide)) (fun r => by cases r <;> exact ⟨rfl, rfl⟩) (fun _ _ _ => rfl) hS kk
theorem fX6_40 : Cond.fieldLink RX6 40 RX6 (TX6 5).2.1 (TX6 5).2.2.1 ∈ lw_ok := lw_in 270 (by decide +kernel) (by decide +kernel)
theorem gX6_40 {k : Nat} {a : Option Nat} (hd : decode μ.2.1 pc = .ok (.getfield 40, 3)) (hμ : μ.1.cls = RX6) (hS : S k = some (.inr 6)) (ha : Rf k 5 = a) (kk : Wa X μ R Z ce sl n S (pc + 3) L (zO a :: st) Rf V) : Wa X μ R Z ce sl n S (pc) L (zR k :: st) Rf V :=
  wa_getO hd (hμ ▸ fX6_40) rfl inX6 rfl rfl (by decide) (fun _ _ _ => rfl) hS ha kk
theorem pX6_40 {k : Nat} {r : Option Nat} (hd : decode μ.2.1 pc = .ok (.putfield 40, 3)) (hμ : μ.1.cls = RX6) (hμ2 : μ.1.name = "<init>") (hS : S k = some (.inr 6)) (kk : Wa X μ R Z ce sl n S (pc + 3) L st (zp Rf k (za (Rf k) 5 r)) V) : Wa X μ R Z ce sl n S (pc) L (zO r :: zR k :: st) Rf V :=
  wa_putOF (ty := tyX6 5) hd (hμ ▸ fX6_40) rfl inX6 rfl rfl (by decide) tyX6_ok nmX6 rfl hμ2 (hμ ▸ rfl) (tyX6_ok 5 (by decide)) (fun r => by cases r <;> exact ⟨rfl, rfl⟩) (fun _ _ _ => rfl) hS kk
theorem fX6_47 : Cond.fieldLink RX6 47 RX6 (TX6 6).2.1 (TX6 6).2.2.1 ∈ lw_ok := lw_in 271 (by decide +kernel) (by decide +kernel)
theorem gX6_47 {k : Nat} {a : Option Nat} (hd : decode μ.2.1 pc = .ok (.getfield 47, 3)) (hμ : μ.1.cls = RX6) (hS : S k = some (.inr 6)) (ha : Rf k 6 = a) (kk : Wa X μ R Z ce sl n S (pc + 3) L (zO a :: st) Rf V) : Wa X μ R Z ce sl n S (pc) L (zR k :: st) Rf V :=
  wa_getO hd (hμ ▸ fX6_47) rfl inX6 rfl rfl (by decide) (fun _ _ _ => rfl) hS ha kk
theorem pX6_47 {k : Nat} {r : Option Nat} (hd : decode μ.2.1 pc = .ok (.putfield 47, 3)) (hμ : μ.1.cls = RX6) (hμ2 : μ.1.name = "<init>") (hS : S k = some (.inr 6)) (kk : Wa X μ R Z ce sl n S (pc + 3) L st (zp Rf k (za (Rf k) 6 r)) V) : Wa X μ R Z ce sl n S (pc) L (zO r :: zR k :: st) Rf V :=
  wa_putOF (ty := tyX6 6) hd (hμ ▸ fX6_47) rfl inX6 rfl rfl (by decide) tyX6_ok nmX6 rfl hμ2 (hμ ▸ rfl) (tyX6_ok 6 (by decide)) (fun r => by cases r <;> exact ⟨rfl, rfl⟩) (fun _ _ _ => rfl) hS kk
theorem fX6_54 : Cond.fieldLink RX6 54 RX6 (TX6 7).2.1 (TX6 7).2.2.1 ∈ lw_ok := lw_in 272 (by decide +kernel) (by decide +kernel)
theorem gX6_54 {k : Nat} {a : Option Nat} (hd : decode μ.2.1 pc = .ok (.getfield 54, 3)) (hμ : μ.1.cls = RX6) (hS : S k = some (.inr 6)) (ha : Rf k 7 = a) (kk : Wa X μ R Z ce sl n S (pc + 3) L (zO a :: st) Rf V) : Wa X μ R Z ce sl n S (pc) L (zR k :: st) Rf V :=
  wa_getO hd (hμ ▸ fX6_54) rfl inX6 rfl rfl (by decide) (fun _ _ _ => rfl) hS ha kk
theorem pX6_54 {k : Nat} {r : Option Nat} (hd : decode μ.2.1 pc = .ok (.putfield 54, 3)) (hμ : μ.1.cls = RX6) (hμ2 : μ.1.name = "<init>") (hS : S k = some (.inr 6)) (kk : Wa X μ R Z ce sl n S (pc + 3) L st (zp Rf k (za (Rf k) 7 r)) V) : Wa X μ R Z ce sl n S (pc) L (zO r :: zR k :: st) Rf V :=
  wa_putOF (ty := tyX6 7) hd (hμ ▸ fX6_54) rfl inX6 rfl rfl (by decide) tyX6_ok nmX6 rfl hμ2 (hμ ▸ rfl) (tyX6_ok 7 (by decide)) (fun r => by cases r <;> exact ⟨rfl, rfl⟩) (fun _ _ _ => rfl) hS kk
theorem fX7_7 : Cond.fieldLink RX7 7 RX7 (TX7 0).2.1 (TX7 0).2.2.1 ∈ lw_ok := lw_in 635 (by decide +kernel) (by decide +kernel)
theorem gX7_7 {k : Nat} (hd : decode μ.2.1 pc = .ok (.getfield 7, 3)) (hμ : μ.1.cls = RX7) (hS : S k = some (.inr 7)) (kk : Wa X μ R Z ce sl n S (pc + 3) L (zI (V k 0) :: st) Rf V) : Wa X μ R Z ce sl n S (pc) L (zR k :: st) Rf V :=
  wa_getI hd (hμ ▸ fX7_7) rfl inX7 rfl rfl (by decide) (fun _ _ _ => rfl) hS kk
theorem pX7_7 {k : Nat} {x : Int} (hd : decode μ.2.1 pc = .ok (.putfield 7, 3)) (hμ : μ.1.cls = RX7) (hS : S k = some (.inr 7)) (kk : Wa X μ R Z ce sl n S (pc + 3) L st Rf (zp V k (za (V k) 0 x))) : Wa X μ R Z ce sl n S (pc) L (zI x :: zR k :: st) Rf V :=
  wa_putI hd (hμ ▸ fX7_7) rfl inX7 rfl rfl (by decide) tyX7_ok nmX7 rfl rfl (fun _ _ _ => rfl) hS kk
theorem fX7_13 : Cond.fieldLink RX7 13 RX7 (TX7 1).2.1 (TX7 1).2.2.1 ∈ lw_ok := lw_in 636 (by decide +kernel) (by decide +kernel)
theorem gX7_13 {k : Nat} {a : Option Nat} (hd : decode μ.2.1 pc = .ok (.getfield 13, 3)) (hμ : μ.1.cls = RX7) (hS : S k = some (.inr 7)) (ha : Rf k 1 = a) (kk : Wa X μ R Z ce sl n S (pc + 3) L (zO a :: st) Rf V) : Wa X μ R Z ce sl n S (pc) L (zR k :: st) Rf V :=
  wa_getO hd (hμ ▸ fX7_13) rfl inX7 rfl rfl (by decide) (fun _ _ _ => rfl) hS ha kk
theorem pX7_13 {k : Nat} {r : Option Nat} (hd : decode μ.2.1 pc = .ok (.putfield 13, 3)) (hμ : μ.1.cls = RX7) (hμ2 : μ.1.name = "<init>") (hS : S k = some (.inr 7)) (kk : Wa X μ R Z ce sl n S (pc + 3) L st (zp Rf k (za (Rf k) 1 r)) V) : Wa X μ R Z ce sl n S (pc) L (zO r :: zR k :: st) Rf V :=
  wa_putOF (ty := tyX7 1) hd (hμ ▸ fX7_13) rfl inX7 rfl rfl (by decide) tyX7_ok nmX7 rfl hμ2 (hμ ▸ rfl) (tyX7_ok 1 (by decide)) (fun r => by cases r <;> exact ⟨rfl, rfl⟩) (fun _ _ _ => rfl) hS kk
theorem fX7_17 : Cond.fieldLink RX7 17 RX7 (TX7 2).2.1 (TX7 2).2.2.1 ∈ lw_ok := lw_in 637 (by decide +kernel) (by decide +kernel)
theorem gX7_17 {k : Nat} {a : Option Nat} (hd : decode μ.2.1 pc = .ok (.getfield 17, 3)) (hμ : μ.1.cls = RX7) (hS : S k = some (.inr 7)) (ha : Rf k 2 = a) (kk : Wa X μ R Z ce sl n S (pc + 3) L (zO a :: st) Rf V) : Wa X μ R Z ce sl n S (pc) L (zR k :: st) Rf V :=
  wa_getO hd (hμ ▸ fX7_17) rfl inX7 rfl rfl (by decide) (fun _ _ _ => rfl) hS ha kk
theorem pX7_17 {k : Nat} {r : Option Nat} (hd : decode μ.2.1 pc = .ok (.putfield 17, 3)) (hμ : μ.1.cls = RX7) (hμ2 : μ.1.name = "<init>") (hS : S k = some (.inr 7)) (kk : Wa X μ R Z ce sl n S (pc + 3) L st (zp Rf k (za (Rf k) 2 r)) V) : Wa X μ R Z ce sl n S (pc) L (zO r :: zR k :: st) Rf V :=
  wa_putOF (ty := tyX7 2) hd (hμ ▸ fX7_17) rfl inX7 rfl rfl (by decide) tyX7_ok nmX7 rfl hμ2 (hμ ▸ rfl) (tyX7_ok 2 (by decide)) (fun r => by cases r <;> exact ⟨rfl, rfl⟩) (fun _ _ _ => rfl) hS kk
theorem fX7_82 : Cond.fieldLink RX7 82 RX7 (TX7 3).2.1 (TX7 3).2.2.1 ∈ lw_ok := lw_in 638 (by decide +kernel) (by decide +kernel)
theorem gX7_82 {k : Nat} (hd : decode μ.2.1 pc = .ok (.getfield 82, 3)) (hμ : μ.1.cls = RX7) (hS : S k = some (.inr 7)) (kk : Wa X μ R Z ce sl n S (pc + 3) L (zI (V k 3) :: st) Rf V) : Wa X μ R Z ce sl n S (pc) L (zR k :: st) Rf V :=
  wa_getI hd (hμ ▸ fX7_82) rfl inX7 rfl rfl (by decide) (fun _ _ _ => rfl) hS kk
theorem pX7_82 {k : Nat} {x : Int} (hd : decode μ.2.1 pc = .ok (.putfield 82, 3)) (hμ : μ.1.cls = RX7) (hS : S k = some (.inr 7)) (kk : Wa X μ R Z ce sl n S (pc + 3) L st Rf (zp V k (za (V k) 3 x))) : Wa X μ R Z ce sl n S (pc) L (zI x :: zR k :: st) Rf V :=
  wa_putI hd (hμ ▸ fX7_82) rfl inX7 rfl rfl (by decide) tyX7_ok nmX7 rfl rfl (fun _ _ _ => rfl) hS kk
theorem fX7_85 : Cond.fieldLink RX7 85 RX7 (TX7 4).2.1 (TX7 4).2.2.1 ∈ lw_ok := lw_in 639 (by decide +kernel) (by decide +kernel)
theorem gX7_85 {k : Nat} (hd : decode μ.2.1 pc = .ok (.getfield 85, 3)) (hμ : μ.1.cls = RX7) (hS : S k = some (.inr 7)) (kk : Wa X μ R Z ce sl n S (pc + 3) L (zI (V k 4) :: st) Rf V) : Wa X μ R Z ce sl n S (pc) L (zR k :: st) Rf V :=
  wa_getI hd (hμ ▸ fX7_85) rfl inX7 rfl rfl (by decide) (fun _ _ _ => rfl) hS kk
theorem pX7_85 {k : Nat} {x : Int} (hd : decode μ.2.1 pc = .ok (.putfield 85, 3)) (hμ : μ.1.cls = RX7) (hS : S k = some (.inr 7)) (kk : Wa X μ R Z ce sl n S (pc + 3) L st Rf (zp V k (za (V k) 4 x))) : Wa X μ R Z ce sl n S (pc) L (zI x :: zR k :: st) Rf V :=
  wa_putI hd (hμ ▸ fX7_85) rfl inX7 rfl rfl (by decide) tyX7_ok nmX7 rfl rfl (fun _ _ _ => rfl) hS kk
theorem fX7_20 : Cond.fieldLink RX7 20 RX7 (TX7 5).2.1 (TX7 5).2.2.1 ∈ lw_ok := lw_in 640 (by decide +kernel) (by decide +kernel)
theorem gX7_20 {k : Nat} {a : Option Nat} (hd : decode μ.2.1 pc = .ok (.getfield 20, 3)) (hμ : μ.1.cls = RX7) (hS : S k = some (.inr 7)) (ha : Rf k 5 = a) (kk : Wa X μ R Z ce sl n S (pc + 3) L (zO a :: st) Rf V) : Wa X μ R Z ce sl n S (pc) L (zR k :: st) Rf V :=
  wa_getO hd (hμ ▸ fX7_20) rfl inX7 rfl rfl (by decide) (fun _ _ _ => rfl) hS ha kk
theorem pX7_20 {k : Nat} {r : Option Nat} (hd : decode μ.2.1 pc = .ok (.putfield 20, 3)) (hμ : μ.1.cls = RX7) (hμ2 : μ.1.name = "<init>") (hS : S k = some (.inr 7)) (kk : Wa X μ R Z ce sl n S (pc + 3) L st (zp Rf k (za (Rf k) 5 r)) V) : Wa X μ R Z ce sl n S (pc) L (zO r :: zR k :: st) Rf V :=
  wa_putOF (ty := tyX7 5) hd (hμ ▸ fX7_20) rfl inX7 rfl rfl (by decide) tyX7_ok nmX7 rfl hμ2 (hμ ▸ rfl) (tyX7_ok 5 (by decide)) (fun r => by cases r <;> exact ⟨rfl, rfl⟩) (fun _ _ _ => rfl) hS kk
theorem fX7_23 : Cond.fieldLink RX7 23 RX7 (TX7 6).2.1 (TX7 6).2.2.1 ∈ lw_ok := lw_in 641 (by decide +kernel) (by decide +kernel)
theorem gX7_23 {k : Nat} {a : Option Nat} (hd : decode μ.2.1 pc = .ok (.getfield 23, 3)) (hμ : μ.1.cls = RX7) (hS : S k = some (.inr 7)) (ha : Rf k 6 = a) (kk : Wa X μ R Z ce sl n S (pc + 3) L (zO a :: st) Rf V) : Wa X μ R Z ce sl n S (pc) L (zR k :: st) Rf V :=
  wa_getO hd (hμ ▸ fX7_23) rfl inX7 rfl rfl (by decide) (fun _ _ _ => rfl) hS ha kk
theorem pX7_23 {k : Nat} {r : Option Nat} (hd : decode μ.2.1 pc = .ok (.putfield 23, 3)) (hμ : μ.1.cls = RX7) (hμ2 : μ.1.name = "<init>") (hS : S k = some (.inr 7)) (kk : Wa X μ R Z ce sl n S (pc + 3) L st (zp Rf k (za (Rf k) 6 r)) V) : Wa X μ R Z ce sl n S (pc) L (zO r :: zR k :: st) Rf V :=
  wa_putOF (ty := tyX7 6) hd (hμ ▸ fX7_23) rfl inX7 rfl rfl (by decide) tyX7_ok nmX7 rfl hμ2 (hμ ▸ rfl) (tyX7_ok 6 (by decide)) (fun r => by cases r <;> exact ⟨rfl, rfl⟩) (fun _ _ _ => rfl) hS kk
theorem fX7_26 : Cond.fieldLink RX7 26 RX7 (TX7 7).2.1 (TX7 7).2.2.1 ∈ lw_ok := lw_in 642 (by decide +kernel) (by decide +kernel)
theorem gX7_26 {k : Nat} (hd : decode μ.2.1 pc = .ok (.getfield 26, 3)) (hμ : μ.1.cls = RX7) (hS : S k = some (.inr 7)) (kk : Wa X μ R Z ce sl n S (pc + 3) L (zI (V k 7) :: st) Rf V) : Wa X μ R Z ce sl n S (pc) L (zR k :: st) Rf V :=
  wa_getI hd (hμ ▸ fX7_26) rfl inX7 rfl rfl (by decide) (fun _ _ _ => rfl) hS kk
theorem pX7_26 {k : Nat} {x : Int} (hd : decode μ.2.1 pc = .ok (.putfield 26, 3)) (hμ : μ.1.cls = RX7) (hS : S k = some (.inr 7)) (kk : Wa X μ R Z ce sl n S (pc + 3) L st Rf (zp V k (za (V k) 7 x))) : Wa X μ R Z ce sl n S (pc) L (zI x :: zR k :: st) Rf V :=
  wa_putI hd (hμ ▸ fX7_26) rfl inX7 rfl rfl (by decide) tyX7_ok nmX7 rfl rfl (fun _ _ _ => rfl) hS kk
theorem fX7_29 : Cond.fieldLink RX7 29 RX7 (TX7 8).2.1 (TX7 8).2.2.1 ∈ lw_ok := lw_in 643 (by decide +kernel) (by decide +kernel)
theorem gX7_29 {k : Nat} (hd : decode μ.2.1 pc = .ok (.getfield 29, 3)) (hμ : μ.1.cls = RX7) (hS : S k = some (.inr 7)) (kk : Wa X μ R Z ce sl n S (pc + 3) L (zI (V k 8) :: st) Rf V) : Wa X μ R Z ce sl n S (pc) L (zR k :: st) Rf V :=
  wa_getI hd (hμ ▸ fX7_29) rfl inX7 rfl rfl (by decide) (fun _ _ _ => rfl) hS kk
theorem pX7_29 {k : Nat} {x : Int} (hd : decode μ.2.1 pc = .ok (.putfield 29, 3)) (hμ : μ.1.cls = RX7) (hS : S k = some (.inr 7)) (kk : Wa X μ R Z ce sl n S (pc + 3) L st Rf (zp V k (za (V k) 8 x))) : Wa X μ R Z ce sl n S (pc) L (zI x :: zR k :: st) Rf V :=
  wa_putI hd (hμ ▸ fX7_29) rfl inX7 rfl rfl (by decide) tyX7_ok nmX7 rfl rfl (fun _ _ _ => rfl) hS kk
theorem fX7_32 : Cond.fieldLink RX7 32 RX7 (TX7 9).2.1 (TX7 9).2.2.1 ∈ lw_ok := lw_in 644 (by decide +kernel) (by decide +kernel)
theorem gX7_32 {k : Nat} (hd : decode μ.2.1 pc = .ok (.getfield 32, 3)) (hμ : μ.1.cls = RX7) (hS : S k = some (.inr 7)) (kk : Wa X μ R Z ce sl n S (pc + 3) L (zI (V k 9) :: st) Rf V) : Wa X μ R Z ce sl n S (pc) L (zR k :: st) Rf V :=
  wa_getI hd (hμ ▸ fX7_32) rfl inX7 rfl rfl (by decide) (fun _ _ _ => rfl) hS kk
theorem pX7_32 {k : Nat} {x : Int} (hd : decode μ.2.1 pc = .ok (.putfield 32, 3)) (hμ : μ.1.cls = RX7) (hS : S k = some (.inr 7)) (kk : Wa X μ R Z ce sl n S (pc + 3) L st Rf (zp V k (za (V k) 9 x))) : Wa X μ R Z ce sl n S (pc) L (zI x :: zR k :: st) Rf V :=
  wa_putI hd (hμ ▸ fX7_32) rfl inX7 rfl rfl (by decide) tyX7_ok nmX7 rfl rfl (fun _ _ _ => rfl) hS kk
theorem fX7_35 : Cond.fieldLink RX7 35 RX7 (TX7 10).2.1 (TX7 10).2.2.1 ∈ lw_ok := lw_in 645 (by decide +kernel) (by decide +kernel)
theorem gX7_35 {k : Nat} (hd : decode μ.2.1 pc = .ok (.getfield 35, 3)) (hμ : μ.1.cls = RX7) (hS : S k = some (.inr 7)) (kk : Wa X μ R Z ce sl n S (pc + 3) L (zI (V k 10) :: st) Rf V) : Wa X μ R Z ce sl n S (pc) L (zR k :: st) Rf V :=
  wa_getI hd (hμ ▸ fX7_35) rfl inX7 rfl rfl (by decide) (fun _ _ _ => rfl) hS kk
theorem pX7_35 {k : Nat} {x : Int} (hd : decode μ.2.1 pc = .ok (.putfield 35, 3)) (hμ : μ.1.cls = RX7) (hS : S k = some (.inr 7)) (kk : Wa X μ R Z ce sl n S (pc + 3) L st Rf (zp V k (za (V k) 10 x))) : Wa X μ R Z ce sl n S (pc) L (zI x :: zR k :: st) Rf V :=
  wa_putI hd (hμ ▸ fX7_35) rfl inX7 rfl rfl (by decide) tyX7_ok nmX7 rfl rfl (fun _ _ _ => rfl) hS kk
theorem fX7_88 : Cond.fieldLink RX7 88 RX7 (TX7 11).2.1 (TX7 11).2.2.1 ∈ lw_ok := lw_in 646 (by decide +kernel) (by decide +kernel)
theorem gX7_88 {k : Nat} (hd : decode μ.2.1 pc = .ok (.getfield 88, 3)) (hμ : μ.1.cls = RX7) (hS : S k = some (.inr 7)) (kk : Wa X μ R Z ce sl n S (pc + 3) L (zI (V k 11) :: st) Rf V) : Wa X μ R Z ce sl n S (pc) L (zR k :: st) Rf V :=
  wa_getI hd (hμ ▸ fX7_88) rfl inX7 rfl rfl (by decide) (fun _ _ _ => rfl) hS kk
theorem pX7_88 {k : Nat} {x : Int} (hd : decode μ.2.1 pc = .ok (.putfield 88, 3)) (hμ : μ.1.cls = RX7) (hS : S k = some (.inr 7)) (kk : Wa X μ R Z ce sl n S (pc + 3) L st Rf (zp V k (za (V k) 11 x))) : Wa X μ R Z ce sl n S (pc) L (zI x :: zR k :: st) Rf V :=
  wa_putI hd (hμ ▸ fX7_88) rfl inX7 rfl rfl (by decide) tyX7_ok nmX7 rfl rfl (fun _ _ _ => rfl) hS kk
theorem fX7_38 : Cond.fieldLink RX7 38 RX7 (TX7 12).2.1 (TX7 12).2.2.1 ∈ lw_ok := lw_in 647 (by decide +kernel) (by decide +kernel)
theorem gX7_38 {k : Nat} {a : Option Nat} (hd : decode μ.2.1 pc = .ok (.getfield 38, 3)) (hμ : μ.1.cls = RX7) (hS : S k = some (.inr 7)) (ha : Rf k 12 = a) (kk : Wa X μ R Z ce sl n S (pc + 3) L (zO a :: st) Rf V) : Wa X μ R Z ce sl n S (pc) L (zR k :: st) Rf V :=
  wa_getO hd (hμ ▸ fX7_38) rfl inX7 rfl rfl (by decide) (fun _ _ _ => rfl) hS ha kk
theorem pX7_38 {k : Nat} {r : Option Nat} (hd : decode μ.2.1 pc = .ok (.putfield 38, 3)) (hμ : μ.1.cls = RX7) (hμ2 : μ.1.name = "<init>") (hS : S k = some (.inr 7)) (kk : Wa X μ R Z ce sl n S (pc + 3) L st (zp Rf k (za (Rf k) 12 r)) V) : Wa X μ R Z ce sl n S (pc) L (zO r :: zR k :: st) Rf V :=
  wa_putOF (ty := tyX7 12) hd (hμ ▸ fX7_38) rfl inX7 rfl rfl (by decide) tyX7_ok nmX7 rfl hμ2 (hμ ▸ rfl) (tyX7_ok 12 (by decide)) (fun r => by cases r <;> exact ⟨rfl, rfl⟩) (fun _ _ _ => rfl) hS kk
theorem fX7_99 : Cond.fieldLink RX7 99 RX7 (TX7 13).2.1 (TX7 13).2.2.1 ∈ lw_ok := lw_in 648 (by decide +kernel) (by decide +kernel)
theorem gX7_99 {k : Nat} (hd : decode μ.2.1 pc = .ok (.getfield 99, 3)) (hμ : μ.1.cls = RX7) (hS : S k = some (.inr 7)) (kk : Wa X μ R Z ce sl n S (pc + 3) L (zI (V k 13) :: st) Rf V) : Wa X μ R Z ce sl n S (pc) L (zR k :: st) Rf V :=
  wa_getI hd (hμ ▸ fX7_99) rfl inX7 rfl rfl (by decide) (fun _ _ _ => rfl) hS kk
theorem pX7_99 {k : Nat} {x : Int} (hd : decode μ.2.1 pc = .ok (.putfield 99, 3)) (hμ : μ.1.cls = RX7) (hS : S k = some (.inr 7)) (kk : Wa X μ R Z ce sl n S (pc + 3) L st Rf (zp V k (za (V k) 13 x))) : Wa X μ R Z ce sl n S (pc) L (zI x :: zR k :: st) Rf V :=
  wa_putI hd (hμ ▸ fX7_99) rfl inX7 rfl rfl (by decide) tyX7_ok nmX7 rfl rfl (fun _ _ _ => rfl) hS kk
theorem fX7_41 : Cond.fieldLink RX7 41 RX7 (TX7 14).2.1 (TX7 14).2.2.1 ∈ lw_ok := lw_in 649 (by decide +kernel) (by decide +kernel)
theorem gX7_41 {k : Nat} {a : Option Nat} (hd : decode μ.2.1 pc = .ok (.getfield 41, 3)) (hμ : μ.1.cls = RX7) (hS : S k = some (.inr 7)) (ha : Rf k 14 = a) (kk : Wa X μ R Z ce sl n S (pc + 3) L (zO a :: st) Rf V) : Wa X μ R Z ce sl n S (pc) L (zR k :: st) Rf V :=
  wa_getO hd (hμ ▸ fX7_41) rfl inX7 rfl rfl (by decide) (fun _ _ _ => rfl) hS ha kk
theorem pX7_41 {k : Nat} {r : Option Nat} (hd : decode μ.2.1 pc = .ok (.putfield 41, 3)) (hμ : μ.1.cls = RX7) (hμ2 : μ.1.name = "<init>") (hS : S k = some (.inr 7)) (kk : Wa X μ R Z ce sl n S (pc + 3) L st (zp Rf k (za (Rf k) 14 r)) V) : Wa X μ R Z ce sl n S (pc) L (zO r :: zR k :: st) Rf V :=
  wa_putOF (ty := tyX7 14) hd (hμ ▸ fX7_41) rfl inX7 rfl rfl (by decide) tyX7_ok nmX7 rfl hμ2 (hμ ▸ rfl) (tyX7_ok 14 (by decide)) (fun r => by cases r <;> exact ⟨rfl, rfl⟩) (fun _ _ _ => rfl) hS kk
theorem fX7_44 : Cond.fieldLink RX7 44 RX7 (TX7 15).2.1 (TX7 15).2.2.1 ∈ lw_ok := lw_in 650 (by decide +kernel) (by decide +kernel)
theorem gX7_44 {k : Nat} {a : Option Nat} (hd : decode μ.2.1 pc = .ok (.getfield 44, 3)) (hμ : μ.1.cls = RX7) (hS : S k = some (.inr 7)) (ha : Rf k 15 = a) (kk : Wa X μ R Z ce sl n S (pc + 3) L (zO a :: st) Rf V) : Wa X μ R Z ce sl n S (pc) L (zR k :: st) Rf V :=
  wa_getO hd (hμ ▸ fX7_44) rfl inX7 rfl rfl (by decide) (fun _ _ _ => rfl) hS ha kk
theorem pX7_44 {k : Nat} {r : Option Nat} (hd : decode μ.2.1 pc = .ok (.putfield 44, 3)) (hμ : μ.1.cls = RX7) (hμ2 : μ.1.name = "<init>") (hS : S k = some (.inr 7)) (kk : Wa X μ R Z ce sl n S (pc + 3) L st (zp Rf k (za (Rf k) 15 r)) V) : Wa X μ R Z ce sl n S (pc) L (zO r :: zR k :: st) Rf V :=
  wa_putOF (ty := tyX7 15) hd (hμ ▸ fX7_44) rfl inX7 rfl rfl (by decide) tyX7_ok nmX7 rfl hμ2 (hμ ▸ rfl) (tyX7_ok 15 (by decide)) (fun r => by cases r <;> exact ⟨rfl, rfl⟩) (fun _ _ _ => rfl) hS kk
theorem fX7_47 : Cond.fieldLink RX7 47 RX7 (TX7 16).2.1 (TX7 16).2.2.1 ∈ lw_ok := lw_in 651 (by decide +kernel) (by decide +kernel)
theorem gX7_47 {k : Nat} {a : Option Nat} (hd : decode μ.2.1 pc = .ok (.getfield 47, 3)) (hμ : μ.1.cls = RX7) (hS : S k = some (.inr 7)) (ha : Rf k 16 = a) (kk : Wa X μ R Z ce sl n S (pc + 3) L (zO a :: st) Rf V) : Wa X μ R Z ce sl n S (pc) L (zR k :: st) Rf V :=
  wa_getO hd (hμ ▸ fX7_47) rfl inX7 rfl rfl (by decide) (fun _ _ _ => rfl) hS ha kk
theorem pX7_47 {k : Nat} {r : Option Nat} (hd : decode μ.2.1 pc = .ok (.putfield 47, 3)) (hμ : μ.1.cls = RX7) (hμ2 : μ.1.name = "<init>") (hS : S k = some (.inr 7)) (kk : Wa X μ R Z ce sl n S (pc + 3) L st (zp Rf k (za (Rf k) 16 r)) V) : Wa X μ R Z ce sl n S (pc) L (zO r :: zR k :: st) Rf V :=
  wa_putOF (ty := tyX7 16) hd (hμ ▸ fX7_47) rfl inX7 rfl rfl (by decide) tyX7_ok nmX7 rfl hμ2 (hμ ▸ rfl) (tyX7_ok 16 (by decide)) (fun r => by cases r <;> exact ⟨rfl, rfl⟩) (fun _ _ _ => rfl) hS kk
theorem fX7_50 : Cond.fieldLink RX7 50 RX7 (TX7 17).2.1 (TX7 17).2.2.1 ∈ lw_ok := lw_in 652 (by decide +kernel) (by decide +kernel)
theorem gX7_50 {k : Nat} {a : Option Nat} (hd : decode μ.2.1 pc = .ok (.getfield 50, 3)) (hμ : μ.1.cls = RX7) (hS : S k = some (.inr 7)) (ha : Rf k 17 = a) (kk : Wa X μ R Z ce sl n S (pc + 3) L (zO a :: st) Rf V) : Wa X μ R Z ce sl n S (pc) L (zR k :: st) Rf V :=
  wa_getO hd (hμ ▸ fX7_50) rfl inX7 rfl rfl (by decide) (fun _ _ _ => rfl) hS ha kk
theorem pX7_50 {k : Nat} {r : Option Nat} (hd : decode μ.2.1 pc = .ok (.putfield 50, 3)) (hμ : μ.1.cls = RX7) (hμ2 : μ.1.name = "<init>") (hS : S k = some (.inr 7)) (kk : Wa X μ R Z ce sl n S (pc + 3) L st (zp Rf k (za (Rf k) 17 r)) V) : Wa X μ R Z ce sl n S (pc) L (zO r :: zR k :: st) Rf V :=
  wa_putOF (ty := tyX7 17) hd (hμ ▸ fX7_50) rfl inX7 rfl rfl (by decide) tyX7_ok nmX7 rfl hμ2 (hμ ▸ rfl) (tyX7_ok 17 (by decide)) (fun r => by cases r <;> exact ⟨rfl, rfl⟩) (fun _ _ _ => rfl) hS kk
theorem fX7_53 : Cond.fieldLink RX7 53 RX7 (TX7 18).2.1 (TX7 18).2.2.1 ∈ lw_ok := lw_in 653 (by decide +kernel) (by decide +kernel)
theorem gX7_53 {k : Nat} {a : Option Nat} (hd : decode μ.2.1 pc = .ok (.getfield 53, 3)) (hμ : μ.1.cls = RX7) (hS : S k = some (.inr 7)) (ha : Rf k 18 = a) (kk : Wa X μ R Z ce sl n S (pc + 3) L (zO a :: st) Rf V) : Wa X μ R Z ce sl n S (pc) L (zR k :: st) Rf V :=
  wa_getO hd (hμ ▸ fX7_53) rfl inX7 rfl rfl (by decide) (fun _ _ _ => rfl) hS ha kk
theorem pX7_53 {k : Nat} {r : Option Nat} (hd : decode μ.2.1 pc = .ok (.putfield 53, 3)) (hμ : μ.1.cls = RX7) (hμ2 : μ.1.name = "<init>") (hS : S k = some (.inr 7)) (kk : Wa X μ R Z ce sl n S (pc + 3) L st (zp Rf k (za (Rf k) 18 r)) V) : Wa X μ R Z ce sl n S (pc) L (zO r :: zR k :: st) Rf V :=
  wa_putOF (ty := tyX7 18) hd (hμ ▸ fX7_53) rfl inX7 rfl rfl (by decide) tyX7_ok nmX7 rfl hμ2 (hμ ▸ rfl) (tyX7_ok 18 (by decide)) (fun r => by cases r <;> exact ⟨rfl, rfl⟩) (fun _ _ _ => rfl) hS kk
theorem fX7_106 : Cond.fieldLink RX7 106 RX7 (TX7 19).2.1 (TX7 19).2.2.1 ∈ lw_ok := lw_in 654 (by decide +kernel) (by decide +kernel)
theorem gX7_106 {k : Nat} (hd : decode μ.2.1 pc = .ok (.getfield 106, 3)) (hμ : μ.1.cls = RX7) (hS : S k = some (.inr 7)) (kk : Wa X μ R Z ce sl n S (pc + 3) L (zI (V k 19) :: st) Rf V) : Wa X μ R Z ce sl n S (pc) L (zR k :: st) Rf V :=
  wa_getI hd (hμ ▸ fX7_106) rfl inX7 rfl rfl (by decide) (fun _ _ _ => rfl) hS kk
theorem pX7_106 {k : Nat} {x : Int} (hd : decode μ.2.1 pc = .ok (.putfield 106, 3)) (hμ : μ.1.cls = RX7) (hS : S k = some (.inr 7)) (kk : Wa X μ R Z ce sl n S (pc + 3) L st Rf (zp V k (za (V k) 19 x))) : Wa X μ R Z ce sl n S (pc) L (zI x :: zR k :: st) Rf V :=
  wa_putI hd (hμ ▸ fX7_106) rfl inX7 rfl rfl (by decide) tyX7_ok nmX7 rfl rfl (fun _ _ _ => rfl) hS kk
theorem fX7_109 : Cond.fieldLink RX7 109 RX7 (TX7 20).2.1 (TX7 20).2.2.1 ∈ lw_ok := lw_in 655 (by decide +kernel) (by decide +kernel)
theorem gX7_109 {k : Nat} (hd : decode μ.2.1 pc = .ok (.getfield 109, 3)) (hμ : μ.1.cls = RX7) (hS : S k = some (.inr 7)) (kk : Wa X μ R Z ce sl n S (pc + 3) L (zI (V k 20) :: st) Rf V) : Wa X μ R Z ce sl n S (pc) L (zR k :: st) Rf V :=
  wa_getI hd (hμ ▸ fX7_109) rfl inX7 rfl rfl (by decide) (fun _ _ _ => rfl) hS kk
theorem pX7_109 {k : Nat} {x : Int} (hd : decode μ.2.1 pc = .ok (.putfield 109, 3)) (hμ : μ.1.cls = RX7) (hS : S k = some (.inr 7)) (kk : Wa X μ R Z ce sl n S (pc + 3) L st Rf (zp V k (za (V k) 20 x))) : Wa X μ R Z ce sl n S (pc) L (zI x :: zR k :: st) Rf V :=
  wa_putI hd (hμ ▸ fX7_109) rfl inX7 rfl rfl (by decide) tyX7_ok nmX7 rfl rfl (fun _ _ _ => rfl) hS kk
theorem fX7_112 : Cond.fieldLink RX7 112 RX7 (TX7 21).2.1 (TX7 21).2.2.1 ∈ lw_ok := lw_in 656 (by decide +kernel) (by decide +kernel)
theorem gX7_112 {k : Nat} (hd : decode μ.2.1 pc = .ok (.getfield 112, 3)) (hμ : μ.1.cls = RX7) (hS : S k = some (.inr 7)) (kk : Wa X μ R Z ce sl n S (pc + 3) L (zI (V k 21) :: st) Rf V) : Wa X μ R Z ce sl n S (pc) L (zR k :: st) Rf V :=
  wa_getI hd (hμ ▸ fX7_112) rfl inX7 rfl rfl (by decide) (fun _ _ _ => rfl) hS kk
theorem pX7_112 {k : Nat} {x : Int} (hd : decode μ.2.1 pc = .ok (.putfield 112, 3)) (hμ : μ.1.cls = RX7) (hS : S k = some (.inr 7)) (kk : Wa X μ R Z ce sl n S (pc + 3) L st Rf (zp V k (za (V k) 21 x))) : Wa X μ R Z ce sl n S (pc) L (zI x :: zR k :: st) Rf V :=
  wa_putI hd (hμ ▸ fX7_112) rfl inX7 rfl rfl (by decide) tyX7_ok nmX7 rfl rfl (fun _ _ _ => rfl) hS kk
theorem fX7_115 : Cond.fieldLink RX7 115 RX7 (TX7 22).2.1 (TX7 22).2.2.1 ∈ lw_ok := lw_in 657 (by decide +kernel) (by decide +kernel)
theorem gX7_115 {k : Nat} (hd : decode μ.2.1 pc = .ok (.getfield 115, 3)) (hμ : μ.1.cls = RX7) (hS : S k = some (.inr 7)) (kk : Wa X μ R Z ce sl n S (pc + 3) L (zI (V k 22) :: st) Rf V) : Wa X μ R Z ce sl n S (pc) L (zR k :: st) Rf V :=
  wa_getI hd (hμ ▸ fX7_115) rfl inX7 rfl rfl (by decide) (fun _ _ _ => rfl) hS kk
theorem pX7_115 {k : Nat} {x : Int} (hd : decode μ.2.1 pc = .ok (.putfield 115, 3)) (hμ : μ.1.cls = RX7) (hS : S k = some (.inr 7)) (kk : Wa X μ R Z ce sl n S (pc + 3) L st Rf (zp V k (za (V k) 22 x))) : Wa X μ R Z ce sl n S (pc) L (zI x :: zR k :: st) Rf V :=
  wa_putI hd (hμ ▸ fX7_115) rfl inX7 rfl rfl (by decide) tyX7_ok nmX7 rfl rfl (fun _ _ _ => rfl) hS kk
theorem fX7_118 : Cond.fieldLink RX7 118 RX7 (TX7 23).2.1 (TX7 23).2.2.1 ∈ lw_ok := lw_in 658 (by decide +kernel) (by decide +kernel)
theorem gX7_118 {k : Nat} (hd : decode μ.2.1 pc = .ok (.getfield 118, 3)) (hμ : μ.1.cls = RX7) (hS : S k = some (.inr 7)) (kk : Wa X μ R Z ce sl n S (pc + 3) L (zI (V k 23) :: st) Rf V) : Wa X μ R Z ce sl n S (pc) L (zR k :: st) Rf V :=
  wa_getI hd (hμ ▸ fX7_118) rfl inX7 rfl rfl (by decide) (fun _ _ _ => rfl) hS kk
theorem pX7_118 {k : Nat} {x : Int} (hd : decode μ.2.1 pc = .ok (.putfield 118, 3)) (hμ : μ.1.cls = RX7) (hS : S k = some (.inr 7)) (kk : Wa X μ R Z ce sl n S (pc + 3) L st Rf (zp V k (za (V k) 23 x))) : Wa X μ R Z ce sl n S (pc) L (zI x :: zR k :: st) Rf V :=
  wa_putI hd (hμ ▸ fX7_118) rfl inX7 rfl rfl (by decide) tyX7_ok nmX7 rfl rfl (fun _ _ _ => rfl) hS kk
theorem fX7_143 : Cond.fieldLink RX7 143 RX7 (TX7 24).2.1 (TX7 24).2.2.1 ∈ lw_ok := lw_in 659 (by decide +kernel) (by decide +kernel)
theorem gX7_143 {k : Nat} (hd : decode μ.2.1 pc = .ok (.getfield 143, 3)) (hμ : μ.1.cls = RX7) (hS : S k = some (.inr 7)) (kk : Wa X μ R Z ce sl n S (pc + 3) L (zI (V k 24) :: st) Rf V) : Wa X μ R Z ce sl n S (pc) L (zR k :: st) Rf V :=
  wa_getI hd (hμ ▸ fX7_143) rfl inX7 rfl rfl (by decide) (fun _ _ _ => rfl) hS kk
theorem pX7_143 {k : Nat} {x : Int} (hd : decode μ.2.1 pc = .ok (.putfield 143, 3)) (hμ : μ.1.cls = RX7) (hS : S k = some (.inr 7)) (kk : Wa X μ R Z ce sl n S (pc + 3) L st Rf (zp V k (za (V k) 24 x))) : Wa X μ R Z ce sl n S (pc) L (zI x :: zR k :: st) Rf V :=
  wa_putI hd (hμ ▸ fX7_143) rfl inX7 rfl rfl (by decide) tyX7_ok nmX7 rfl rfl (fun _ _ _ => rfl) hS kk
theorem fX7_137 : Cond.fieldLink RX7 137 RX7 (TX7 25).2.1 (TX7 25).2.2.1 ∈ lw_ok := lw_in 660 (by decide +kernel) (by decide +kernel)
theorem gX7_137 {k : Nat} (hd : decode μ.2.1 pc = .ok (.getfield 137, 3)) (hμ : μ.1.cls = RX7) (hS : S k = some (.inr 7)) (kk : Wa X μ R Z ce sl n S (pc + 3) L (zI (V k 25) :: st) Rf V) : Wa X μ R Z ce sl n S (pc) L (zR k :: st) Rf V :=
  wa_getI hd (hμ ▸ fX7_137) rfl inX7 rfl rfl (by decide) (fun _ _ _ => rfl) hS kk
theorem pX7_137 {k : Nat} {x : Int} (hd : decode μ.2.1 pc = .ok (.putfield 137, 3)) (hμ : μ.1.cls = RX7) (hS : S k = some (.inr 7)) (kk : Wa X μ R Z ce sl n S (pc + 3) L st Rf (zp V k (za (V k) 25 x))) : Wa X μ R Z ce sl n S (pc) L (zI x :: zR k :: st) Rf V :=
  wa_putI hd (hμ ▸ fX7_137) rfl inX7 rfl rfl (by decide) tyX7_ok nmX7 rfl rfl (fun _ _ _ => rfl) hS kk
theorem fX7_140 : Cond.fieldLink RX7 140 RX7 (TX7 26).2.1 (TX7 26).2.2.1 ∈ lw_ok := lw_in 661 (by decide +kernel) (by decide +kernel)
theorem gX7_140 {k : Nat} (hd : decode μ.2.1 pc = .ok (.getfield 140, 3)) (hμ : μ.1.cls = RX7) (hS : S k = some (.inr 7)) (kk : Wa X μ R Z ce sl n S (pc + 3) L (zI (V k 26) :: st) Rf V) : Wa X μ R Z ce sl n S (pc) L (zR k :: st) Rf V :=
  wa_getI hd (hμ ▸ fX7_140) rfl inX7 rfl rfl (by decide) (fun _ _ _ => rfl) hS kk
theorem pX7_140 {k : Nat} {x : Int} (hd : decode μ.2.1 pc = .ok (.putfield 140, 3)) (hμ : μ.1.cls = RX7) (hS : S k = some (.inr 7)) (kk : Wa X μ R Z ce sl n S (pc + 3) L st Rf (zp V k (za (V k) 26 x))) : Wa X μ R Z ce sl n S (pc) L (zI x :: zR k :: st) Rf V :=
  wa_putI hd (hμ ▸ fX7_140) rfl inX7 rfl rfl (by decide) tyX7_ok nmX7 rfl rfl (fun _ _ _ => rfl) hS kk
theorem fX7_56 : Cond.fieldLink RX7 56 RX7 (TX7 27).2.1 (TX7 27).2.2.1 ∈ lw_ok := lw_in 662 (by decide +kernel) (by decide +kernel)
theorem gX7_56 {k : Nat} {a : Option Nat} (hd : decode μ.2.1 pc = .ok (.getfield 56, 3)) (hμ : μ.1.cls = RX7) (hS : S k = some (.inr 7)) (ha : Rf k 27 = a) (kk : Wa X μ R Z ce sl n S (pc + 3) L (zO a :: st) Rf V) : Wa X μ R Z ce sl n S (pc) L (zR k :: st) Rf V :=
  wa_getO hd (hμ ▸ fX7_56) rfl inX7 rfl rfl (by decide) (fun _ _ _ => rfl) hS ha kk
theorem pX7_56 {k : Nat} {r : Option Nat} (hd : decode μ.2.1 pc = .ok (.putfield 56, 3)) (hμ : μ.1.cls = RX7) (hμ2 : μ.1.name = "<init>") (hS : S k = some (.inr 7)) (kk : Wa X μ R Z ce sl n S (pc + 3) L st (zp Rf k (za (Rf k) 27 r)) V) : Wa X μ R Z ce sl n S (pc) L (zO r :: zR k :: st) Rf V :=
  wa_putOF (ty := tyX7 27) hd (hμ ▸ fX7_56) rfl inX7 rfl rfl (by decide) tyX7_ok nmX7 rfl hμ2 (hμ ▸ rfl) (tyX7_ok 27 (by decide)) (fun r => by cases r <;> exact ⟨rfl, rfl⟩) (fun _ _ _ => rfl) hS kk
theorem fX7_59 : Cond.fieldLink RX7 59 RX7 (TX7 28).2.1 (TX7 28).2.2.1 ∈ lw_ok := lw_in 663 (by decide +kernel) (by decide +kernel)
theorem gX7_59 {k : Nat} {a : Option Nat} (hd : decode μ.2.1 pc = .ok (.getfield 59, 3)) (hμ : μ.1.cls = RX7) (hS : S k = some (.inr 7)) (ha : Rf k 28 = a) (kk : Wa X μ R Z ce sl n S (pc + 3) L (zO a :: st) Rf V) : Wa X μ R Z ce sl n S (pc) L (zR k :: st) Rf V :=
  wa_getO hd (hμ ▸ fX7_59) rfl inX7 rfl rfl (by decide) (fun _ _ _ => rfl) hS ha kk
theorem pX7_59 {k : Nat} {r : Option Nat} (hd : decode μ.2.1 pc = .ok (.putfield 59, 3)) (hμ : μ.1.cls = RX7) (hμ2 : μ.1.name = "<init>") (hS : S k = some (.inr 7)) (kk : Wa X μ R Z ce sl n S (pc + 3) L st (zp Rf k (za (Rf k) 28 r)) V) : Wa X μ R Z ce sl n S (pc) L (zO r :: zR k :: st) Rf V :=
  wa_putOF (ty := tyX7 28) hd (hμ ▸ fX7_59) rfl inX7 rfl rfl (by decide) tyX7_ok nmX7 rfl hμ2 (hμ ▸ rfl) (tyX7_ok 28 (by decide)) (fun r => by cases r <;> exact ⟨rfl, rfl⟩) (fun _ _ _ => rfl) hS kk
theorem fX7_178 : Cond.fieldLink RX7 178 RX7 (TX7 29).2.1 (TX7 29).2.2.1 ∈ lw_ok := lw_in 664 (by decide +kernel) (by decide +kernel)
theorem gX7_178 {k : Nat} (hd : decode μ.2.1 pc = .ok (.getfield 178, 3)) (hμ : μ.1.cls = RX7) (hS : S k = some (.inr 7)) (kk : Wa X μ R Z ce sl n S (pc + 3) L (zI (V k 29) :: st) Rf V) : Wa X μ R Z ce sl n S (pc) L (zR k :: st) Rf V :=
  wa_getI hd (hμ ▸ fX7_178) rfl inX7 rfl rfl (by decide) (fun _ _ _ => rfl) hS kk
theorem pX7_178 {k : Nat} {x : Int} (hd : decode μ.2.1 pc = .ok (.putfield 178, 3)) (hμ : μ.1.cls = RX7) (hS : S k = some (.inr 7)) (kk : Wa X μ R Z ce sl n S (pc + 3) L st Rf (zp V k (za (V k) 29 x))) : Wa X μ R Z ce sl n S (pc) L (zI x :: zR k :: st) Rf V :=
  wa_putI hd (hμ ▸ fX7_178) rfl inX7 rfl rfl (by decide) tyX7_ok nmX7 rfl rfl (fun _ _ _ => rfl) hS kk
theorem fX7_189 : Cond.fieldLink RX7 189 RX7 (TX7 30).2.1 (TX7 30).2.2.1 ∈ lw_ok := lw_in 665 (by decide +kernel) (by decide +kernel)
theorem gX7_189 {k : Nat} (hd : decode μ.2.1 pc = .ok (.getfield 189, 3)) (hμ : μ.1.cls = RX7) (hS : S k = some (.inr 7)) (kk : Wa X μ R Z ce sl n S (pc + 3) L (zI (V k 30) :: st) Rf V) : Wa X μ R Z ce sl n S (pc) L (zR k :: st) Rf V :=
  wa_getI hd (hμ ▸ fX7_189) rfl inX7 rfl rfl (by decide) (fun _ _ _ => rfl) hS kk
theorem pX7_189 {k : Nat} {x : Int} (hd : decode μ.2.1 pc = .ok (.putfield 189, 3)) (hμ : μ.1.cls = RX7) (hS : S k = some (.inr 7)) (kk : Wa X μ R Z ce sl n S (pc + 3) L st Rf (zp V k (za (V k) 30 x))) : Wa X μ R Z ce sl n S (pc) L (zI x :: zR k :: st) Rf V :=
  wa_putI hd (hμ ▸ fX7_189) rfl inX7 rfl rfl (by decide) tyX7_ok nmX7 rfl rfl (fun _ _ _ => rfl) hS kk
theorem fX7_195 : Cond.fieldLink RX7 195 RX7 (TX7 31).2.1 (TX7 31).2.2.1 ∈ lw_ok := lw_in 666 (by decide +kernel) (by decide +kernel)
theorem gX7_195 {k : Nat} (hd : decode μ.2.1 pc = .ok (.getfield 195, 3)) (hμ : μ.1.cls = RX7) (hS : S k = some (.inr 7)) (kk : Wa X μ R Z ce sl n S (pc + 3) L (zI (V k 31) :: st) Rf V) : Wa X μ R Z ce sl n S (pc) L (zR k :: st) Rf V :=
  wa_getI hd (hμ ▸ fX7_195) rfl inX7 rfl rfl (by decide) (fun _ _ _ => rfl) hS kk
theorem pX7_195 {k : Nat} {x : Int} (hd : decode μ.2.1 pc = .ok (.putfield 195, 3)) (hμ : μ.1.cls = RX7) (hS : S k = some (.inr 7)) (kk : Wa X μ R Z ce sl n S (pc + 3) L st Rf (zp V k (za (V k) 31 x))) : Wa X μ R Z ce sl n S (pc) L (zI x :: zR k :: st) Rf V :=
  wa_putI hd (hμ ▸ fX7_195) rfl inX7 rfl rfl (by decide) tyX7_ok nmX7 rfl rfl (fun _ _ _ => rfl) hS kk
theorem fX7_198 : Cond.fieldLink RX7 198 RX7 (TX7 32).2.1 (TX7 32).2.2.1 ∈ lw_ok := lw_in 667 (by decide +kernel) (by decide +kernel)
theorem gX7_198 {k : Nat} (hd : decode μ.2.1 pc = .ok (.getfield 198, 3)) (hμ : μ.1.cls = RX7) (hS : S k = some (.inr 7)) (kk : Wa X μ R Z ce sl n S (pc + 3) L (zI (V k 32) :: st) Rf V) : Wa X μ R Z ce sl n S (pc) L (zR k :: st) Rf V :=
  wa_getI hd (hμ ▸ fX7_198) rfl inX7 rfl rfl (by decide) (fun _ _ _ => rfl) hS kk
theorem pX7_198 {k : Nat} {x : Int} (hd : decode μ.2.1 pc = .ok (.putfield 198, 3)) (hμ : μ.1.cls = RX7) (hS : S k = some (.inr 7)) (kk : Wa X μ R Z ce sl n S (pc + 3) L st Rf (zp V k (za (V k) 32 x))) : Wa X μ R Z ce sl n S (pc) L (zI x :: zR k :: st) Rf V :=
  wa_putI hd (hμ ▸ fX7_198) rfl inX7 rfl rfl (by decide) tyX7_ok nmX7 rfl rfl (fun _ _ _ => rfl) hS kk
theorem fX7_201 : Cond.fieldLink RX7 201 RX7 (TX7 33).2.1 (TX7 33).2.2.1 ∈ lw_ok := lw_in 668 (by decide +kernel) (by decide +kernel)
theorem gX7_201 {k : Nat} (hd : decode μ.2.1 pc = .ok (.getfield 201, 3)) (hμ : μ.1.cls = RX7) (hS : S k = some (.inr 7)) (kk : Wa X μ R Z ce sl n S (pc + 3) L (zI (V k 33) :: st) Rf V) : Wa X μ R Z ce sl n S (pc) L (zR k :: st) Rf V :=
  wa_getI hd (hμ ▸ fX7_201) rfl inX7 rfl rfl (by decide) (fun _ _ _ => rfl) hS kk
theorem pX7_201 {k : Nat} {x : Int} (hd : decode μ.2.1 pc = .ok (.putfield 201, 3)) (hμ : μ.1.cls = RX7) (hS : S k = some (.inr 7)) (kk : Wa X μ R Z ce sl n S (pc + 3) L st Rf (zp V k (za (V k) 33 x))) : Wa X μ R Z ce sl n S (pc) L (zI x :: zR k :: st) Rf V :=
  wa_putI hd (hμ ▸ fX7_201) rfl inX7 rfl rfl (by decide) tyX7_ok nmX7 rfl rfl (fun _ _ _ => rfl) hS kk
theorem fX7_63 : Cond.fieldLink RX7 63 RX7 (TX7 34).2.1 (TX7 34).2.2.1 ∈ lw_ok := lw_in 669 (by decide +kernel) (by decide +kernel)
theorem gX7_63 {k : Nat} {a : Option Nat} (hd : decode μ.2.1 pc = .ok (.getfield 63, 3)) (hμ : μ.1.cls = RX7) (hS : S k = some (.inr 7)) (ha : Rf k 34 = a) (kk : Wa X μ R Z ce sl n S (pc + 3) L (zO a :: st) Rf V) : Wa X μ R Z ce sl n S (pc) L (zR k :: st) Rf V :=
  wa_getO hd (hμ ▸ fX7_63) rfl inX7 rfl rfl (by decide) (fun _ _ _ => rfl) hS ha kk
theorem pX7_63 {k : Nat} {r : Option Nat} (hd : decode μ.2.1 pc = .ok (.putfield 63, 3)) (hμ : μ.1.cls = RX7) (hμ2 : μ.1.name = "<init>") (hS : S k = some (.inr 7)) (kk : Wa X μ R Z ce sl n S (pc + 3) L st (zp Rf k (za (Rf k) 34 r)) V) : Wa X μ R Z ce sl n S (pc) L (zO r :: zR k :: st) Rf V :=
  wa_putOF (ty := tyX7 34) hd (hμ ▸ fX7_63) rfl inX7 rfl rfl (by decide) tyX7_ok nmX7 rfl hμ2 (hμ ▸ rfl) (tyX7_ok 34 (by decide)) (fun r => by cases r <;> exact ⟨rfl, rfl⟩) (fun _ _ _ => rfl) hS kk
theorem fX7_66 : Cond.fieldLink RX7 66 RX7 (TX7 35).2.1 (TX7 35).2.2.1 ∈ lw_ok := lw_in 670 (by decide +kernel) (by decide +kernel)
theorem gX7_66 {k : Nat} {a : Option Nat} (hd : decode μ.2.1 pc = .ok (.getfield 66, 3)) (hμ : μ.1.cls = RX7) (hS : S k = some (.inr 7)) (ha : Rf k 35 = a) (kk : Wa X μ R Z ce sl n S (pc + 3) L (zO a :: st) Rf V) : Wa X μ R Z ce sl n S (pc) L (zR k :: st) Rf V :=
  wa_getO hd (hμ ▸ fX7_66) rfl inX7 rfl rfl (by decide) (fun _ _ _ => rfl) hS ha kk
theorem pX7_66 {k : Nat} {r : Option Nat} (hd : decode μ.2.1 pc = .ok (.putfield 66, 3)) (hμ : μ.1.cls = RX7) (hμ2 : μ.1.name = "<init>") (hS : S k = some (.inr 7)) (kk : Wa X μ R Z ce sl n S (pc + 3) L st (zp Rf k (za (Rf k) 35 r)) V) : Wa X μ R Z ce sl n S (pc) L (zO r :: zR k :: st) Rf V :=
  wa_putOF (ty := tyX7 35) hd (hμ ▸ fX7_66) rfl inX7 rfl rfl (by decide) tyX7_ok nmX7 rfl hμ2 (hμ ▸ rfl) (tyX7_ok 35 (by decide)) (fun r => by cases r <;> exact ⟨rfl, rfl⟩) (fun _ _ _ => rfl) hS kk
theorem fX7_69 : Cond.fieldLink RX7 69 RX7 (TX7 36).2.1 (TX7 36).2.2.1 ∈ lw_ok := lw_in 671 (by decide +kernel) (by decide +kernel)
theorem gX7_69 {k : Nat} {a : Option Nat} (hd : decode μ.2.1 pc = .ok (.getfield 69, 3)) (hμ : μ.1.cls = RX7) (hS : S k = some (.inr 7)) (ha : Rf k 36 = a) (kk : Wa X μ R Z ce sl n S (pc + 3) L (zO a :: st) Rf V) : Wa X μ R Z ce sl n S (pc) L (zR k :: st) Rf V :=
  wa_getO hd (hμ ▸ fX7_69) rfl inX7 rfl rfl (by decide) (fun _ _ _ => rfl) hS ha kk
theorem pX7_69 {k : Nat} {r : Option Nat} (hd : decode μ.2.1 pc = .ok (.putfield 69, 3)) (hμ : μ.1.cls = RX7) (hμ2 : μ.1.name = "<init>") (hS : S k = some (.inr 7)) (kk : Wa X μ R Z ce sl n S (pc + 3) L st (zp Rf k (za (Rf k) 36 r)) V) : Wa X μ R Z ce sl n S (pc) L (zO r :: zR k :: st) Rf V :=
  wa_putOF (ty := tyX7 36) hd (hμ ▸ fX7_69) rfl inX7 rfl rfl (by decide) tyX7_ok nmX7 rfl hμ2 (hμ ▸ rfl) (tyX7_ok 36 (by decide)) (fun r => by cases r <;> exact ⟨rfl, rfl⟩) (fun _ _ _ => rfl) hS kk
theorem fX7_72 : Cond.fieldLink RX7 72 RX7 (TX7 37).2.1 (TX7 37).2.2.1 ∈ lw_ok := lw_in 672 (by decide +kernel) (by decide +kernel)
theorem gX7_72 {k : Nat} {a : Option Nat} (hd : decode μ.2.1 pc = .ok (.getfield 72, 3)) (hμ : μ.1.cls = RX7) (hS : S k = some (.inr 7)) (ha : Rf k 37 = a) (kk : Wa X μ R Z ce sl n S (pc + 3) L (zO a :: st) Rf V) : Wa X μ R Z ce sl n S (pc) L (zR k :: st) Rf V :=
  wa_getO hd (hμ ▸ fX7_72) rfl inX7 rfl rfl (by decide) (fun _ _ _ => rfl) hS ha kk
theorem pX7_72 {k : Nat} {r : Option Nat} (hd : decode μ.2.1 pc = .ok (.putfield 72, 3)) (hμ : μ.1.cls = RX7) (hμ2 : μ.1.name = "<init>") (hS : S k = some (.inr 7)) (kk : Wa X μ R Z ce sl n S (pc + 3) L st (zp Rf k (za (Rf k) 37 r)) V) : Wa X μ R Z ce sl n S (pc) L (zO r :: zR k :: st) Rf V :=
  wa_putOF (ty := tyX7 37) hd (hμ ▸ fX7_72) rfl inX7 rfl rfl (by decide) tyX7_ok nmX7 rfl hμ2 (hμ ▸ rfl) (tyX7_ok 37 (by decide)) (fun r => by cases r <;> exact ⟨rfl, rfl⟩) (fun _ _ _ => rfl) hS kk
theorem fX7_75 : Cond.fieldLink RX7 75 RX7 (TX7 38).2.1 (TX7 38).2.2.1 ∈ lw_ok := lw_in 673 (by decide +kernel) (by decide +kernel)
theorem gX7_75 {k : Nat} {a : Option Nat} (hd : decode μ.2.1 pc = .ok (.getfield 75, 3)) (hμ : μ.1.cls = RX7) (hS : S k = some (.inr 7)) (ha : Rf k 38 = a) (kk : Wa X μ R Z ce sl n S (pc + 3) L (zO a :: st) Rf V) : Wa X μ R Z ce sl n S (pc) L (zR k :: st) Rf V :=
  wa_getO hd (hμ ▸ fX7_75) rfl inX7 rfl rfl (by decide) (fun _ _ _ => rfl) hS ha kk
theorem pX7_75 {k : Nat} {r : Option Nat} (hd : decode μ.2.1 pc = .ok (.putfield 75, 3)) (hμ : μ.1.cls = RX7) (hμ2 : μ.1.name = "<init>") (hS : S k = some (.inr 7)) (kk : Wa X μ R Z ce sl n S (pc + 3) L st (zp Rf k (za (Rf k) 38 r)) V) : Wa X μ R Z ce sl n S (pc) L (zO r :: zR k :: st) Rf V :=
  wa_putOF (ty := tyX7 38) hd (hμ ▸ fX7_75) rfl inX7 rfl rfl (by decide) tyX7_ok nmX7 rfl hμ2 (hμ ▸ rfl) (tyX7_ok 38 (by decide)) (fun r => by cases r <;> exact ⟨rfl, rfl⟩) (fun _ _ _ => rfl) hS kk
theorem lL_9 : Cond.methodLink RL 9 yX6_init ∈ lw_ok := lw_in 52 (by decide +kernel) (by decide +kernel)
theorem kL_9 {d mc r : Nat} {Qc : zQ}  (hd : decode μ.2.1 pc = .ok (.invokespecial 9, 3)) (hμ : μ.1.cls = RL) (hC : Ct d mc ms mX6_init [zR r] n S Rf V Qc) (hR : d + 1 ≤ R.frames ∧ 8 + (mX6_init.2.2.1 + 11) + 40 * d ≤ R.locals) (hw : (st.map zcat).sum ≤ 8) (hf : ce + mc ≤ R.cells ∧ sl + ms ≤ R.slots) (kk : ∀ (v : Option zV) (S' : zH) (Rf' : zG) (V' : zE), Qc v S' Rf' V' → Wa X μ R Z (ce + mc) (sl + ms) (n + mc) S' (pc + 3) L (v.toList ++ st) Rf' V') : Wa X μ R Z ce sl n S (pc) L (zR r :: st) Rf V :=
  wa_callI (k1 := 0) (as := []) hd (hμ ▸ lL_9) w_inst_X6_init w_init_X6 w_code_X6_init rfl rfl ⟨by decide +kernel, by decide +kernel, by decide +kernel⟩ rfl rfl hC hR hw hf kk
theorem lX6_1 : Cond.methodLink RX6 1 Lib.objectInit ∈ lw_ok := lw_in 55 (by decide +kernel) (by decide +kernel)
theorem lX6_9 : Cond.methodLink RX6 9 yX4_init ∈ lw_ok := lw_in 60 (by decide +kernel) (by decide +kernel)
theorem kX6_9 {d mc r : Nat} {Qc : zQ}  (hd : decode μ.2.1 pc = .ok (.invokespecial 9, 3)) (hμ : μ.1.cls = RX6) (hC : Ct d mc ms mX4_init [zR r] n S Rf V Qc) (hR : d + 1 ≤ R.frames ∧ 8 + (mX4_init.2.2.1 + 11) + 40 * d ≤ R.locals) (hw : (st.map zcat).sum ≤ 8) (hf : ce + mc ≤ R.cells ∧ sl + ms ≤ R.slots) (kk : ∀ (v : Option zV) (S' : zH) (Rf' : zG) (V' : zE), Qc v S' Rf' V' → Wa X μ R Z (ce + mc) (sl + ms) (n + mc) S' (pc + 3) L (v.toList ++ st) Rf' V') : Wa X μ R Z ce sl n S (pc) L (zR r :: st) Rf V :=
  wa_callI (k1 := 0) (as := []) hd (hμ ▸ lX6_9) w_inst_X4_init w_init_X4 w_code_X4_init rfl rfl ⟨by decide +kernel, by decide +kernel, by decide +kernel⟩ rfl rfl hC hR hw hf kk
theorem lX4_3 : Cond.methodLink RX4 3 Lib.objectInit ∈ lw_ok := lw_in 63 (by decide +kernel) (by decide +kernel)
theorem lX4_33 : Cond.methodLink RX4 33 yX4_begin ∈ lw_ok := lw_in 64 (by decide +kernel) (by decide +kernel)
theorem kX4_33 {d mc r : Nat} {Qc : zQ} {a1 : zV} (hd : decode μ.2.1 pc = .ok (.invokevirtual 33, 3)) (hμ : μ.1.cls = RX4) (hS : S r = some (.inr 4)) (hC : Ct d mc ms mX4_begin [zR r, a1] n S Rf V Qc) (hR : d + 1 ≤ R.frames ∧ 8 + (mX4_begin.2.2.1 + 11) + 40 * d ≤ R.locals) (hw : (st.map zcat).sum ≤ 8) (hf : ce + mc ≤ R.cells ∧ sl + ms ≤ R.slots) (kk : ∀ (v : Option zV) (S' : zH) (Rf' : zG) (V' : zE), Qc v S' Rf' V' → Wa X μ R Z (ce + mc) (sl + ms) (n + mc) S' (pc + 3) L (v.toList ++ st) Rf' V') : Wa X μ R Z ce sl n S (pc) L (a1 :: zR r :: st) Rf V :=
  wa_callV (k1 := 1) (as := [a1]) (ci := 4) hd (hμ ▸ lX4_33) w_inst_X4_begin w_sel_X4_begin w_init_X4 w_code_X4_begin ⟨by decide +kernel, by decide +kernel, by decide +kernel⟩ rfl rfl hS rfl hC hR hw hf kk
theorem lX4_41 : Cond.methodLink RX4 41 yJ7_fill_53178 ∈ lw_ok := lw_in 68 (by decide +kernel) (by decide +kernel)
theorem kX4_41 {d mc : Nat} {Qc : zQ} {a1 a2 : zV} (hd : decode μ.2.1 pc = .ok (.invokestatic 41, 3)) (hμ : μ.1.cls = RX4) (hC : Ct d mc ms mJ7_fill_53178 [a1, a2] n S Rf V Qc) (hR : d + 1 ≤ R.frames ∧ 8 + (mJ7_fill_53178.2.2.1 + 11) + 40 * d ≤ R.locals) (hw : (st.map zcat).sum ≤ 8) (hf : ce + mc ≤ R.cells ∧ sl + ms ≤ R.slots) (kk : ∀ (v : Option zV) (S' : zH) (Rf' : zG) (V' : zE), Qc v S' Rf' V' → Wa X μ R Z (ce + mc) (sl + ms) (n + mc) S' (pc + 3) L (v.toList ++ st) Rf' V') : Wa X μ R Z ce sl n S (pc) L (a2 :: a1 :: st) Rf V :=
  wa_callS (k1 := 2) hd (hμ ▸ lX4_41) w_stat_J7_fill_53178 w_init_J7 w_code_J7_fill_53178 ⟨by decide +kernel, by decide +kernel, by decide +kernel⟩ rfl rfl hC hR hw hf kk
theorem lX4_56 : Cond.methodLink RX4 56 yX4_clearSnow ∈ lw_ok := lw_in 71 (by decide +kernel) (by decide +kernel)
theorem kX4_56 {d mc r : Nat} {Qc : zQ}  (hd : decode μ.2.1 pc = .ok (.invokevirtual 56, 3)) (hμ : μ.1.cls = RX4) (hS : S r = some (.inr 4)) (hC : Ct d mc ms mX4_clearSnow [zR r] n S Rf V Qc) (hR : d + 1 ≤ R.frames ∧ 8 + (mX4_clearSnow.2.2.1 + 11) + 40 * d ≤ R.locals) (hw : (st.map zcat).sum ≤ 8) (hf : ce + mc ≤ R.cells ∧ sl + ms ≤ R.slots) (kk : ∀ (v : Option zV) (S' : zH) (Rf' : zG) (V' : zE), Qc v S' Rf' V' → Wa X μ R Z (ce + mc) (sl + ms) (n + mc) S' (pc + 3) L (v.toList ++ st) Rf' V') : Wa X μ R Z ce sl n S (pc) L (zR r :: st) Rf V :=
  wa_callV (k1 := 0) (as := []) (ci := 4) hd (hμ ▸ lX4_56) w_inst_X4_clearSnow w_sel_X4_clearSnow w_init_X4 w_code_X4_clearSnow ⟨by decide +kernel, by decide +kernel, by decide +kernel⟩ rfl rfl hS rfl hC hR hw hf kk
theorem lX4_59 : Cond.methodLink RX4 59 yX4_forgetWords ∈ lw_ok := lw_in 75 (by decide +kernel) (by decide +kernel)
theorem kX4_59 {d mc r : Nat} {Qc : zQ}  (hd : decode μ.2.1 pc = .ok (.invokevirtual 59, 3)) (hμ : μ.1.cls = RX4) (hS : S r = some (.inr 4)) (hC : Ct d mc ms mX4_forgetWords [zR r] n S Rf V Qc) (hR : d + 1 ≤ R.frames ∧ 8 + (mX4_forgetWords.2.2.1 + 11) + 40 * d ≤ R.locals) (hw : (st.map zcat).sum ≤ 8) (hf : ce + mc ≤ R.cells ∧ sl + ms ≤ R.slots) (kk : ∀ (v : Option zV) (S' : zH) (Rf' : zG) (V' : zE), Qc v S' Rf' V' → Wa X μ R Z (ce + mc) (sl + ms) (n + mc) S' (pc + 3) L (v.toList ++ st) Rf' V') : Wa X μ R Z ce sl n S (pc) L (zR r :: st) Rf V :=
  wa_callV (k1 := 0) (as := []) (ci := 4) hd (hμ ▸ lX4_59) w_inst_X4_forgetWords w_sel_X4_forgetWords w_init_X4 w_code_X4_forgetWords ⟨by decide +kernel, by decide +kernel, by decide +kernel⟩ rfl rfl hS rfl hC hR hw hf kk
theorem lX4_62 : Cond.methodLink RX4 62 yJ7_fill_fda19 ∈ lw_ok := lw_in 79 (by decide +kernel) (by decide +kernel)
theorem kX4_62 {d mc : Nat} {Qc : zQ} {a1 a2 a3 a4 : zV} (hd : decode μ.2.1 pc = .ok (.invokestatic 62, 3)) (hμ : μ.1.cls = RX4) (hC : Ct d mc ms mJ7_fill_fda19 [a1, a2, a3, a4] n S Rf V Qc) (hR : d + 1 ≤ R.frames ∧ 8 + (mJ7_fill_fda19.2.2.1 + 11) + 40 * d ≤ R.locals) (hw : (st.map zcat).sum ≤ 8) (hf : ce + mc ≤ R.cells ∧ sl + ms ≤ R.slots) (kk : ∀ (v : Option zV) (S' : zH) (Rf' : zG) (V' : zE), Qc v S' Rf' V' → Wa X μ R Z (ce + mc) (sl + ms) (n + mc) S' (pc + 3) L (v.toList ++ st) Rf' V') : Wa X μ R Z ce sl n S (pc) L (a4 :: a3 :: a2 :: a1 :: st) Rf V :=
  wa_callS (k1 := 4) hd (hμ ▸ lX4_62) w_stat_J7_fill_fda19 w_init_J7 w_code_J7_fill_fda19 ⟨by decide +kernel, by decide +kernel, by decide +kernel⟩ rfl rfl hC hR hw hf kk
theorem lJ7_13 : Cond.methodLink RJ7 13 yJ7_rangeCheck_23922 ∈ lw_ok := lw_in 82 (by decide +kernel) (by decide +kernel)
theorem kJ7_13 {d mc : Nat} {Qc : zQ} {a1 a2 a3 : zV} (hd : decode μ.2.1 pc = .ok (.invokestatic 13, 3)) (hμ : μ.1.cls = RJ7) (hC : Ct d mc ms mJ7_rangeCheck_23922 [a1, a2, a3] n S Rf V Qc) (hR : d + 1 ≤ R.frames ∧ 8 + (mJ7_rangeCheck_23922.2.2.1 + 11) + 40 * d ≤ R.locals) (hw : (st.map zcat).sum ≤ 8) (hf : ce + mc ≤ R.cells ∧ sl + ms ≤ R.slots) (kk : ∀ (v : Option zV) (S' : zH) (Rf' : zG) (V' : zE), Qc v S' Rf' V' → Wa X μ R Z (ce + mc) (sl + ms) (n + mc) S' (pc + 3) L (v.toList ++ st) Rf' V') : Wa X μ R Z ce sl n S (pc) L (a3 :: a2 :: a1 :: st) Rf V :=
  wa_callS (k1 := 3) hd (hμ ▸ lJ7_13) w_stat_J7_rangeCheck_23922 w_init_J7 w_code_J7_rangeCheck_23922 ⟨by decide +kernel, by decide +kernel, by decide +kernel⟩ rfl rfl hC hR hw hf kk
theorem lX6_25 : Cond.methodLink RX6 25 yX5_init ∈ lw_ok := lw_in 143 (by decide +kernel) (by decide +kernel)
theorem kX6_25 {d mc r : Nat} {Qc : zQ}  (hd : decode μ.2.1 pc = .ok (.invokespecial 25, 3)) (hμ : μ.1.cls = RX6) (hC : Ct d mc ms mX5_init [zR r] n S Rf V Qc) (hR : d + 1 ≤ R.frames ∧ 8 + (mX5_init.2.2.1 + 11) + 40 * d ≤ R.locals) (hw : (st.map zcat).sum ≤ 8) (hf : ce + mc ≤ R.cells ∧ sl + ms ≤ R.slots) (kk : ∀ (v : Option zV) (S' : zH) (Rf' : zG) (V' : zE), Qc v S' Rf' V' → Wa X μ R Z (ce + mc) (sl + ms) (n + mc) S' (pc + 3) L (v.toList ++ st) Rf' V') : Wa X μ R Z ce sl n S (pc) L (zR r :: st) Rf V :=
  wa_callI (k1 := 0) (as := []) hd (hμ ▸ lX6_25) w_inst_X5_init w_init_X5 w_code_X5_init rfl rfl ⟨by decide +kernel, by decide +kernel, by decide +kernel⟩ rfl rfl hC hR hw hf kk
theorem lX5_3 : Cond.methodLink RX5 3 Lib.objectInit ∈ lw_ok := lw_in 146 (by decide +kernel) (by decide +kernel)
theorem lX6_32 : Cond.methodLink RX6 32 yX1_init ∈ lw_ok := lw_in 182 (by decide +kernel) (by decide +kernel)
theorem kX6_32 {d mc r : Nat} {Qc : zQ}  (hd : decode μ.2.1 pc = .ok (.invokespecial 32, 3)) (hμ : μ.1.cls = RX6) (hC : Ct d mc ms mX1_init [zR r] n S Rf V Qc) (hR : d + 1 ≤ R.frames ∧ 8 + (mX1_init.2.2.1 + 11) + 40 * d ≤ R.locals) (hw : (st.map zcat).sum ≤ 8) (hf : ce + mc ≤ R.cells ∧ sl + ms ≤ R.slots) (kk : ∀ (v : Option zV) (S' : zH) (Rf' : zG) (V' : zE), Qc v S' Rf' V' → Wa X μ R Z (ce + mc) (sl + ms) (n + mc) S' (pc + 3) L (v.toList ++ st) Rf' V') : Wa X μ R Z ce sl n S (pc) L (zR r :: st) Rf V :=
  wa_callI (k1 := 0) (as := []) hd (hμ ▸ lX6_32) w_inst_X1_init w_init_X1 w_code_X1_init rfl rfl ⟨by decide +kernel, by decide +kernel, by decide +kernel⟩ rfl rfl hC hR hw hf kk
theorem lX1_3 : Cond.methodLink RX1 3 Lib.objectInit ∈ lw_ok := lw_in 185 (by decide +kernel) (by decide +kernel)
theorem lX6_39 : Cond.methodLink RX6 39 yX3_init ∈ lw_ok := lw_in 200 (by decide +kernel) (by decide +kernel)
theorem kX6_39 {d mc r : Nat} {Qc : zQ}  (hd : decode μ.2.1 pc = .ok (.invokespecial 39, 3)) (hμ : μ.1.cls = RX6) (hC : Ct d mc ms mX3_init [zR r] n S Rf V Qc) (hR : d + 1 ≤ R.frames ∧ 8 + (mX3_init.2.2.1 + 11) + 40 * d ≤ R.locals) (hw : (st.map zcat).sum ≤ 8) (hf : ce + mc ≤ R.cells ∧ sl + ms ≤ R.slots) (kk : ∀ (v : Option zV) (S' : zH) (Rf' : zG) (V' : zE), Qc v S' Rf' V' → Wa X μ R Z (ce + mc) (sl + ms) (n + mc) S' (pc + 3) L (v.toList ++ st) Rf' V') : Wa X μ R Z ce sl n S (pc) L (zR r :: st) Rf V :=
  wa_callI (k1 := 0) (as := []) hd (hμ ▸ lX6_39) w_inst_X3_init w_init_X3 w_code_X3_init rfl rfl ⟨by decide +kernel, by decide +kernel, by decide +kernel⟩ rfl rfl hC hR hw hf kk
theorem lX3_3 : Cond.methodLink RX3 3 Lib.objectInit ∈ lw_ok := lw_in 203 (by decide +kernel) (by decide +kernel)
theorem lX6_46 : Cond.methodLink RX6 46 yX2_init ∈ lw_ok := lw_in 219 (by decide +kernel) (by decide +kernel)
theorem kX6_46 {d mc r : Nat} {Qc : zQ}  (hd : decode μ.2.1 pc = .ok (.invokespecial 46, 3)) (hμ : μ.1.cls = RX6) (hC : Ct d mc ms mX2_init [zR r] n S Rf V Qc) (hR : d + 1 ≤ R.frames ∧ 8 + (mX2_init.2.2.1 + 11) + 40 * d ≤ R.locals) (hw : (st.map zcat).sum ≤ 8) (hf : ce + mc ≤ R.cells ∧ sl + ms ≤ R.slots) (kk : ∀ (v : Option zV) (S' : zH) (Rf' : zG) (V' : zE), Qc v S' Rf' V' → Wa X μ R Z (ce + mc) (sl + ms) (n + mc) S' (pc + 3) L (v.toList ++ st) Rf' V') : Wa X μ R Z ce sl n S (pc) L (zR r :: st) Rf V :=
  wa_callI (k1 := 0) (as := []) hd (hμ ▸ lX6_46) w_inst_X2_init w_init_X2 w_code_X2_init rfl rfl ⟨by decide +kernel, by decide +kernel, by decide +kernel⟩ rfl rfl hC hR hw hf kk
theorem lX2_3 : Cond.methodLink RX2 3 Lib.objectInit ∈ lw_ok := lw_in 222 (by decide +kernel) (by decide +kernel)
theorem lX6_53 : Cond.methodLink RX6 53 yX0_init ∈ lw_ok := lw_in 253 (by decide +kernel) (by decide +kernel)
theorem kX6_53 {d mc r : Nat} {Qc : zQ}  (hd : decode μ.2.1 pc = .ok (.invokespecial 53, 3)) (hμ : μ.1.cls = RX6) (hC : Ct d mc ms mX0_init [zR r] n S Rf V Qc) (hR : d + 1 ≤ R.frames ∧ 8 + (mX0_init.2.2.1 + 11) + 40 * d ≤ R.locals) (hw : (st.map zcat).sum ≤ 8) (hf : ce + mc ≤ R.cells ∧ sl + ms ≤ R.slots) (kk : ∀ (v : Option zV) (S' : zH) (Rf' : zG) (V' : zE), Qc v S' Rf' V' → Wa X μ R Z (ce + mc) (sl + ms) (n + mc) S' (pc + 3) L (v.toList ++ st) Rf' V') : Wa X μ R Z ce sl n S (pc) L (zR r :: st) Rf V :=
  wa_callI (k1 := 0) (as := []) hd (hμ ▸ lX6_53) w_inst_X0_init w_init_X0 w_code_X0_init rfl rfl ⟨by decide +kernel, by decide +kernel, by decide +kernel⟩ rfl rfl hC hR hw hf kk
theorem lX0_3 : Cond.methodLink RX0 3 Lib.objectInit ∈ lw_ok := lw_in 256 (by decide +kernel) (by decide +kernel)
theorem lL_13 : Cond.methodLink RL 13 yX6_gardens ∈ lw_ok := lw_in 290 (by decide +kernel) (by decide +kernel)
theorem kL_13 {d mc r : Nat} {Qc : zQ} {a1 : zV} (hd : decode μ.2.1 pc = .ok (.invokevirtual 13, 3)) (hμ : μ.1.cls = RL) (hS : S r = some (.inr 6)) (hC : Ct d mc ms mX6_gardens [zR r, a1] n S Rf V Qc) (hR : d + 1 ≤ R.frames ∧ 8 + (mX6_gardens.2.2.1 + 11) + 40 * d ≤ R.locals) (hw : (st.map zcat).sum ≤ 8) (hf : ce + mc ≤ R.cells ∧ sl + ms ≤ R.slots) (kk : ∀ (v : Option zV) (S' : zH) (Rf' : zG) (V' : zE), Qc v S' Rf' V' → Wa X μ R Z (ce + mc) (sl + ms) (n + mc) S' (pc + 3) L (v.toList ++ st) Rf' V') : Wa X μ R Z ce sl n S (pc) L (a1 :: zR r :: st) Rf V :=
  wa_callV (k1 := 1) (as := [a1]) (ci := 6) hd (hμ ▸ lL_13) w_inst_X6_gardens w_sel_X6_gardens w_init_X6 w_code_X6_gardens ⟨by decide +kernel, by decide +kernel, by decide +kernel⟩ rfl rfl hS rfl hC hR hw hf kk
theorem lX6_62 : Cond.methodLink RX6 62 yX4_begin ∈ lw_ok := lw_in 294 (by decide +kernel) (by decide +kernel)
theorem kX6_62 {d mc r : Nat} {Qc : zQ} {a1 : zV} (hd : decode μ.2.1 pc = .ok (.invokevirtual 62, 3)) (hμ : μ.1.cls = RX6) (hS : S r = some (.inr 4)) (hC : Ct d mc ms mX4_begin [zR r, a1] n S Rf V Qc) (hR : d + 1 ≤ R.frames ∧ 8 + (mX4_begin.2.2.1 + 11) + 40 * d ≤ R.locals) (hw : (st.map zcat).sum ≤ 8) (hf : ce + mc ≤ R.cells ∧ sl + ms ≤ R.slots) (kk : ∀ (v : Option zV) (S' : zH) (Rf' : zG) (V' : zE), Qc v S' Rf' V' → Wa X μ R Z (ce + mc) (sl + ms) (n + mc) S' (pc + 3) L (v.toList ++ st) Rf' V') : Wa X μ R Z ce sl n S (pc) L (a1 :: zR r :: st) Rf V :=
  wa_callV (k1 := 1) (as := [a1]) (ci := 4) hd (hμ ▸ lX6_62) w_inst_X4_begin w_sel_X4_begin w_init_X4 w_code_X4_begin ⟨by decide +kernel, by decide +kernel, by decide +kernel⟩ rfl rfl hS rfl hC hR hw hf kk
theorem lL_18 : Cond.methodLink RL 18 yX6_garden ∈ lw_ok := lw_in 295 (by decide +kernel) (by decide +kernel)
theorem kL_18 {d mc r : Nat} {Qc : zQ} {a1 a2 a3 : zV} (hd : decode μ.2.1 pc = .ok (.invokevirtual 18, 3)) (hμ : μ.1.cls = RL) (hS : S r = some (.inr 6)) (hC : Ct d mc ms mX6_garden [zR r, a1, a2, a3] n S Rf V Qc) (hR : d + 1 ≤ R.frames ∧ 8 + (mX6_garden.2.2.1 + 11) + 40 * d ≤ R.locals) (hw : (st.map zcat).sum ≤ 8) (hf : ce + mc ≤ R.cells ∧ sl + ms ≤ R.slots) (kk : ∀ (v : Option zV) (S' : zH) (Rf' : zG) (V' : zE), Qc v S' Rf' V' → Wa X μ R Z (ce + mc) (sl + ms) (n + mc) S' (pc + 3) L (v.toList ++ st) Rf' V') : Wa X μ R Z ce sl n S (pc) L (a3 :: a2 :: a1 :: zR r :: st) Rf V :=
  wa_callV (k1 := 3) (as := [a1, a2, a3]) (ci := 6) hd (hμ ▸ lL_18) w_inst_X6_garden w_sel_X6_garden w_init_X6 w_code_X6_garden ⟨by decide +kernel, by decide +kernel, by decide +kernel⟩ rfl rfl hS rfl hC hR hw hf kk
theorem lX6_66 : Cond.methodLink RX6 66 yX4_has ∈ lw_ok := lw_in 299 (by decide +kernel) (by decide +kernel)
theorem kX6_66 {d mc r : Nat} {Qc : zQ} {a1 : zV} (hd : decode μ.2.1 pc = .ok (.invokevirtual 66, 3)) (hμ : μ.1.cls = RX6) (hS : S r = some (.inr 4)) (hC : Ct d mc ms mX4_has [zR r, a1] n S Rf V Qc) (hR : d + 1 ≤ R.frames ∧ 8 + (mX4_has.2.2.1 + 11) + 40 * d ≤ R.locals) (hw : (st.map zcat).sum ≤ 8) (hf : ce + mc ≤ R.cells ∧ sl + ms ≤ R.slots) (kk : ∀ (v : Option zV) (S' : zH) (Rf' : zG) (V' : zE), Qc v S' Rf' V' → Wa X μ R Z (ce + mc) (sl + ms) (n + mc) S' (pc + 3) L (v.toList ++ st) Rf' V') : Wa X μ R Z ce sl n S (pc) L (a1 :: zR r :: st) Rf V :=
  wa_callV (k1 := 1) (as := [a1]) (ci := 4) hd (hμ ▸ lX6_66) w_inst_X4_has w_sel_X4_has w_init_X4 w_code_X4_has ⟨by decide +kernel, by decide +kernel, by decide +kernel⟩ rfl rfl hS rfl hC hR hw hf kk
theorem lX6_70 : Cond.methodLink RX6 70 yX6_isOutside ∈ lw_ok := lw_in 303 (by decide +kernel) (by decide +kernel)
theorem kX6_70 {d mc : Nat} {Qc : zQ} {a1 a2 a3 : zV} (hd : decode μ.2.1 pc = .ok (.invokestatic 70, 3)) (hμ : μ.1.cls = RX6) (hC : Ct d mc ms mX6_isOutside [a1, a2, a3] n S Rf V Qc) (hR : d + 1 ≤ R.frames ∧ 8 + (mX6_isOutside.2.2.1 + 11) + 40 * d ≤ R.locals) (hw : (st.map zcat).sum ≤ 8) (hf : ce + mc ≤ R.cells ∧ sl + ms ≤ R.slots) (kk : ∀ (v : Option zV) (S' : zH) (Rf' : zG) (V' : zE), Qc v S' Rf' V' → Wa X μ R Z (ce + mc) (sl + ms) (n + mc) S' (pc + 3) L (v.toList ++ st) Rf' V') : Wa X μ R Z ce sl n S (pc) L (a3 :: a2 :: a1 :: st) Rf V :=
  wa_callS (k1 := 3) hd (hμ ▸ lX6_70) w_stat_X6_isOutside w_init_X6 w_code_X6_isOutside ⟨by decide +kernel, by decide +kernel, by decide +kernel⟩ rfl rfl hC hR hw hf kk
theorem lL_23 : Cond.methodLink RL 23 yX6_set ∈ lw_ok := lw_in 306 (by decide +kernel) (by decide +kernel)
theorem kL_23 {d mc r : Nat} {Qc : zQ} {a1 a2 : zV} (hd : decode μ.2.1 pc = .ok (.invokevirtual 23, 3)) (hμ : μ.1.cls = RL) (hS : S r = some (.inr 6)) (hC : Ct d mc ms mX6_set [zR r, a1, a2] n S Rf V Qc) (hR : d + 1 ≤ R.frames ∧ 8 + (mX6_set.2.2.1 + 11) + 40 * d ≤ R.locals) (hw : (st.map zcat).sum ≤ 8) (hf : ce + mc ≤ R.cells ∧ sl + ms ≤ R.slots) (kk : ∀ (v : Option zV) (S' : zH) (Rf' : zG) (V' : zE), Qc v S' Rf' V' → Wa X μ R Z (ce + mc) (sl + ms) (n + mc) S' (pc + 3) L (v.toList ++ st) Rf' V') : Wa X μ R Z ce sl n S (pc) L (a2 :: a1 :: zR r :: st) Rf V :=
  wa_callV (k1 := 2) (as := [a1, a2]) (ci := 6) hd (hμ ▸ lL_23) w_inst_X6_set w_sel_X6_set w_init_X6 w_code_X6_set ⟨by decide +kernel, by decide +kernel, by decide +kernel⟩ rfl rfl hS rfl hC hR hw hf kk
theorem lL_28 : Cond.methodLink RL 28 yX6_say ∈ lw_ok := lw_in 310 (by decide +kernel) (by decide +kernel)
theorem kL_28 {d mc r : Nat} {Qc : zQ} {a1 : zV} (hd : decode μ.2.1 pc = .ok (.invokevirtual 28, 3)) (hμ : μ.1.cls = RL) (hS : S r = some (.inr 6)) (hC : Ct d mc ms mX6_say [zR r, a1] n S Rf V Qc) (hR : d + 1 ≤ R.frames ∧ 8 + (mX6_say.2.2.1 + 11) + 40 * d ≤ R.locals) (hw : (st.map zcat).sum ≤ 8) (hf : ce + mc ≤ R.cells ∧ sl + ms ≤ R.slots) (kk : ∀ (v : Option zV) (S' : zH) (Rf' : zG) (V' : zE), Qc v S' Rf' V' → Wa X μ R Z (ce + mc) (sl + ms) (n + mc) S' (pc + 3) L (v.toList ++ st) Rf' V') : Wa X μ R Z ce sl n S (pc) L (a1 :: zR r :: st) Rf V :=
  wa_callV (k1 := 1) (as := [a1]) (ci := 6) hd (hμ ▸ lL_28) w_inst_X6_say w_sel_X6_say w_init_X6 w_code_X6_say ⟨by decide +kernel, by decide +kernel, by decide +kernel⟩ rfl rfl hS rfl hC hR hw hf kk
theorem lL_32 : Cond.methodLink RL 32 yX6_wipe ∈ lw_ok := lw_in 314 (by decide +kernel) (by decide +kernel)
theorem kL_32 {d mc r : Nat} {Qc : zQ}  (hd : decode μ.2.1 pc = .ok (.invokevirtual 32, 3)) (hμ : μ.1.cls = RL) (hS : S r = some (.inr 6)) (hC : Ct d mc ms mX6_wipe [zR r] n S Rf V Qc) (hR : d + 1 ≤ R.frames ∧ 8 + (mX6_wipe.2.2.1 + 11) + 40 * d ≤ R.locals) (hw : (st.map zcat).sum ≤ 8) (hf : ce + mc ≤ R.cells ∧ sl + ms ≤ R.slots) (kk : ∀ (v : Option zV) (S' : zH) (Rf' : zG) (V' : zE), Qc v S' Rf' V' → Wa X μ R Z (ce + mc) (sl + ms) (n + mc) S' (pc + 3) L (v.toList ++ st) Rf' V') : Wa X μ R Z ce sl n S (pc) L (zR r :: st) Rf V :=
  wa_callV (k1 := 0) (as := []) (ci := 6) hd (hμ ▸ lL_32) w_inst_X6_wipe w_sel_X6_wipe w_init_X6 w_code_X6_wipe ⟨by decide +kernel, by decide +kernel, by decide +kernel⟩ rfl rfl hS rfl hC hR hw hf kk
theorem lL_37 : Cond.methodLink RL 37 yX6_fault ∈ lw_ok := lw_in 318 (by decide +kernel) (by decide +kernel)
theorem kL_37 {d mc r : Nat} {Qc : zQ}  (hd : decode μ.2.1 pc = .ok (.invokevirtual 37, 3)) (hμ : μ.1.cls = RL) (hS : S r = some (.inr 6)) (hC : Ct d mc ms mX6_fault [zR r] n S Rf V Qc) (hR : d + 1 ≤ R.frames ∧ 8 + (mX6_fault.2.2.1 + 11) + 40 * d ≤ R.locals) (hw : (st.map zcat).sum ≤ 8) (hf : ce + mc ≤ R.cells ∧ sl + ms ≤ R.slots) (kk : ∀ (v : Option zV) (S' : zH) (Rf' : zG) (V' : zE), Qc v S' Rf' V' → Wa X μ R Z (ce + mc) (sl + ms) (n + mc) S' (pc + 3) L (v.toList ++ st) Rf' V') : Wa X μ R Z ce sl n S (pc) L (zR r :: st) Rf V :=
  wa_callV (k1 := 0) (as := []) (ci := 6) hd (hμ ▸ lL_37) w_inst_X6_fault w_sel_X6_fault w_init_X6 w_code_X6_fault ⟨by decide +kernel, by decide +kernel, by decide +kernel⟩ rfl rfl hS rfl hC hR hw hf kk
theorem lX6_93 : Cond.methodLink RX6 93 yX5_read ∈ lw_ok := lw_in 322 (by decide +kernel) (by decide +kernel)
theorem kX6_93 {d mc r : Nat} {Qc : zQ} {a1 : zV} (hd : decode μ.2.1 pc = .ok (.invokevirtual 93, 3)) (hμ : μ.1.cls = RX6) (hS : S r = some (.inr 5)) (hC : Ct d mc ms mX5_read [zR r, a1] n S Rf V Qc) (hR : d + 1 ≤ R.frames ∧ 8 + (mX5_read.2.2.1 + 11) + 40 * d ≤ R.locals) (hw : (st.map zcat).sum ≤ 8) (hf : ce + mc ≤ R.cells ∧ sl + ms ≤ R.slots) (kk : ∀ (v : Option zV) (S' : zH) (Rf' : zG) (V' : zE), Qc v S' Rf' V' → Wa X μ R Z (ce + mc) (sl + ms) (n + mc) S' (pc + 3) L (v.toList ++ st) Rf' V') : Wa X μ R Z ce sl n S (pc) L (a1 :: zR r :: st) Rf V :=
  wa_callV (k1 := 1) (as := [a1]) (ci := 5) hd (hμ ▸ lX6_93) w_inst_X5_read w_sel_X5_read w_init_X5 w_code_X5_read ⟨by decide +kernel, by decide +kernel, by decide +kernel⟩ rfl rfl hS rfl hC hR hw hf kk
theorem lX5_37 : Cond.methodLink RX5 37 yX5_readWord ∈ lw_ok := lw_in 326 (by decide +kernel) (by decide +kernel)
theorem kX5_37 {d mc r : Nat} {Qc : zQ} {a1 a2 : zV} (hd : decode μ.2.1 pc = .ok (.invokevirtual 37, 3)) (hμ : μ.1.cls = RX5) (hS : S r = some (.inr 5)) (hC : Ct d mc ms mX5_readWord [zR r, a1, a2] n S Rf V Qc) (hR : d + 1 ≤ R.frames ∧ 8 + (mX5_readWord.2.2.1 + 11) + 40 * d ≤ R.locals) (hw : (st.map zcat).sum ≤ 8) (hf : ce + mc ≤ R.cells ∧ sl + ms ≤ R.slots) (kk : ∀ (v : Option zV) (S' : zH) (Rf' : zG) (V' : zE), Qc v S' Rf' V' → Wa X μ R Z (ce + mc) (sl + ms) (n + mc) S' (pc + 3) L (v.toList ++ st) Rf' V') : Wa X μ R Z ce sl n S (pc) L (a2 :: a1 :: zR r :: st) Rf V :=
  wa_callV (k1 := 2) (as := [a1, a2]) (ci := 5) hd (hμ ▸ lX5_37) w_inst_X5_readWord w_sel_X5_readWord w_init_X5 w_code_X5_readWord ⟨by decide +kernel, by decide +kernel, by decide +kernel⟩ rfl rfl hS rfl hC hR hw hf kk
theorem lX5_41 : Cond.methodLink RX5 41 yX5_signAt ∈ lw_ok := lw_in 330 (by decide +kernel) (by decide +kernel)
theorem kX5_41 {d mc r : Nat} {Qc : zQ} {a1 : zV} (hd : decode μ.2.1 pc = .ok (.invokevirtual 41, 3)) (hμ : μ.1.cls = RX5) (hS : S r = some (.inr 5)) (hC : Ct d mc ms mX5_signAt [zR r, a1] n S Rf V Qc) (hR : d + 1 ≤ R.frames ∧ 8 + (mX5_signAt.2.2.1 + 11) + 40 * d ≤ R.locals) (hw : (st.map zcat).sum ≤ 8) (hf : ce + mc ≤ R.cells ∧ sl + ms ≤ R.slots) (kk : ∀ (v : Option zV) (S' : zH) (Rf' : zG) (V' : zE), Qc v S' Rf' V' → Wa X μ R Z (ce + mc) (sl + ms) (n + mc) S' (pc + 3) L (v.toList ++ st) Rf' V') : Wa X μ R Z ce sl n S (pc) L (a1 :: zR r :: st) Rf V :=
  wa_callV (k1 := 1) (as := [a1]) (ci := 5) hd (hμ ▸ lX5_41) w_inst_X5_signAt w_sel_X5_signAt w_init_X5 w_code_X5_signAt ⟨by decide +kernel, by decide +kernel, by decide +kernel⟩ rfl rfl hS rfl hC hR hw hf kk
theorem lX5_45 : Cond.methodLink RX5 45 yX5_addWord ∈ lw_ok := lw_in 334 (by decide +kernel) (by decide +kernel)
theorem kX5_45 {d mc r : Nat} {Qc : zQ} {a1 a2 a3 a4 : zV} (hd : decode μ.2.1 pc = .ok (.invokevirtual 45, 3)) (hμ : μ.1.cls = RX5) (hS : S r = some (.inr 5)) (hC : Ct d mc ms mX5_addWord [zR r, a1, a2, a3, a4] n S Rf V Qc) (hR : d + 1 ≤ R.frames ∧ 8 + (mX5_addWord.2.2.1 + 11) + 40 * d ≤ R.locals) (hw : (st.map zcat).sum ≤ 8) (hf : ce + mc ≤ R.cells ∧ sl + ms ≤ R.slots) (kk : ∀ (v : Option zV) (S' : zH) (Rf' : zG) (V' : zE), Qc v S' Rf' V' → Wa X μ R Z (ce + mc) (sl + ms) (n + mc) S' (pc + 3) L (v.toList ++ st) Rf' V') : Wa X μ R Z ce sl n S (pc) L (a4 :: a3 :: a2 :: a1 :: zR r :: st) Rf V :=
  wa_callV (k1 := 4) (as := [a1, a2, a3, a4]) (ci := 5) hd (hμ ▸ lX5_45) w_inst_X5_addWord w_sel_X5_addWord w_init_X5 w_code_X5_addWord ⟨by decide +kernel, by decide +kernel, by decide +kernel⟩ rfl rfl hS rfl hC hR hw hf kk
theorem lX5_49 : Cond.methodLink RX5 49 yX5_kindOf ∈ lw_ok := lw_in 338 (by decide +kernel) (by decide +kernel)
theorem kX5_49 {d mc : Nat} {Qc : zQ} {a1 : zV} (hd : decode μ.2.1 pc = .ok (.invokestatic 49, 3)) (hμ : μ.1.cls = RX5) (hC : Ct d mc ms mX5_kindOf [a1] n S Rf V Qc) (hR : d + 1 ≤ R.frames ∧ 8 + (mX5_kindOf.2.2.1 + 11) + 40 * d ≤ R.locals) (hw : (st.map zcat).sum ≤ 8) (hf : ce + mc ≤ R.cells ∧ sl + ms ≤ R.slots) (kk : ∀ (v : Option zV) (S' : zH) (Rf' : zG) (V' : zE), Qc v S' Rf' V' → Wa X μ R Z (ce + mc) (sl + ms) (n + mc) S' (pc + 3) L (v.toList ++ st) Rf' V') : Wa X μ R Z ce sl n S (pc) L (a1 :: st) Rf V :=
  wa_callS (k1 := 1) hd (hμ ▸ lX5_49) w_stat_X5_kindOf w_init_X5 w_code_X5_kindOf ⟨by decide +kernel, by decide +kernel, by decide +kernel⟩ rfl rfl hC hR hw hf kk
theorem lL_41 : Cond.methodLink RL 41 yX6_judge ∈ lw_ok := lw_in 341 (by decide +kernel) (by decide +kernel)
theorem kL_41 {d mc r : Nat} {Qc : zQ} {a1 : zV} (hd : decode μ.2.1 pc = .ok (.invokevirtual 41, 3)) (hμ : μ.1.cls = RL) (hS : S r = some (.inr 6)) (hC : Ct d mc ms mX6_judge [zR r, a1] n S Rf V Qc) (hR : d + 1 ≤ R.frames ∧ 8 + (mX6_judge.2.2.1 + 11) + 40 * d ≤ R.locals) (hw : (st.map zcat).sum ≤ 8) (hf : ce + mc ≤ R.cells ∧ sl + ms ≤ R.slots) (kk : ∀ (v : Option zV) (S' : zH) (Rf' : zG) (V' : zE), Qc v S' Rf' V' → Wa X μ R Z (ce + mc) (sl + ms) (n + mc) S' (pc + 3) L (v.toList ++ st) Rf' V') : Wa X μ R Z ce sl n S (pc) L (a1 :: zR r :: st) Rf V :=
  wa_callV (k1 := 1) (as := [a1]) (ci := 6) hd (hμ ▸ lL_41) w_inst_X6_judge w_sel_X6_judge w_init_X6 w_code_X6_judge ⟨by decide +kernel, by decide +kernel, by decide +kernel⟩ rfl rfl hS rfl hC hR hw hf kk
theorem lX6_97 : Cond.methodLink RX6 97 yX4_copy ∈ lw_ok := lw_in 345 (by decide +kernel) (by decide +kernel)
theorem kX6_97 {d mc r : Nat} {Qc : zQ} {a1 : zV} (hd : decode μ.2.1 pc = .ok (.invokevirtual 97, 3)) (hμ : μ.1.cls = RX6) (hS : S r = some (.inr 4)) (hC : Ct d mc ms mX4_copy [zR r, a1] n S Rf V Qc) (hR : d + 1 ≤ R.frames ∧ 8 + (mX4_copy.2.2.1 + 11) + 40 * d ≤ R.locals) (hw : (st.map zcat).sum ≤ 8) (hf : ce + mc ≤ R.cells ∧ sl + ms ≤ R.slots) (kk : ∀ (v : Option zV) (S' : zH) (Rf' : zG) (V' : zE), Qc v S' Rf' V' → Wa X μ R Z (ce + mc) (sl + ms) (n + mc) S' (pc + 3) L (v.toList ++ st) Rf' V') : Wa X μ R Z ce sl n S (pc) L (a1 :: zR r :: st) Rf V :=
  wa_callV (k1 := 1) (as := [a1]) (ci := 4) hd (hμ ▸ lX6_97) w_inst_X4_copy w_sel_X4_copy w_init_X4 w_code_X4_copy ⟨by decide +kernel, by decide +kernel, by decide +kernel⟩ rfl rfl hS rfl hC hR hw hf kk
theorem lX4_65 : Cond.methodLink RX4 65 arraycopyName ∈ lw_ok := lw_in 349 (by decide +kernel) (by decide +kernel)
theorem lX6_101 : Cond.methodLink RX6 101 yX5_holdOn ∈ lw_ok := lw_in 352 (by decide +kernel) (by decide +kernel)
theorem kX6_101 {d mc r : Nat} {Qc : zQ} {a1 : zV} (hd : decode μ.2.1 pc = .ok (.invokevirtual 101, 3)) (hμ : μ.1.cls = RX6) (hS : S r = some (.inr 5)) (hC : Ct d mc ms mX5_holdOn [zR r, a1] n S Rf V Qc) (hR : d + 1 ≤ R.frames ∧ 8 + (mX5_holdOn.2.2.1 + 11) + 40 * d ≤ R.locals) (hw : (st.map zcat).sum ≤ 8) (hf : ce + mc ≤ R.cells ∧ sl + ms ≤ R.slots) (kk : ∀ (v : Option zV) (S' : zH) (Rf' : zG) (V' : zE), Qc v S' Rf' V' → Wa X μ R Z (ce + mc) (sl + ms) (n + mc) S' (pc + 3) L (v.toList ++ st) Rf' V') : Wa X μ R Z ce sl n S (pc) L (a1 :: zR r :: st) Rf V :=
  wa_callV (k1 := 1) (as := [a1]) (ci := 5) hd (hμ ▸ lX6_101) w_inst_X5_holdOn w_sel_X5_holdOn w_init_X5 w_code_X5_holdOn ⟨by decide +kernel, by decide +kernel, by decide +kernel⟩ rfl rfl hS rfl hC hR hw hf kk
theorem lX5_57 : Cond.methodLink RX5 57 yX4_tell ∈ lw_ok := lw_in 356 (by decide +kernel) (by decide +kernel)
theorem kX5_57 {d mc r : Nat} {Qc : zQ} {a1 a2 a3 : zV} (hd : decode μ.2.1 pc = .ok (.invokevirtual 57, 3)) (hμ : μ.1.cls = RX5) (hS : S r = some (.inr 4)) (hC : Ct d mc ms mX4_tell [zR r, a1, a2, a3] n S Rf V Qc) (hR : d + 1 ≤ R.frames ∧ 8 + (mX4_tell.2.2.1 + 11) + 40 * d ≤ R.locals) (hw : (st.map zcat).sum ≤ 8) (hf : ce + mc ≤ R.cells ∧ sl + ms ≤ R.slots) (kk : ∀ (v : Option zV) (S' : zH) (Rf' : zG) (V' : zE), Qc v S' Rf' V' → Wa X μ R Z (ce + mc) (sl + ms) (n + mc) S' (pc + 3) L (v.toList ++ st) Rf' V') : Wa X μ R Z ce sl n S (pc) L (a3 :: a2 :: a1 :: zR r :: st) Rf V :=
  wa_callV (k1 := 3) (as := [a1, a2, a3]) (ci := 4) hd (hμ ▸ lX5_57) w_inst_X4_tell w_sel_X4_tell w_init_X4 w_code_X4_tell ⟨by decide +kernel, by decide +kernel, by decide +kernel⟩ rfl rfl hS rfl hC hR hw hf kk
theorem lX4_105 : Cond.methodLink RX4 105 yX4_hindrance ∈ lw_ok := lw_in 360 (by decide +kernel) (by decide +kernel)
theorem kX4_105 {d mc r : Nat} {Qc : zQ} {a1 a2 a3 : zV} (hd : decode μ.2.1 pc = .ok (.invokevirtual 105, 3)) (hμ : μ.1.cls = RX4) (hS : S r = some (.inr 4)) (hC : Ct d mc ms mX4_hindrance [zR r, a1, a2, a3] n S Rf V Qc) (hR : d + 1 ≤ R.frames ∧ 8 + (mX4_hindrance.2.2.1 + 11) + 40 * d ≤ R.locals) (hw : (st.map zcat).sum ≤ 8) (hf : ce + mc ≤ R.cells ∧ sl + ms ≤ R.slots) (kk : ∀ (v : Option zV) (S' : zH) (Rf' : zG) (V' : zE), Qc v S' Rf' V' → Wa X μ R Z (ce + mc) (sl + ms) (n + mc) S' (pc + 3) L (v.toList ++ st) Rf' V') : Wa X μ R Z ce sl n S (pc) L (a3 :: a2 :: a1 :: zR r :: st) Rf V :=
  wa_callV (k1 := 3) (as := [a1, a2, a3]) (ci := 4) hd (hμ ▸ lX4_105) w_inst_X4_hindrance w_sel_X4_hindrance w_init_X4 w_code_X4_hindrance ⟨by decide +kernel, by decide +kernel, by decide +kernel⟩ rfl rfl hS rfl hC hR hw hf kk
theorem lX4_71 : Cond.methodLink RX4 71 yX4_has ∈ lw_ok := lw_in 364 (by decide +kernel) (by decide +kernel)
theorem kX4_71 {d mc r : Nat} {Qc : zQ} {a1 : zV} (hd : decode μ.2.1 pc = .ok (.invokevirtual 71, 3)) (hμ : μ.1.cls = RX4) (hS : S r = some (.inr 4)) (hC : Ct d mc ms mX4_has [zR r, a1] n S Rf V Qc) (hR : d + 1 ≤ R.frames ∧ 8 + (mX4_has.2.2.1 + 11) + 40 * d ≤ R.locals) (hw : (st.map zcat).sum ≤ 8) (hf : ce + mc ≤ R.cells ∧ sl + ms ≤ R.slots) (kk : ∀ (v : Option zV) (S' : zH) (Rf' : zG) (V' : zE), Qc v S' Rf' V' → Wa X μ R Z (ce + mc) (sl + ms) (n + mc) S' (pc + 3) L (v.toList ++ st) Rf' V') : Wa X μ R Z ce sl n S (pc) L (a1 :: zR r :: st) Rf V :=
  wa_callV (k1 := 1) (as := [a1]) (ci := 4) hd (hμ ▸ lX4_71) w_inst_X4_has w_sel_X4_has w_init_X4 w_code_X4_has ⟨by decide +kernel, by decide +kernel, by decide +kernel⟩ rfl rfl hS rfl hC hR hw hf kk
theorem lX4_75 : Cond.methodLink RX4 75 yX4_isDeep ∈ lw_ok := lw_in 365 (by decide +kernel) (by decide +kernel)
theorem kX4_75 {d mc r : Nat} {Qc : zQ} {a1 : zV} (hd : decode μ.2.1 pc = .ok (.invokevirtual 75, 3)) (hμ : μ.1.cls = RX4) (hS : S r = some (.inr 4)) (hC : Ct d mc ms mX4_isDeep [zR r, a1] n S Rf V Qc) (hR : d + 1 ≤ R.frames ∧ 8 + (mX4_isDeep.2.2.1 + 11) + 40 * d ≤ R.locals) (hw : (st.map zcat).sum ≤ 8) (hf : ce + mc ≤ R.cells ∧ sl + ms ≤ R.slots) (kk : ∀ (v : Option zV) (S' : zH) (Rf' : zG) (V' : zE), Qc v S' Rf' V' → Wa X μ R Z (ce + mc) (sl + ms) (n + mc) S' (pc + 3) L (v.toList ++ st) Rf' V') : Wa X μ R Z ce sl n S (pc) L (a1 :: zR r :: st) Rf V :=
  wa_callV (k1 := 1) (as := [a1]) (ci := 4) hd (hμ ▸ lX4_75) w_inst_X4_isDeep w_sel_X4_isDeep w_init_X4 w_code_X4_isDeep ⟨by decide +kernel, by decide +kernel, by decide +kernel⟩ rfl rfl hS rfl hC hR hw hf kk
theorem lX4_78 : Cond.methodLink RX4 78 yX4_weight ∈ lw_ok := lw_in 369 (by decide +kernel) (by decide +kernel)
theorem kX4_78 {d mc r : Nat} {Qc : zQ} {a1 a2 a3 : zV} (hd : decode μ.2.1 pc = .ok (.invokevirtual 78, 3)) (hμ : μ.1.cls = RX4) (hS : S r = some (.inr 4)) (hC : Ct d mc ms mX4_weight [zR r, a1, a2, a3] n S Rf V Qc) (hR : d + 1 ≤ R.frames ∧ 8 + (mX4_weight.2.2.1 + 11) + 40 * d ≤ R.locals) (hw : (st.map zcat).sum ≤ 8) (hf : ce + mc ≤ R.cells ∧ sl + ms ≤ R.slots) (kk : ∀ (v : Option zV) (S' : zH) (Rf' : zG) (V' : zE), Qc v S' Rf' V' → Wa X μ R Z (ce + mc) (sl + ms) (n + mc) S' (pc + 3) L (v.toList ++ st) Rf' V') : Wa X μ R Z ce sl n S (pc) L (a3 :: a2 :: a1 :: zR r :: st) Rf V :=
  wa_callV (k1 := 3) (as := [a1, a2, a3]) (ci := 4) hd (hμ ▸ lX4_78) w_inst_X4_weight w_sel_X4_weight w_init_X4 w_code_X4_weight ⟨by decide +kernel, by decide +kernel, by decide +kernel⟩ rfl rfl hS rfl hC hR hw hf kk
theorem lX4_108 : Cond.methodLink RX4 108 yX4_speak ∈ lw_ok := lw_in 373 (by decide +kernel) (by decide +kernel)
theorem kX4_108 {d mc r : Nat} {Qc : zQ} {a1 a2 a3 : zV} (hd : decode μ.2.1 pc = .ok (.invokevirtual 108, 3)) (hμ : μ.1.cls = RX4) (hS : S r = some (.inr 4)) (hC : Ct d mc ms mX4_speak [zR r, a1, a2, a3] n S Rf V Qc) (hR : d + 1 ≤ R.frames ∧ 8 + (mX4_speak.2.2.1 + 11) + 40 * d ≤ R.locals) (hw : (st.map zcat).sum ≤ 8) (hf : ce + mc ≤ R.cells ∧ sl + ms ≤ R.slots) (kk : ∀ (v : Option zV) (S' : zH) (Rf' : zG) (V' : zE), Qc v S' Rf' V' → Wa X μ R Z (ce + mc) (sl + ms) (n + mc) S' (pc + 3) L (v.toList ++ st) Rf' V') : Wa X μ R Z ce sl n S (pc) L (a3 :: a2 :: a1 :: zR r :: st) Rf V :=
  wa_callV (k1 := 3) (as := [a1, a2, a3]) (ci := 4) hd (hμ ▸ lX4_108) w_inst_X4_speak w_sel_X4_speak w_init_X4 w_code_X4_speak ⟨by decide +kernel, by decide +kernel, by decide +kernel⟩ rfl rfl hS rfl hC hR hw hf kk
theorem lX4_82 : Cond.methodLink RX4 82 yX4_fall ∈ lw_ok := lw_in 377 (by decide +kernel) (by decide +kernel)
theorem kX4_82 {d mc r : Nat} {Qc : zQ} {a1 a2 a3 : zV} (hd : decode μ.2.1 pc = .ok (.invokevirtual 82, 3)) (hμ : μ.1.cls = RX4) (hS : S r = some (.inr 4)) (hC : Ct d mc ms mX4_fall [zR r, a1, a2, a3] n S Rf V Qc) (hR : d + 1 ≤ R.frames ∧ 8 + (mX4_fall.2.2.1 + 11) + 40 * d ≤ R.locals) (hw : (st.map zcat).sum ≤ 8) (hf : ce + mc ≤ R.cells ∧ sl + ms ≤ R.slots) (kk : ∀ (v : Option zV) (S' : zH) (Rf' : zG) (V' : zE), Qc v S' Rf' V' → Wa X μ R Z (ce + mc) (sl + ms) (n + mc) S' (pc + 3) L (v.toList ++ st) Rf' V') : Wa X μ R Z ce sl n S (pc) L (a3 :: a2 :: a1 :: zR r :: st) Rf V :=
  wa_callV (k1 := 3) (as := [a1, a2, a3]) (ci := 4) hd (hμ ▸ lX4_82) w_inst_X4_fall w_sel_X4_fall w_init_X4 w_code_X4_fall ⟨by decide +kernel, by decide +kernel, by decide +kernel⟩ rfl rfl hS rfl hC hR hw hf kk
theorem lX4_86 : Cond.methodLink RX4 86 yX4_lower ∈ lw_ok := lw_in 381 (by decide +kernel) (by decide +kernel)
theorem kX4_86 {d mc r : Nat} {Qc : zQ} {a1 a2 : zV} (hd : decode μ.2.1 pc = .ok (.invokevirtual 86, 3)) (hμ : μ.1.cls = RX4) (hS : S r = some (.inr 4)) (hC : Ct d mc ms mX4_lower [zR r, a1, a2] n S Rf V Qc) (hR : d + 1 ≤ R.frames ∧ 8 + (mX4_lower.2.2.1 + 11) + 40 * d ≤ R.locals) (hw : (st.map zcat).sum ≤ 8) (hf : ce + mc ≤ R.cells ∧ sl + ms ≤ R.slots) (kk : ∀ (v : Option zV) (S' : zH) (Rf' : zG) (V' : zE), Qc v S' Rf' V' → Wa X μ R Z (ce + mc) (sl + ms) (n + mc) S' (pc + 3) L (v.toList ++ st) Rf' V') : Wa X μ R Z ce sl n S (pc) L (a2 :: a1 :: zR r :: st) Rf V :=
  wa_callV (k1 := 2) (as := [a1, a2]) (ci := 4) hd (hμ ▸ lX4_86) w_inst_X4_lower w_sel_X4_lower w_init_X4 w_code_X4_lower ⟨by decide +kernel, by decide +kernel, by decide +kernel⟩ rfl rfl hS rfl hC hR hw hf kk
theorem lX4_96 : Cond.methodLink RX4 96 Lib.Math.max.name ∈ lw_ok := lw_in 385 (by decide +kernel) (by decide +kernel)
theorem lX4_93 : Cond.methodLink RX4 93 yX4_thaw ∈ lw_ok := lw_in 391 (by decide +kernel) (by decide +kernel)
theorem kX4_93 {d mc r : Nat} {Qc : zQ}  (hd : decode μ.2.1 pc = .ok (.invokevirtual 93, 3)) (hμ : μ.1.cls = RX4) (hS : S r = some (.inr 4)) (hC : Ct d mc ms mX4_thaw [zR r] n S Rf V Qc) (hR : d + 1 ≤ R.frames ∧ 8 + (mX4_thaw.2.2.1 + 11) + 40 * d ≤ R.locals) (hw : (st.map zcat).sum ≤ 8) (hf : ce + mc ≤ R.cells ∧ sl + ms ≤ R.slots) (kk : ∀ (v : Option zV) (S' : zH) (Rf' : zG) (V' : zE), Qc v S' Rf' V' → Wa X μ R Z (ce + mc) (sl + ms) (n + mc) S' (pc + 3) L (v.toList ++ st) Rf' V') : Wa X μ R Z ce sl n S (pc) L (zR r :: st) Rf V :=
  wa_callV (k1 := 0) (as := []) (ci := 4) hd (hμ ▸ lX4_93) w_inst_X4_thaw w_sel_X4_thaw w_init_X4 w_code_X4_thaw ⟨by decide +kernel, by decide +kernel, by decide +kernel⟩ rfl rfl hS rfl hC hR hw hf kk
theorem lX4_102 : Cond.methodLink RX4 102 Lib.Math.min.name ∈ lw_ok := lw_in 395 (by decide +kernel) (by decide +kernel)
theorem lX4_111 : Cond.methodLink RX4 111 yX4_overloaded ∈ lw_ok := lw_in 398 (by decide +kernel) (by decide +kernel)
theorem kX4_111 {d mc r : Nat} {Qc : zQ}  (hd : decode μ.2.1 pc = .ok (.invokevirtual 111, 3)) (hμ : μ.1.cls = RX4) (hS : S r = some (.inr 4)) (hC : Ct d mc ms mX4_overloaded [zR r] n S Rf V Qc) (hR : d + 1 ≤ R.frames ∧ 8 + (mX4_overloaded.2.2.1 + 11) + 40 * d ≤ R.locals) (hw : (st.map zcat).sum ≤ 8) (hf : ce + mc ≤ R.cells ∧ sl + ms ≤ R.slots) (kk : ∀ (v : Option zV) (S' : zH) (Rf' : zG) (V' : zE), Qc v S' Rf' V' → Wa X μ R Z (ce + mc) (sl + ms) (n + mc) S' (pc + 3) L (v.toList ++ st) Rf' V') : Wa X μ R Z ce sl n S (pc) L (zR r :: st) Rf V :=
  wa_callV (k1 := 0) (as := []) (ci := 4) hd (hμ ▸ lX4_111) w_inst_X4_overloaded w_sel_X4_overloaded w_init_X4 w_code_X4_overloaded ⟨by decide +kernel, by decide +kernel, by decide +kernel⟩ rfl rfl hS rfl hC hR hw hf kk
theorem lL_45 : Cond.methodLink RL 45 yX6_done ∈ lw_ok := lw_in 402 (by decide +kernel) (by decide +kernel)
theorem kL_45 {d mc r : Nat} {Qc : zQ}  (hd : decode μ.2.1 pc = .ok (.invokevirtual 45, 3)) (hμ : μ.1.cls = RL) (hS : S r = some (.inr 6)) (hC : Ct d mc ms mX6_done [zR r] n S Rf V Qc) (hR : d + 1 ≤ R.frames ∧ 8 + (mX6_done.2.2.1 + 11) + 40 * d ≤ R.locals) (hw : (st.map zcat).sum ≤ 8) (hf : ce + mc ≤ R.cells ∧ sl + ms ≤ R.slots) (kk : ∀ (v : Option zV) (S' : zH) (Rf' : zG) (V' : zE), Qc v S' Rf' V' → Wa X μ R Z (ce + mc) (sl + ms) (n + mc) S' (pc + 3) L (v.toList ++ st) Rf' V') : Wa X μ R Z ce sl n S (pc) L (zR r :: st) Rf V :=
  wa_callV (k1 := 0) (as := []) (ci := 6) hd (hμ ▸ lL_45) w_inst_X6_done w_sel_X6_done w_init_X6 w_code_X6_done ⟨by decide +kernel, by decide +kernel, by decide +kernel⟩ rfl rfl hS rfl hC hR hw hf kk
theorem lX6_108 : Cond.methodLink RX6 108 yX6_talkCanBe ∈ lw_ok := lw_in 406 (by decide +kernel) (by decide +kernel)
theorem kX6_108 {d mc r : Nat} {Qc : zQ}  (hd : decode μ.2.1 pc = .ok (.invokevirtual 108, 3)) (hμ : μ.1.cls = RX6) (hS : S r = some (.inr 6)) (hC : Ct d mc ms mX6_talkCanBe [zR r] n S Rf V Qc) (hR : d + 1 ≤ R.frames ∧ 8 + (mX6_talkCanBe.2.2.1 + 11) + 40 * d ≤ R.locals) (hw : (st.map zcat).sum ≤ 8) (hf : ce + mc ≤ R.cells ∧ sl + ms ≤ R.slots) (kk : ∀ (v : Option zV) (S' : zH) (Rf' : zG) (V' : zE), Qc v S' Rf' V' → Wa X μ R Z (ce + mc) (sl + ms) (n + mc) S' (pc + 3) L (v.toList ++ st) Rf' V') : Wa X μ R Z ce sl n S (pc) L (zR r :: st) Rf V :=
  wa_callV (k1 := 0) (as := []) (ci := 6) hd (hμ ▸ lX6_108) w_inst_X6_talkCanBe w_sel_X6_talkCanBe w_init_X6 w_code_X6_talkCanBe ⟨by decide +kernel, by decide +kernel, by decide +kernel⟩ rfl rfl hS rfl hC hR hw hf kk
theorem lL_49 : Cond.methodLink RL 49 yX6_state ∈ lw_ok := lw_in 410 (by decide +kernel) (by decide +kernel)
theorem kL_49 {d mc r : Nat} {Qc : zQ} {a1 a2 : zV} (hd : decode μ.2.1 pc = .ok (.invokevirtual 49, 3)) (hμ : μ.1.cls = RL) (hS : S r = some (.inr 6)) (hC : Ct d mc ms mX6_state [zR r, a1, a2] n S Rf V Qc) (hR : d + 1 ≤ R.frames ∧ 8 + (mX6_state.2.2.1 + 11) + 40 * d ≤ R.locals) (hw : (st.map zcat).sum ≤ 8) (hf : ce + mc ≤ R.cells ∧ sl + ms ≤ R.slots) (kk : ∀ (v : Option zV) (S' : zH) (Rf' : zG) (V' : zE), Qc v S' Rf' V' → Wa X μ R Z (ce + mc) (sl + ms) (n + mc) S' (pc + 3) L (v.toList ++ st) Rf' V') : Wa X μ R Z ce sl n S (pc) L (a2 :: a1 :: zR r :: st) Rf V :=
  wa_callV (k1 := 2) (as := [a1, a2]) (ci := 6) hd (hμ ▸ lL_49) w_inst_X6_state w_sel_X6_state w_init_X6 w_code_X6_state ⟨by decide +kernel, by decide +kernel, by decide +kernel⟩ rfl rfl hS rfl hC hR hw hf kk
theorem lX6_115 : Cond.methodLink RX6 115 yX4_look ∈ lw_ok := lw_in 414 (by decide +kernel) (by decide +kernel)
theorem kX6_115 {d mc r : Nat} {Qc : zQ} {a1 a2 : zV} (hd : decode μ.2.1 pc = .ok (.invokevirtual 115, 3)) (hμ : μ.1.cls = RX6) (hS : S r = some (.inr 4)) (hC : Ct d mc ms mX4_look [zR r, a1, a2] n S Rf V Qc) (hR : d + 1 ≤ R.frames ∧ 8 + (mX4_look.2.2.1 + 11) + 40 * d ≤ R.locals) (hw : (st.map zcat).sum ≤ 8) (hf : ce + mc ≤ R.cells ∧ sl + ms ≤ R.slots) (kk : ∀ (v : Option zV) (S' : zH) (Rf' : zG) (V' : zE), Qc v S' Rf' V' → Wa X μ R Z (ce + mc) (sl + ms) (n + mc) S' (pc + 3) L (v.toList ++ st) Rf' V') : Wa X μ R Z ce sl n S (pc) L (a2 :: a1 :: zR r :: st) Rf V :=
  wa_callV (k1 := 2) (as := [a1, a2]) (ci := 4) hd (hμ ▸ lX6_115) w_inst_X4_look w_sel_X4_look w_init_X4 w_code_X4_look ⟨by decide +kernel, by decide +kernel, by decide +kernel⟩ rfl rfl hS rfl hC hR hw hf kk
theorem lL_53 : Cond.methodLink RL 53 yX6_behind ∈ lw_ok := lw_in 418 (by decide +kernel) (by decide +kernel)
theorem kL_53 {d mc r : Nat} {Qc : zQ} {a1 a2 : zV} (hd : decode μ.2.1 pc = .ok (.invokevirtual 53, 3)) (hμ : μ.1.cls = RL) (hS : S r = some (.inr 6)) (hC : Ct d mc ms mX6_behind [zR r, a1, a2] n S Rf V Qc) (hR : d + 1 ≤ R.frames ∧ 8 + (mX6_behind.2.2.1 + 11) + 40 * d ≤ R.locals) (hw : (st.map zcat).sum ≤ 8) (hf : ce + mc ≤ R.cells ∧ sl + ms ≤ R.slots) (kk : ∀ (v : Option zV) (S' : zH) (Rf' : zG) (V' : zE), Qc v S' Rf' V' → Wa X μ R Z (ce + mc) (sl + ms) (n + mc) S' (pc + 3) L (v.toList ++ st) Rf' V') : Wa X μ R Z ce sl n S (pc) L (a2 :: a1 :: zR r :: st) Rf V :=
  wa_callV (k1 := 2) (as := [a1, a2]) (ci := 6) hd (hμ ▸ lL_53) w_inst_X6_behind w_sel_X6_behind w_init_X6 w_code_X6_behind ⟨by decide +kernel, by decide +kernel, by decide +kernel⟩ rfl rfl hS rfl hC hR hw hf kk
theorem lL_57 : Cond.methodLink RL 57 yX6_first ∈ lw_ok := lw_in 422 (by decide +kernel) (by decide +kernel)
theorem kL_57 {d mc r : Nat} {Qc : zQ}  (hd : decode μ.2.1 pc = .ok (.invokevirtual 57, 3)) (hμ : μ.1.cls = RL) (hS : S r = some (.inr 6)) (hC : Ct d mc ms mX6_first [zR r] n S Rf V Qc) (hR : d + 1 ≤ R.frames ∧ 8 + (mX6_first.2.2.1 + 11) + 40 * d ≤ R.locals) (hw : (st.map zcat).sum ≤ 8) (hf : ce + mc ≤ R.cells ∧ sl + ms ≤ R.slots) (kk : ∀ (v : Option zV) (S' : zH) (Rf' : zG) (V' : zE), Qc v S' Rf' V' → Wa X μ R Z (ce + mc) (sl + ms) (n + mc) S' (pc + 3) L (v.toList ++ st) Rf' V') : Wa X μ R Z ce sl n S (pc) L (zR r :: st) Rf V :=
  wa_callV (k1 := 0) (as := []) (ci := 6) hd (hμ ▸ lL_57) w_inst_X6_first w_sel_X6_first w_init_X6 w_code_X6_first ⟨by decide +kernel, by decide +kernel, by decide +kernel⟩ rfl rfl hS rfl hC hR hw hf kk
theorem lL_61 : Cond.methodLink RL 61 yX6_recognised ∈ lw_ok := lw_in 426 (by decide +kernel) (by decide +kernel)
theorem kL_61 {d mc r : Nat} {Qc : zQ} {a1 : zV} (hd : decode μ.2.1 pc = .ok (.invokevirtual 61, 3)) (hμ : μ.1.cls = RL) (hS : S r = some (.inr 6)) (hC : Ct d mc ms mX6_recognised [zR r, a1] n S Rf V Qc) (hR : d + 1 ≤ R.frames ∧ 8 + (mX6_recognised.2.2.1 + 11) + 40 * d ≤ R.locals) (hw : (st.map zcat).sum ≤ 8) (hf : ce + mc ≤ R.cells ∧ sl + ms ≤ R.slots) (kk : ∀ (v : Option zV) (S' : zH) (Rf' : zG) (V' : zE), Qc v S' Rf' V' → Wa X μ R Z (ce + mc) (sl + ms) (n + mc) S' (pc + 3) L (v.toList ++ st) Rf' V') : Wa X μ R Z ce sl n S (pc) L (a1 :: zR r :: st) Rf V :=
  wa_callV (k1 := 1) (as := [a1]) (ci := 6) hd (hμ ▸ lL_61) w_inst_X6_recognised w_sel_X6_recognised w_init_X6 w_code_X6_recognised ⟨by decide +kernel, by decide +kernel, by decide +kernel⟩ rfl rfl hS rfl hC hR hw hf kk
theorem lX6_122 : Cond.methodLink RX6 122 yX4_mostSaidOf ∈ lw_ok := lw_in 430 (by decide +kernel) (by decide +kernel)
theorem kX6_122 {d mc r : Nat} {Qc : zQ} {a1 : zV} (hd : decode μ.2.1 pc = .ok (.invokevirtual 122, 3)) (hμ : μ.1.cls = RX6) (hS : S r = some (.inr 4)) (hC : Ct d mc ms mX4_mostSaidOf [zR r, a1] n S Rf V Qc) (hR : d + 1 ≤ R.frames ∧ 8 + (mX4_mostSaidOf.2.2.1 + 11) + 40 * d ≤ R.locals) (hw : (st.map zcat).sum ≤ 8) (hf : ce + mc ≤ R.cells ∧ sl + ms ≤ R.slots) (kk : ∀ (v : Option zV) (S' : zH) (Rf' : zG) (V' : zE), Qc v S' Rf' V' → Wa X μ R Z (ce + mc) (sl + ms) (n + mc) S' (pc + 3) L (v.toList ++ st) Rf' V') : Wa X μ R Z ce sl n S (pc) L (a1 :: zR r :: st) Rf V :=
  wa_callV (k1 := 1) (as := [a1]) (ci := 4) hd (hμ ▸ lX6_122) w_inst_X4_mostSaidOf w_sel_X4_mostSaidOf w_init_X4 w_code_X4_mostSaidOf ⟨by decide +kernel, by decide +kernel, by decide +kernel⟩ rfl rfl hS rfl hC hR hw hf kk
theorem lL_65 : Cond.methodLink RL 65 yX6_where ∈ lw_ok := lw_in 434 (by decide +kernel) (by decide +kernel)
theorem kL_65 {d mc r : Nat} {Qc : zQ} {a1 : zV} (hd : decode μ.2.1 pc = .ok (.invokevirtual 65, 3)) (hμ : μ.1.cls = RL) (hS : S r = some (.inr 6)) (hC : Ct d mc ms mX6_where [zR r, a1] n S Rf V Qc) (hR : d + 1 ≤ R.frames ∧ 8 + (mX6_where.2.2.1 + 11) + 40 * d ≤ R.locals) (hw : (st.map zcat).sum ≤ 8) (hf : ce + mc ≤ R.cells ∧ sl + ms ≤ R.slots) (kk : ∀ (v : Option zV) (S' : zH) (Rf' : zG) (V' : zE), Qc v S' Rf' V' → Wa X μ R Z (ce + mc) (sl + ms) (n + mc) S' (pc + 3) L (v.toList ++ st) Rf' V') : Wa X μ R Z ce sl n S (pc) L (a1 :: zR r :: st) Rf V :=
  wa_callV (k1 := 1) (as := [a1]) (ci := 6) hd (hμ ▸ lL_65) w_inst_X6_where w_sel_X6_where w_init_X6 w_code_X6_where ⟨by decide +kernel, by decide +kernel, by decide +kernel⟩ rfl rfl hS rfl hC hR hw hf kk
theorem lX6_125 : Cond.methodLink RX6 125 yX5_isOfOthersOnly ∈ lw_ok := lw_in 438 (by decide +kernel) (by decide +kernel)
theorem kX6_125 {d mc r : Nat} {Qc : zQ}  (hd : decode μ.2.1 pc = .ok (.invokevirtual 125, 3)) (hμ : μ.1.cls = RX6) (hS : S r = some (.inr 5)) (hC : Ct d mc ms mX5_isOfOthersOnly [zR r] n S Rf V Qc) (hR : d + 1 ≤ R.frames ∧ 8 + (mX5_isOfOthersOnly.2.2.1 + 11) + 40 * d ≤ R.locals) (hw : (st.map zcat).sum ≤ 8) (hf : ce + mc ≤ R.cells ∧ sl + ms ≤ R.slots) (kk : ∀ (v : Option zV) (S' : zH) (Rf' : zG) (V' : zE), Qc v S' Rf' V' → Wa X μ R Z (ce + mc) (sl + ms) (n + mc) S' (pc + 3) L (v.toList ++ st) Rf' V') : Wa X μ R Z ce sl n S (pc) L (zR r :: st) Rf V :=
  wa_callV (k1 := 0) (as := []) (ci := 5) hd (hμ ▸ lX6_125) w_inst_X5_isOfOthersOnly w_sel_X5_isOfOthersOnly w_init_X5 w_code_X5_isOfOthersOnly ⟨by decide +kernel, by decide +kernel, by decide +kernel⟩ rfl rfl hS rfl hC hR hw hf kk
theorem lX6_128 : Cond.methodLink RX6 128 yX1_find ∈ lw_ok := lw_in 443 (by decide +kernel) (by decide +kernel)
theorem kX6_128 {d mc r : Nat} {Qc : zQ} {a1 a2 : zV} (hd : decode μ.2.1 pc = .ok (.invokevirtual 128, 3)) (hμ : μ.1.cls = RX6) (hS : S r = some (.inr 1)) (hC : Ct d mc ms mX1_find [zR r, a1, a2] n S Rf V Qc) (hR : d + 1 ≤ R.frames ∧ 8 + (mX1_find.2.2.1 + 11) + 40 * d ≤ R.locals) (hw : (st.map zcat).sum ≤ 8) (hf : ce + mc ≤ R.cells ∧ sl + ms ≤ R.slots) (kk : ∀ (v : Option zV) (S' : zH) (Rf' : zG) (V' : zE), Qc v S' Rf' V' → Wa X μ R Z (ce + mc) (sl + ms) (n + mc) S' (pc + 3) L (v.toList ++ st) Rf' V') : Wa X μ R Z ce sl n S (pc) L (a2 :: a1 :: zR r :: st) Rf V :=
  wa_callV (k1 := 2) (as := [a1, a2]) (ci := 1) hd (hμ ▸ lX6_128) w_inst_X1_find w_sel_X1_find w_init_X1 w_code_X1_find ⟨by decide +kernel, by decide +kernel, by decide +kernel⟩ rfl rfl hS rfl hC hR hw hf kk
theorem lX1_27 : Cond.methodLink RX1 27 yX1_placeFrom ∈ lw_ok := lw_in 447 (by decide +kernel) (by decide +kernel)
theorem kX1_27 {d mc : Nat} {Qc : zQ} {a1 a2 a3 a4 a5 : zV} (hd : decode μ.2.1 pc = .ok (.invokestatic 27, 3)) (hμ : μ.1.cls = RX1) (hC : Ct d mc ms mX1_placeFrom [a1, a2, a3, a4, a5] n S Rf V Qc) (hR : d + 1 ≤ R.frames ∧ 8 + (mX1_placeFrom.2.2.1 + 11) + 40 * d ≤ R.locals) (hw : (st.map zcat).sum ≤ 8) (hf : ce + mc ≤ R.cells ∧ sl + ms ≤ R.slots) (kk : ∀ (v : Option zV) (S' : zH) (Rf' : zG) (V' : zE), Qc v S' Rf' V' → Wa X μ R Z (ce + mc) (sl + ms) (n + mc) S' (pc + 3) L (v.toList ++ st) Rf' V') : Wa X μ R Z ce sl n S (pc) L (a5 :: a4 :: a3 :: a2 :: a1 :: st) Rf V :=
  wa_callS (k1 := 5) hd (hμ ▸ lX1_27) w_stat_X1_placeFrom w_init_X1 w_code_X1_placeFrom ⟨by decide +kernel, by decide +kernel, by decide +kernel⟩ rfl rfl hC hR hw hf kk
theorem lX1_31 : Cond.methodLink RX1 31 yX1_keep ∈ lw_ok := lw_in 450 (by decide +kernel) (by decide +kernel)
theorem kX1_31 {d mc r : Nat} {Qc : zQ} {a1 : zV} (hd : decode μ.2.1 pc = .ok (.invokevirtual 31, 3)) (hμ : μ.1.cls = RX1) (hS : S r = some (.inr 1)) (hC : Ct d mc ms mX1_keep [zR r, a1] n S Rf V Qc) (hR : d + 1 ≤ R.frames ∧ 8 + (mX1_keep.2.2.1 + 11) + 40 * d ≤ R.locals) (hw : (st.map zcat).sum ≤ 8) (hf : ce + mc ≤ R.cells ∧ sl + ms ≤ R.slots) (kk : ∀ (v : Option zV) (S' : zH) (Rf' : zG) (V' : zE), Qc v S' Rf' V' → Wa X μ R Z (ce + mc) (sl + ms) (n + mc) S' (pc + 3) L (v.toList ++ st) Rf' V') : Wa X μ R Z ce sl n S (pc) L (a1 :: zR r :: st) Rf V :=
  wa_callV (k1 := 1) (as := [a1]) (ci := 1) hd (hμ ▸ lX1_31) w_inst_X1_keep w_sel_X1_keep w_init_X1 w_code_X1_keep ⟨by decide +kernel, by decide +kernel, by decide +kernel⟩ rfl rfl hS rfl hC hR hw hf kk
theorem lX1_56 : Cond.methodLink RX1 56 arraycopyName ∈ lw_ok := lw_in 454 (by decide +kernel) (by decide +kernel)
theorem lX1_52 : Cond.methodLink RX1 52 yX4_bearsWord ∈ lw_ok := lw_in 455 (by decide +kernel) (by decide +kernel)
theorem kX1_52 {d mc r : Nat} {Qc : zQ} {a1 a2 a3 : zV} (hd : decode μ.2.1 pc = .ok (.invokevirtual 52, 3)) (hμ : μ.1.cls = RX1) (hS : S r = some (.inr 4)) (hC : Ct d mc ms mX4_bearsWord [zR r, a1, a2, a3] n S Rf V Qc) (hR : d + 1 ≤ R.frames ∧ 8 + (mX4_bearsWord.2.2.1 + 11) + 40 * d ≤ R.locals) (hw : (st.map zcat).sum ≤ 8) (hf : ce + mc ≤ R.cells ∧ sl + ms ≤ R.slots) (kk : ∀ (v : Option zV) (S' : zH) (Rf' : zG) (V' : zE), Qc v S' Rf' V' → Wa X μ R Z (ce + mc) (sl + ms) (n + mc) S' (pc + 3) L (v.toList ++ st) Rf' V') : Wa X μ R Z ce sl n S (pc) L (a3 :: a2 :: a1 :: zR r :: st) Rf V :=
  wa_callV (k1 := 3) (as := [a1, a2, a3]) (ci := 4) hd (hμ ▸ lX1_52) w_inst_X4_bearsWord w_sel_X4_bearsWord w_init_X4 w_code_X4_bearsWord ⟨by decide +kernel, by decide +kernel, by decide +kernel⟩ rfl rfl hS rfl hC hR hw hf kk
theorem lL_69 : Cond.methodLink RL 69 yX6_cleared ∈ lw_ok := lw_in 459 (by decide +kernel) (by decide +kernel)
theorem kL_69 {d mc r : Nat} {Qc : zQ} {a1 : zV} (hd : decode μ.2.1 pc = .ok (.invokevirtual 69, 3)) (hμ : μ.1.cls = RL) (hS : S r = some (.inr 6)) (hC : Ct d mc ms mX6_cleared [zR r, a1] n S Rf V Qc) (hR : d + 1 ≤ R.frames ∧ 8 + (mX6_cleared.2.2.1 + 11) + 40 * d ≤ R.locals) (hw : (st.map zcat).sum ≤ 8) (hf : ce + mc ≤ R.cells ∧ sl + ms ≤ R.slots) (kk : ∀ (v : Option zV) (S' : zH) (Rf' : zG) (V' : zE), Qc v S' Rf' V' → Wa X μ R Z (ce + mc) (sl + ms) (n + mc) S' (pc + 3) L (v.toList ++ st) Rf' V') : Wa X μ R Z ce sl n S (pc) L (a1 :: zR r :: st) Rf V :=
  wa_callV (k1 := 1) (as := [a1]) (ci := 6) hd (hμ ▸ lL_69) w_inst_X6_cleared w_sel_X6_cleared w_init_X6 w_code_X6_cleared ⟨by decide +kernel, by decide +kernel, by decide +kernel⟩ rfl rfl hS rfl hC hR hw hf kk
theorem lX6_138 : Cond.methodLink RX6 138 Lib.Math.max.name ∈ lw_ok := lw_in 463 (by decide +kernel) (by decide +kernel)
theorem lL_73 : Cond.methodLink RL 73 yX6_salted ∈ lw_ok := lw_in 464 (by decide +kernel) (by decide +kernel)
theorem kL_73 {d mc r : Nat} {Qc : zQ} {a1 : zV} (hd : decode μ.2.1 pc = .ok (.invokevirtual 73, 3)) (hμ : μ.1.cls = RL) (hS : S r = some (.inr 6)) (hC : Ct d mc ms mX6_salted [zR r, a1] n S Rf V Qc) (hR : d + 1 ≤ R.frames ∧ 8 + (mX6_salted.2.2.1 + 11) + 40 * d ≤ R.locals) (hw : (st.map zcat).sum ≤ 8) (hf : ce + mc ≤ R.cells ∧ sl + ms ≤ R.slots) (kk : ∀ (v : Option zV) (S' : zH) (Rf' : zG) (V' : zE), Qc v S' Rf' V' → Wa X μ R Z (ce + mc) (sl + ms) (n + mc) S' (pc + 3) L (v.toList ++ st) Rf' V') : Wa X μ R Z ce sl n S (pc) L (a1 :: zR r :: st) Rf V :=
  wa_callV (k1 := 1) (as := [a1]) (ci := 6) hd (hμ ▸ lL_73) w_inst_X6_salted w_sel_X6_salted w_init_X6 w_code_X6_salted ⟨by decide +kernel, by decide +kernel, by decide +kernel⟩ rfl rfl hS rfl hC hR hw hf kk
theorem lX6_143 : Cond.methodLink RX6 143 yX3_fewestFor ∈ lw_ok := lw_in 468 (by decide +kernel) (by decide +kernel)
theorem kX6_143 {d mc r : Nat} {Qc : zQ} {a1 a2 : zV} (hd : decode μ.2.1 pc = .ok (.invokevirtual 143, 3)) (hμ : μ.1.cls = RX6) (hS : S r = some (.inr 3)) (hC : Ct d mc ms mX3_fewestFor [zR r, a1, a2] n S Rf V Qc) (hR : d + 1 ≤ R.frames ∧ 8 + (mX3_fewestFor.2.2.1 + 11) + 40 * d ≤ R.locals) (hw : (st.map zcat).sum ≤ 8) (hf : ce + mc ≤ R.cells ∧ sl + ms ≤ R.slots) (kk : ∀ (v : Option zV) (S' : zH) (Rf' : zG) (V' : zE), Qc v S' Rf' V' → Wa X μ R Z (ce + mc) (sl + ms) (n + mc) S' (pc + 3) L (v.toList ++ st) Rf' V') : Wa X μ R Z ce sl n S (pc) L (a2 :: a1 :: zR r :: st) Rf V :=
  wa_callV (k1 := 2) (as := [a1, a2]) (ci := 3) hd (hμ ▸ lX6_143) w_inst_X3_fewestFor w_sel_X3_fewestFor w_init_X3 w_code_X3_fewestFor ⟨by decide +kernel, by decide +kernel, by decide +kernel⟩ rfl rfl hS rfl hC hR hw hf kk
theorem lX3_31 : Cond.methodLink RX3 31 yX3_spreadFrom ∈ lw_ok := lw_in 472 (by decide +kernel) (by decide +kernel)
theorem kX3_31 {d mc : Nat} {Qc : zQ} {a1 a2 a3 : zV} (hd : decode μ.2.1 pc = .ok (.invokestatic 31, 3)) (hμ : μ.1.cls = RX3) (hC : Ct d mc ms mX3_spreadFrom [a1, a2, a3] n S Rf V Qc) (hR : d + 1 ≤ R.frames ∧ 8 + (mX3_spreadFrom.2.2.1 + 11) + 40 * d ≤ R.locals) (hw : (st.map zcat).sum ≤ 8) (hf : ce + mc ≤ R.cells ∧ sl + ms ≤ R.slots) (kk : ∀ (v : Option zV) (S' : zH) (Rf' : zG) (V' : zE), Qc v S' Rf' V' → Wa X μ R Z (ce + mc) (sl + ms) (n + mc) S' (pc + 3) L (v.toList ++ st) Rf' V') : Wa X μ R Z ce sl n S (pc) L (a3 :: a2 :: a1 :: st) Rf V :=
  wa_callS (k1 := 3) hd (hμ ▸ lX3_31) w_stat_X3_spreadFrom w_init_X3 w_code_X3_spreadFrom ⟨by decide +kernel, by decide +kernel, by decide +kernel⟩ rfl rfl hC hR hw hf kk
theorem lX3_35 : Cond.methodLink RX3 35 yX3_isEnough ∈ lw_ok := lw_in 475 (by decide +kernel) (by decide +kernel)
theorem kX3_35 {d mc r : Nat} {Qc : zQ} {a1 : zV} (hd : decode μ.2.1 pc = .ok (.invokevirtual 35, 3)) (hμ : μ.1.cls = RX3) (hS : S r = some (.inr 3)) (hC : Ct d mc ms mX3_isEnough [zR r, a1] n S Rf V Qc) (hR : d + 1 ≤ R.frames ∧ 8 + (mX3_isEnough.2.2.1 + 11) + 40 * d ≤ R.locals) (hw : (st.map zcat).sum ≤ 8) (hf : ce + mc ≤ R.cells ∧ sl + ms ≤ R.slots) (kk : ∀ (v : Option zV) (S' : zH) (Rf' : zG) (V' : zE), Qc v S' Rf' V' → Wa X μ R Z (ce + mc) (sl + ms) (n + mc) S' (pc + 3) L (v.toList ++ st) Rf' V') : Wa X μ R Z ce sl n S (pc) L (a1 :: zR r :: st) Rf V :=
  wa_callV (k1 := 1) (as := [a1]) (ci := 3) hd (hμ ▸ lX3_35) w_inst_X3_isEnough w_sel_X3_isEnough w_init_X3 w_code_X3_isEnough ⟨by decide +kernel, by decide +kernel, by decide +kernel⟩ rfl rfl hS rfl hC hR hw hf kk
theorem lX3_39 : Cond.methodLink RX3 39 yX3_spreadsIn ∈ lw_ok := lw_in 479 (by decide +kernel) (by decide +kernel)
theorem kX3_39 {d mc r : Nat} {Qc : zQ} {a1 : zV} (hd : decode μ.2.1 pc = .ok (.invokevirtual 39, 3)) (hμ : μ.1.cls = RX3) (hS : S r = some (.inr 3)) (hC : Ct d mc ms mX3_spreadsIn [zR r, a1] n S Rf V Qc) (hR : d + 1 ≤ R.frames ∧ 8 + (mX3_spreadsIn.2.2.1 + 11) + 40 * d ≤ R.locals) (hw : (st.map zcat).sum ≤ 8) (hf : ce + mc ≤ R.cells ∧ sl + ms ≤ R.slots) (kk : ∀ (v : Option zV) (S' : zH) (Rf' : zG) (V' : zE), Qc v S' Rf' V' → Wa X μ R Z (ce + mc) (sl + ms) (n + mc) S' (pc + 3) L (v.toList ++ st) Rf' V') : Wa X μ R Z ce sl n S (pc) L (a1 :: zR r :: st) Rf V :=
  wa_callV (k1 := 1) (as := [a1]) (ci := 3) hd (hμ ▸ lX3_39) w_inst_X3_spreadsIn w_sel_X3_spreadsIn w_init_X3 w_code_X3_spreadsIn ⟨by decide +kernel, by decide +kernel, by decide +kernel⟩ rfl rfl hS rfl hC hR hw hf kk
theorem lL_77 : Cond.methodLink RL 77 yX6_slide ∈ lw_ok := lw_in 483 (by decide +kernel) (by decide +kernel)
theorem kL_77 {d mc r : Nat} {Qc : zQ} {a1 a2 a3 : zV} (hd : decode μ.2.1 pc = .ok (.invokevirtual 77, 3)) (hμ : μ.1.cls = RL) (hS : S r = some (.inr 6)) (hC : Ct d mc ms mX6_slide [zR r, a1, a2, a3] n S Rf V Qc) (hR : d + 1 ≤ R.frames ∧ 8 + (mX6_slide.2.2.1 + 11) + 40 * d ≤ R.locals) (hw : (st.map zcat).sum ≤ 8) (hf : ce + mc ≤ R.cells ∧ sl + ms ≤ R.slots) (kk : ∀ (v : Option zV) (S' : zH) (Rf' : zG) (V' : zE), Qc v S' Rf' V' → Wa X μ R Z (ce + mc) (sl + ms) (n + mc) S' (pc + 3) L (v.toList ++ st) Rf' V') : Wa X μ R Z ce sl n S (pc) L (a3 :: a2 :: a1 :: zR r :: st) Rf V :=
  wa_callV (k1 := 3) (as := [a1, a2, a3]) (ci := 6) hd (hμ ▸ lL_77) w_inst_X6_slide w_sel_X6_slide w_init_X6 w_code_X6_slide ⟨by decide +kernel, by decide +kernel, by decide +kernel⟩ rfl rfl hS rfl hC hR hw hf kk
theorem lL_81 : Cond.methodLink RL 81 yX6_holds ∈ lw_ok := lw_in 487 (by decide +kernel) (by decide +kernel)
theorem kL_81 {d mc r : Nat} {Qc : zQ} {a1 : zV} (hd : decode μ.2.1 pc = .ok (.invokevirtual 81, 3)) (hμ : μ.1.cls = RL) (hS : S r = some (.inr 6)) (hC : Ct d mc ms mX6_holds [zR r, a1] n S Rf V Qc) (hR : d + 1 ≤ R.frames ∧ 8 + (mX6_holds.2.2.1 + 11) + 40 * d ≤ R.locals) (hw : (st.map zcat).sum ≤ 8) (hf : ce + mc ≤ R.cells ∧ sl + ms ≤ R.slots) (kk : ∀ (v : Option zV) (S' : zH) (Rf' : zG) (V' : zE), Qc v S' Rf' V' → Wa X μ R Z (ce + mc) (sl + ms) (n + mc) S' (pc + 3) L (v.toList ++ st) Rf' V') : Wa X μ R Z ce sl n S (pc) L (a1 :: zR r :: st) Rf V :=
  wa_callV (k1 := 1) (as := [a1]) (ci := 6) hd (hμ ▸ lL_81) w_inst_X6_holds w_sel_X6_holds w_init_X6 w_code_X6_holds ⟨by decide +kernel, by decide +kernel, by decide +kernel⟩ rfl rfl hS rfl hC hR hw hf kk
theorem lX6_147 : Cond.methodLink RX6 147 Lib.Math.min.name ∈ lw_ok := lw_in 491 (by decide +kernel) (by decide +kernel)
theorem lL_85 : Cond.methodLink RL 85 yX6_seen ∈ lw_ok := lw_in 492 (by decide +kernel) (by decide +kernel)
theorem kL_85 {d mc r : Nat} {Qc : zQ} {a1 a2 : zV} (hd : decode μ.2.1 pc = .ok (.invokevirtual 85, 3)) (hμ : μ.1.cls = RL) (hS : S r = some (.inr 6)) (hC : Ct d mc ms mX6_seen [zR r, a1, a2] n S Rf V Qc) (hR : d + 1 ≤ R.frames ∧ 8 + (mX6_seen.2.2.1 + 11) + 40 * d ≤ R.locals) (hw : (st.map zcat).sum ≤ 8) (hf : ce + mc ≤ R.cells ∧ sl + ms ≤ R.slots) (kk : ∀ (v : Option zV) (S' : zH) (Rf' : zG) (V' : zE), Qc v S' Rf' V' → Wa X μ R Z (ce + mc) (sl + ms) (n + mc) S' (pc + 3) L (v.toList ++ st) Rf' V') : Wa X μ R Z ce sl n S (pc) L (a2 :: a1 :: zR r :: st) Rf V :=
  wa_callV (k1 := 2) (as := [a1, a2]) (ci := 6) hd (hμ ▸ lL_85) w_inst_X6_seen w_sel_X6_seen w_init_X6 w_code_X6_seen ⟨by decide +kernel, by decide +kernel, by decide +kernel⟩ rfl rfl hS rfl hC hR hw hf kk
theorem lL_89 : Cond.methodLink RL 89 yX6_forget ∈ lw_ok := lw_in 496 (by decide +kernel) (by decide +kernel)
theorem kL_89 {d mc r : Nat} {Qc : zQ}  (hd : decode μ.2.1 pc = .ok (.invokevirtual 89, 3)) (hμ : μ.1.cls = RL) (hS : S r = some (.inr 6)) (hC : Ct d mc ms mX6_forget [zR r] n S Rf V Qc) (hR : d + 1 ≤ R.frames ∧ 8 + (mX6_forget.2.2.1 + 11) + 40 * d ≤ R.locals) (hw : (st.map zcat).sum ≤ 8) (hf : ce + mc ≤ R.cells ∧ sl + ms ≤ R.slots) (kk : ∀ (v : Option zV) (S' : zH) (Rf' : zG) (V' : zE), Qc v S' Rf' V' → Wa X μ R Z (ce + mc) (sl + ms) (n + mc) S' (pc + 3) L (v.toList ++ st) Rf' V') : Wa X μ R Z ce sl n S (pc) L (zR r :: st) Rf V :=
  wa_callV (k1 := 0) (as := []) (ci := 6) hd (hμ ▸ lL_89) w_inst_X6_forget w_sel_X6_forget w_init_X6 w_code_X6_forget ⟨by decide +kernel, by decide +kernel, by decide +kernel⟩ rfl rfl hS rfl hC hR hw hf kk
theorem lL_93 : Cond.methodLink RL 93 yX6_who ∈ lw_ok := lw_in 500 (by decide +kernel) (by decide +kernel)
theorem kL_93 {d mc r : Nat} {Qc : zQ} {a1 a2 : zV} (hd : decode μ.2.1 pc = .ok (.invokevirtual 93, 3)) (hμ : μ.1.cls = RL) (hS : S r = some (.inr 6)) (hC : Ct d mc ms mX6_who [zR r, a1, a2] n S Rf V Qc) (hR : d + 1 ≤ R.frames ∧ 8 + (mX6_who.2.2.1 + 11) + 40 * d ≤ R.locals) (hw : (st.map zcat).sum ≤ 8) (hf : ce + mc ≤ R.cells ∧ sl + ms ≤ R.slots) (kk : ∀ (v : Option zV) (S' : zH) (Rf' : zG) (V' : zE), Qc v S' Rf' V' → Wa X μ R Z (ce + mc) (sl + ms) (n + mc) S' (pc + 3) L (v.toList ++ st) Rf' V') : Wa X μ R Z ce sl n S (pc) L (a2 :: a1 :: zR r :: st) Rf V :=
  wa_callV (k1 := 2) (as := [a1, a2]) (ci := 6) hd (hμ ▸ lL_93) w_inst_X6_who w_sel_X6_who w_init_X6 w_code_X6_who ⟨by decide +kernel, by decide +kernel, by decide +kernel⟩ rfl rfl hS rfl hC hR hw hf kk
theorem lX6_159 : Cond.methodLink RX6 159 yX2_gather ∈ lw_ok := lw_in 504 (by decide +kernel) (by decide +kernel)
theorem kX6_159 {d mc r : Nat} {Qc : zQ} {a1 a2 : zV} (hd : decode μ.2.1 pc = .ok (.invokevirtual 159, 3)) (hμ : μ.1.cls = RX6) (hS : S r = some (.inr 2)) (hC : Ct d mc ms mX2_gather [zR r, a1, a2] n S Rf V Qc) (hR : d + 1 ≤ R.frames ∧ 8 + (mX2_gather.2.2.1 + 11) + 40 * d ≤ R.locals) (hw : (st.map zcat).sum ≤ 8) (hf : ce + mc ≤ R.cells ∧ sl + ms ≤ R.slots) (kk : ∀ (v : Option zV) (S' : zH) (Rf' : zG) (V' : zE), Qc v S' Rf' V' → Wa X μ R Z (ce + mc) (sl + ms) (n + mc) S' (pc + 3) L (v.toList ++ st) Rf' V') : Wa X μ R Z ce sl n S (pc) L (a2 :: a1 :: zR r :: st) Rf V :=
  wa_callV (k1 := 2) (as := [a1, a2]) (ci := 2) hd (hμ ▸ lX6_159) w_inst_X2_gather w_sel_X2_gather w_init_X2 w_code_X2_gather ⟨by decide +kernel, by decide +kernel, by decide +kernel⟩ rfl rfl hS rfl hC hR hw hf kk
theorem lX2_46 : Cond.methodLink RX2 46 yJ7_fill_53178 ∈ lw_ok := lw_in 509 (by decide +kernel) (by decide +kernel)
theorem kX2_46 {d mc : Nat} {Qc : zQ} {a1 a2 : zV} (hd : decode μ.2.1 pc = .ok (.invokestatic 46, 3)) (hμ : μ.1.cls = RX2) (hC : Ct d mc ms mJ7_fill_53178 [a1, a2] n S Rf V Qc) (hR : d + 1 ≤ R.frames ∧ 8 + (mJ7_fill_53178.2.2.1 + 11) + 40 * d ≤ R.locals) (hw : (st.map zcat).sum ≤ 8) (hf : ce + mc ≤ R.cells ∧ sl + ms ≤ R.slots) (kk : ∀ (v : Option zV) (S' : zH) (Rf' : zG) (V' : zE), Qc v S' Rf' V' → Wa X μ R Z (ce + mc) (sl + ms) (n + mc) S' (pc + 3) L (v.toList ++ st) Rf' V') : Wa X μ R Z ce sl n S (pc) L (a2 :: a1 :: st) Rf V :=
  wa_callS (k1 := 2) hd (hμ ▸ lX2_46) w_stat_J7_fill_53178 w_init_J7 w_code_J7_fill_53178 ⟨by decide +kernel, by decide +kernel, by decide +kernel⟩ rfl rfl hC hR hw hf kk
theorem lX2_55 : Cond.methodLink RX2 55 arraycopyName ∈ lw_ok := lw_in 510 (by decide +kernel) (by decide +kernel)
theorem lX2_61 : Cond.methodLink RX2 61 yX2_pickFrom ∈ lw_ok := lw_in 511 (by decide +kernel) (by decide +kernel)
theorem kX2_61 {d mc : Nat} {Qc : zQ} {a1 a2 a3 a4 : zV} (hd : decode μ.2.1 pc = .ok (.invokestatic 61, 3)) (hμ : μ.1.cls = RX2) (hC : Ct d mc ms mX2_pickFrom [a1, a2, a3, a4] n S Rf V Qc) (hR : d + 1 ≤ R.frames ∧ 8 + (mX2_pickFrom.2.2.1 + 11) + 40 * d ≤ R.locals) (hw : (st.map zcat).sum ≤ 8) (hf : ce + mc ≤ R.cells ∧ sl + ms ≤ R.slots) (kk : ∀ (v : Option zV) (S' : zH) (Rf' : zG) (V' : zE), Qc v S' Rf' V' → Wa X μ R Z (ce + mc) (sl + ms) (n + mc) S' (pc + 3) L (v.toList ++ st) Rf' V') : Wa X μ R Z ce sl n S (pc) L (a4 :: a3 :: a2 :: a1 :: st) Rf V :=
  wa_callS (k1 := 4) hd (hμ ▸ lX2_61) w_stat_X2_pickFrom w_init_X2 w_code_X2_pickFrom ⟨by decide +kernel, by decide +kernel, by decide +kernel⟩ rfl rfl hC hR hw hf kk
theorem lX2_65 : Cond.methodLink RX2 65 yX2_weigh ∈ lw_ok := lw_in 514 (by decide +kernel) (by decide +kernel)
theorem kX2_65 {d mc r : Nat} {Qc : zQ} {a1 : zV} (hd : decode μ.2.1 pc = .ok (.invokevirtual 65, 3)) (hμ : μ.1.cls = RX2) (hS : S r = some (.inr 2)) (hC : Ct d mc ms mX2_weigh [zR r, a1] n S Rf V Qc) (hR : d + 1 ≤ R.frames ∧ 8 + (mX2_weigh.2.2.1 + 11) + 40 * d ≤ R.locals) (hw : (st.map zcat).sum ≤ 8) (hf : ce + mc ≤ R.cells ∧ sl + ms ≤ R.slots) (kk : ∀ (v : Option zV) (S' : zH) (Rf' : zG) (V' : zE), Qc v S' Rf' V' → Wa X μ R Z (ce + mc) (sl + ms) (n + mc) S' (pc + 3) L (v.toList ++ st) Rf' V') : Wa X μ R Z ce sl n S (pc) L (a1 :: zR r :: st) Rf V :=
  wa_callV (k1 := 1) (as := [a1]) (ci := 2) hd (hμ ▸ lX2_65) w_inst_X2_weigh w_sel_X2_weigh w_init_X2 w_code_X2_weigh ⟨by decide +kernel, by decide +kernel, by decide +kernel⟩ rfl rfl hS rfl hC hR hw hf kk
theorem lX2_81 : Cond.methodLink RX2 81 yX4_sightsHold ∈ lw_ok := lw_in 519 (by decide +kernel) (by decide +kernel)
theorem kX2_81 {d mc r : Nat} {Qc : zQ} {a1 : zV} (hd : decode μ.2.1 pc = .ok (.invokevirtual 81, 3)) (hμ : μ.1.cls = RX2) (hS : S r = some (.inr 4)) (hC : Ct d mc ms mX4_sightsHold [zR r, a1] n S Rf V Qc) (hR : d + 1 ≤ R.frames ∧ 8 + (mX4_sightsHold.2.2.1 + 11) + 40 * d ≤ R.locals) (hw : (st.map zcat).sum ≤ 8) (hf : ce + mc ≤ R.cells ∧ sl + ms ≤ R.slots) (kk : ∀ (v : Option zV) (S' : zH) (Rf' : zG) (V' : zE), Qc v S' Rf' V' → Wa X μ R Z (ce + mc) (sl + ms) (n + mc) S' (pc + 3) L (v.toList ++ st) Rf' V') : Wa X μ R Z ce sl n S (pc) L (a1 :: zR r :: st) Rf V :=
  wa_callV (k1 := 1) (as := [a1]) (ci := 4) hd (hμ ▸ lX2_81) w_inst_X4_sightsHold w_sel_X4_sightsHold w_init_X4 w_code_X4_sightsHold ⟨by decide +kernel, by decide +kernel, by decide +kernel⟩ rfl rfl hS rfl hC hR hw hf kk
theorem lX2_85 : Cond.methodLink RX2 85 yX2_orders ∈ lw_ok := lw_in 523 (by decide +kernel) (by decide +kernel)
theorem kX2_85 {d mc r : Nat} {Qc : zQ}  (hd : decode μ.2.1 pc = .ok (.invokevirtual 85, 3)) (hμ : μ.1.cls = RX2) (hS : S r = some (.inr 2)) (hC : Ct d mc ms mX2_orders [zR r] n S Rf V Qc) (hR : d + 1 ≤ R.frames ∧ 8 + (mX2_orders.2.2.1 + 11) + 40 * d ≤ R.locals) (hw : (st.map zcat).sum ≤ 8) (hf : ce + mc ≤ R.cells ∧ sl + ms ≤ R.slots) (kk : ∀ (v : Option zV) (S' : zH) (Rf' : zG) (V' : zE), Qc v S' Rf' V' → Wa X μ R Z (ce + mc) (sl + ms) (n + mc) S' (pc + 3) L (v.toList ++ st) Rf' V') : Wa X μ R Z ce sl n S (pc) L (zR r :: st) Rf V :=
  wa_callV (k1 := 0) (as := []) (ci := 2) hd (hμ ▸ lX2_85) w_inst_X2_orders w_sel_X2_orders w_init_X2 w_code_X2_orders ⟨by decide +kernel, by decide +kernel, by decide +kernel⟩ rfl rfl hS rfl hC hR hw hf kk
theorem lX2_69 : Cond.methodLink RX2 69 Lib.Math.max.name ∈ lw_ok := lw_in 527 (by decide +kernel) (by decide +kernel)
theorem lL_97 : Cond.methodLink RL 97 yX6_next ∈ lw_ok := lw_in 528 (by decide +kernel) (by decide +kernel)
theorem kL_97 {d mc r : Nat} {Qc : zQ} {a1 a2 : zV} (hd : decode μ.2.1 pc = .ok (.invokevirtual 97, 3)) (hμ : μ.1.cls = RL) (hS : S r = some (.inr 6)) (hC : Ct d mc ms mX6_next [zR r, a1, a2] n S Rf V Qc) (hR : d + 1 ≤ R.frames ∧ 8 + (mX6_next.2.2.1 + 11) + 40 * d ≤ R.locals) (hw : (st.map zcat).sum ≤ 8) (hf : ce + mc ≤ R.cells ∧ sl + ms ≤ R.slots) (kk : ∀ (v : Option zV) (S' : zH) (Rf' : zG) (V' : zE), Qc v S' Rf' V' → Wa X μ R Z (ce + mc) (sl + ms) (n + mc) S' (pc + 3) L (v.toList ++ st) Rf' V') : Wa X μ R Z ce sl n S (pc) L (a2 :: a1 :: zR r :: st) Rf V :=
  wa_callV (k1 := 2) (as := [a1, a2]) (ci := 6) hd (hμ ▸ lL_97) w_inst_X6_next w_sel_X6_next w_init_X6 w_code_X6_next ⟨by decide +kernel, by decide +kernel, by decide +kernel⟩ rfl rfl hS rfl hC hR hw hf kk
theorem lX6_172 : Cond.methodLink RX6 172 yX2_gardenToMeasure ∈ lw_ok := lw_in 532 (by decide +kernel) (by decide +kernel)
theorem kX6_172 {d mc r : Nat} {Qc : zQ} {a1 : zV} (hd : decode μ.2.1 pc = .ok (.invokevirtual 172, 3)) (hμ : μ.1.cls = RX6) (hS : S r = some (.inr 2)) (hC : Ct d mc ms mX2_gardenToMeasure [zR r, a1] n S Rf V Qc) (hR : d + 1 ≤ R.frames ∧ 8 + (mX2_gardenToMeasure.2.2.1 + 11) + 40 * d ≤ R.locals) (hw : (st.map zcat).sum ≤ 8) (hf : ce + mc ≤ R.cells ∧ sl + ms ≤ R.slots) (kk : ∀ (v : Option zV) (S' : zH) (Rf' : zG) (V' : zE), Qc v S' Rf' V' → Wa X μ R Z (ce + mc) (sl + ms) (n + mc) S' (pc + 3) L (v.toList ++ st) Rf' V') : Wa X μ R Z ce sl n S (pc) L (a1 :: zR r :: st) Rf V :=
  wa_callV (k1 := 1) (as := [a1]) (ci := 2) hd (hμ ▸ lX6_172) w_inst_X2_gardenToMeasure w_sel_X2_gardenToMeasure w_init_X2 w_code_X2_gardenToMeasure ⟨by decide +kernel, by decide +kernel, by decide +kernel⟩ rfl rfl hS rfl hC hR hw hf kk
theorem lX2_89 : Cond.methodLink RX2 89 yX4_isSeen ∈ lw_ok := lw_in 536 (by decide +kernel) (by decide +kernel)
theorem kX2_89 {d mc r : Nat} {Qc : zQ} {a1 : zV} (hd : decode μ.2.1 pc = .ok (.invokevirtual 89, 3)) (hμ : μ.1.cls = RX2) (hS : S r = some (.inr 4)) (hC : Ct d mc ms mX4_isSeen [zR r, a1] n S Rf V Qc) (hR : d + 1 ≤ R.frames ∧ 8 + (mX4_isSeen.2.2.1 + 11) + 40 * d ≤ R.locals) (hw : (st.map zcat).sum ≤ 8) (hf : ce + mc ≤ R.cells ∧ sl + ms ≤ R.slots) (kk : ∀ (v : Option zV) (S' : zH) (Rf' : zG) (V' : zE), Qc v S' Rf' V' → Wa X μ R Z (ce + mc) (sl + ms) (n + mc) S' (pc + 3) L (v.toList ++ st) Rf' V') : Wa X μ R Z ce sl n S (pc) L (a1 :: zR r :: st) Rf V :=
  wa_callV (k1 := 1) (as := [a1]) (ci := 4) hd (hμ ▸ lX2_89) w_inst_X4_isSeen w_sel_X4_isSeen w_init_X4 w_code_X4_isSeen ⟨by decide +kernel, by decide +kernel, by decide +kernel⟩ rfl rfl hS rfl hC hR hw hf kk
theorem lX2_93 : Cond.methodLink RX2 93 yX2_mostLeft ∈ lw_ok := lw_in 540 (by decide +kernel) (by decide +kernel)
theorem kX2_93 {d mc r : Nat} {Qc : zQ} {a1 : zV} (hd : decode μ.2.1 pc = .ok (.invokevirtual 93, 3)) (hμ : μ.1.cls = RX2) (hS : S r = some (.inr 2)) (hC : Ct d mc ms mX2_mostLeft [zR r, a1] n S Rf V Qc) (hR : d + 1 ≤ R.frames ∧ 8 + (mX2_mostLeft.2.2.1 + 11) + 40 * d ≤ R.locals) (hw : (st.map zcat).sum ≤ 8) (hf : ce + mc ≤ R.cells ∧ sl + ms ≤ R.slots) (kk : ∀ (v : Option zV) (S' : zH) (Rf' : zG) (V' : zE), Qc v S' Rf' V' → Wa X μ R Z (ce + mc) (sl + ms) (n + mc) S' (pc + 3) L (v.toList ++ st) Rf' V') : Wa X μ R Z ce sl n S (pc) L (a1 :: zR r :: st) Rf V :=
  wa_callV (k1 := 1) (as := [a1]) (ci := 2) hd (hμ ▸ lX2_93) w_inst_X2_mostLeft w_sel_X2_mostLeft w_init_X2 w_code_X2_mostLeft ⟨by decide +kernel, by decide +kernel, by decide +kernel⟩ rfl rfl hS rfl hC hR hw hf kk
theorem lX6_175 : Cond.methodLink RX6 175 yX2_mostLeft ∈ lw_ok := lw_in 544 (by decide +kernel) (by decide +kernel)
theorem kX6_175 {d mc r : Nat} {Qc : zQ} {a1 : zV} (hd : decode μ.2.1 pc = .ok (.invokevirtual 175, 3)) (hμ : μ.1.cls = RX6) (hS : S r = some (.inr 2)) (hC : Ct d mc ms mX2_mostLeft [zR r, a1] n S Rf V Qc) (hR : d + 1 ≤ R.frames ∧ 8 + (mX2_mostLeft.2.2.1 + 11) + 40 * d ≤ R.locals) (hw : (st.map zcat).sum ≤ 8) (hf : ce + mc ≤ R.cells ∧ sl + ms ≤ R.slots) (kk : ∀ (v : Option zV) (S' : zH) (Rf' : zG) (V' : zE), Qc v S' Rf' V' → Wa X μ R Z (ce + mc) (sl + ms) (n + mc) S' (pc + 3) L (v.toList ++ st) Rf' V') : Wa X μ R Z ce sl n S (pc) L (a1 :: zR r :: st) Rf V :=
  wa_callV (k1 := 1) (as := [a1]) (ci := 2) hd (hμ ▸ lX6_175) w_inst_X2_mostLeft w_sel_X2_mostLeft w_init_X2 w_code_X2_mostLeft ⟨by decide +kernel, by decide +kernel, by decide +kernel⟩ rfl rfl hS rfl hC hR hw hf kk
theorem lL_101 : Cond.methodLink RL 101 yX6_laws ∈ lw_ok := lw_in 545 (by decide +kernel) (by decide +kernel)
theorem kL_101 {d mc r : Nat} {Qc : zQ} {a1 : zV} (hd : decode μ.2.1 pc = .ok (.invokevirtual 101, 3)) (hμ : μ.1.cls = RL) (hS : S r = some (.inr 6)) (hC : Ct d mc ms mX6_laws [zR r, a1] n S Rf V Qc) (hR : d + 1 ≤ R.frames ∧ 8 + (mX6_laws.2.2.1 + 11) + 40 * d ≤ R.locals) (hw : (st.map zcat).sum ≤ 8) (hf : ce + mc ≤ R.cells ∧ sl + ms ≤ R.slots) (kk : ∀ (v : Option zV) (S' : zH) (Rf' : zG) (V' : zE), Qc v S' Rf' V' → Wa X μ R Z (ce + mc) (sl + ms) (n + mc) S' (pc + 3) L (v.toList ++ st) Rf' V') : Wa X μ R Z ce sl n S (pc) L (a1 :: zR r :: st) Rf V :=
  wa_callV (k1 := 1) (as := [a1]) (ci := 6) hd (hμ ▸ lL_101) w_inst_X6_laws w_sel_X6_laws w_init_X6 w_code_X6_laws ⟨by decide +kernel, by decide +kernel, by decide +kernel⟩ rfl rfl hS rfl hC hR hw hf kk
theorem lX6_178 : Cond.methodLink RX6 178 yX5_fitsLaw ∈ lw_ok := lw_in 549 (by decide +kernel) (by decide +kernel)
theorem kX6_178 {d mc r : Nat} {Qc : zQ} {a1 a2 a3 a4 : zV} (hd : decode μ.2.1 pc = .ok (.invokevirtual 178, 3)) (hμ : μ.1.cls = RX6) (hS : S r = some (.inr 5)) (hC : Ct d mc ms mX5_fitsLaw [zR r, a1, a2, a3, a4] n S Rf V Qc) (hR : d + 1 ≤ R.frames ∧ 8 + (mX5_fitsLaw.2.2.1 + 11) + 40 * d ≤ R.locals) (hw : (st.map zcat).sum ≤ 8) (hf : ce + mc ≤ R.cells ∧ sl + ms ≤ R.slots) (kk : ∀ (v : Option zV) (S' : zH) (Rf' : zG) (V' : zE), Qc v S' Rf' V' → Wa X μ R Z (ce + mc) (sl + ms) (n + mc) S' (pc + 3) L (v.toList ++ st) Rf' V') : Wa X μ R Z ce sl n S (pc) L (a4 :: a3 :: a2 :: a1 :: zR r :: st) Rf V :=
  wa_callV (k1 := 4) (as := [a1, a2, a3, a4]) (ci := 5) hd (hμ ▸ lX6_178) w_inst_X5_fitsLaw w_sel_X5_fitsLaw w_init_X5 w_code_X5_fitsLaw ⟨by decide +kernel, by decide +kernel, by decide +kernel⟩ rfl rfl hS rfl hC hR hw hf kk
theorem lX5_65 : Cond.methodLink RX5 65 yX4_clearSnow ∈ lw_ok := lw_in 553 (by decide +kernel) (by decide +kernel)
theorem kX5_65 {d mc r : Nat} {Qc : zQ}  (hd : decode μ.2.1 pc = .ok (.invokevirtual 65, 3)) (hμ : μ.1.cls = RX5) (hS : S r = some (.inr 4)) (hC : Ct d mc ms mX4_clearSnow [zR r] n S Rf V Qc) (hR : d + 1 ≤ R.frames ∧ 8 + (mX4_clearSnow.2.2.1 + 11) + 40 * d ≤ R.locals) (hw : (st.map zcat).sum ≤ 8) (hf : ce + mc ≤ R.cells ∧ sl + ms ≤ R.slots) (kk : ∀ (v : Option zV) (S' : zH) (Rf' : zG) (V' : zE), Qc v S' Rf' V' → Wa X μ R Z (ce + mc) (sl + ms) (n + mc) S' (pc + 3) L (v.toList ++ st) Rf' V') : Wa X μ R Z ce sl n S (pc) L (zR r :: st) Rf V :=
  wa_callV (k1 := 0) (as := []) (ci := 4) hd (hμ ▸ lX5_65) w_inst_X4_clearSnow w_sel_X4_clearSnow w_init_X4 w_code_X4_clearSnow ⟨by decide +kernel, by decide +kernel, by decide +kernel⟩ rfl rfl hS rfl hC hR hw hf kk
theorem lX5_71 : Cond.methodLink RX5 71 yX4_speak ∈ lw_ok := lw_in 554 (by decide +kernel) (by decide +kernel)
theorem kX5_71 {d mc r : Nat} {Qc : zQ} {a1 a2 a3 : zV} (hd : decode μ.2.1 pc = .ok (.invokevirtual 71, 3)) (hμ : μ.1.cls = RX5) (hS : S r = some (.inr 4)) (hC : Ct d mc ms mX4_speak [zR r, a1, a2, a3] n S Rf V Qc) (hR : d + 1 ≤ R.frames ∧ 8 + (mX4_speak.2.2.1 + 11) + 40 * d ≤ R.locals) (hw : (st.map zcat).sum ≤ 8) (hf : ce + mc ≤ R.cells ∧ sl + ms ≤ R.slots) (kk : ∀ (v : Option zV) (S' : zH) (Rf' : zG) (V' : zE), Qc v S' Rf' V' → Wa X μ R Z (ce + mc) (sl + ms) (n + mc) S' (pc + 3) L (v.toList ++ st) Rf' V') : Wa X μ R Z ce sl n S (pc) L (a3 :: a2 :: a1 :: zR r :: st) Rf V :=
  wa_callV (k1 := 3) (as := [a1, a2, a3]) (ci := 4) hd (hμ ▸ lX5_71) w_inst_X4_speak w_sel_X4_speak w_init_X4 w_code_X4_speak ⟨by decide +kernel, by decide +kernel, by decide +kernel⟩ rfl rfl hS rfl hC hR hw hf kk
theorem lX5_78 : Cond.methodLink RX5 78 yX4_sightsHold ∈ lw_ok := lw_in 555 (by decide +kernel) (by decide +kernel)
theorem kX5_78 {d mc r : Nat} {Qc : zQ} {a1 : zV} (hd : decode μ.2.1 pc = .ok (.invokevirtual 78, 3)) (hμ : μ.1.cls = RX5) (hS : S r = some (.inr 4)) (hC : Ct d mc ms mX4_sightsHold [zR r, a1] n S Rf V Qc) (hR : d + 1 ≤ R.frames ∧ 8 + (mX4_sightsHold.2.2.1 + 11) + 40 * d ≤ R.locals) (hw : (st.map zcat).sum ≤ 8) (hf : ce + mc ≤ R.cells ∧ sl + ms ≤ R.slots) (kk : ∀ (v : Option zV) (S' : zH) (Rf' : zG) (V' : zE), Qc v S' Rf' V' → Wa X μ R Z (ce + mc) (sl + ms) (n + mc) S' (pc + 3) L (v.toList ++ st) Rf' V') : Wa X μ R Z ce sl n S (pc) L (a1 :: zR r :: st) Rf V :=
  wa_callV (k1 := 1) (as := [a1]) (ci := 4) hd (hμ ▸ lX5_78) w_inst_X4_sightsHold w_sel_X4_sightsHold w_init_X4 w_code_X4_sightsHold ⟨by decide +kernel, by decide +kernel, by decide +kernel⟩ rfl rfl hS rfl hC hR hw hf kk
theorem lL_105 : Cond.methodLink RL 105 yX6_guests ∈ lw_ok := lw_in 556 (by decide +kernel) (by decide +kernel)
theorem kL_105 {d mc r : Nat} {Qc : zQ} {a1 a2 a3 a4 : zV} (hd : decode μ.2.1 pc = .ok (.invokevirtual 105, 3)) (hμ : μ.1.cls = RL) (hS : S r = some (.inr 6)) (hC : Ct d mc ms mX6_guests [zR r, a1, a2, a3, a4] n S Rf V Qc) (hR : d + 1 ≤ R.frames ∧ 8 + (mX6_guests.2.2.1 + 11) + 40 * d ≤ R.locals) (hw : (st.map zcat).sum ≤ 8) (hf : ce + mc ≤ R.cells ∧ sl + ms ≤ R.slots) (kk : ∀ (v : Option zV) (S' : zH) (Rf' : zG) (V' : zE), Qc v S' Rf' V' → Wa X μ R Z (ce + mc) (sl + ms) (n + mc) S' (pc + 3) L (v.toList ++ st) Rf' V') : Wa X μ R Z ce sl n S (pc) L (a4 :: a3 :: a2 :: a1 :: zR r :: st) Rf V :=
  wa_callV (k1 := 4) (as := [a1, a2, a3, a4]) (ci := 6) hd (hμ ▸ lL_105) w_inst_X6_guests w_sel_X6_guests w_init_X6 w_code_X6_guests ⟨by decide +kernel, by decide +kernel, by decide +kernel⟩ rfl rfl hS rfl hC hR hw hf kk
theorem lX6_186 : Cond.methodLink RX6 186 yX4_bears ∈ lw_ok := lw_in 562 (by decide +kernel) (by decide +kernel)
theorem kX6_186 {d mc r : Nat} {Qc : zQ} {a1 a2 : zV} (hd : decode μ.2.1 pc = .ok (.invokevirtual 186, 3)) (hμ : μ.1.cls = RX6) (hS : S r = some (.inr 4)) (hC : Ct d mc ms mX4_bears [zR r, a1, a2] n S Rf V Qc) (hR : d + 1 ≤ R.frames ∧ 8 + (mX4_bears.2.2.1 + 11) + 40 * d ≤ R.locals) (hw : (st.map zcat).sum ≤ 8) (hf : ce + mc ≤ R.cells ∧ sl + ms ≤ R.slots) (kk : ∀ (v : Option zV) (S' : zH) (Rf' : zG) (V' : zE), Qc v S' Rf' V' → Wa X μ R Z (ce + mc) (sl + ms) (n + mc) S' (pc + 3) L (v.toList ++ st) Rf' V') : Wa X μ R Z ce sl n S (pc) L (a2 :: a1 :: zR r :: st) Rf V :=
  wa_callV (k1 := 2) (as := [a1, a2]) (ci := 4) hd (hμ ▸ lX6_186) w_inst_X4_bears w_sel_X4_bears w_init_X4 w_code_X4_bears ⟨by decide +kernel, by decide +kernel, by decide +kernel⟩ rfl rfl hS rfl hC hR hw hf kk
theorem lX6_190 : Cond.methodLink RX6 190 yX6_chanceOf ∈ lw_ok := lw_in 566 (by decide +kernel) (by decide +kernel)
theorem kX6_190 {d mc : Nat} {Qc : zQ} {a1 a2 a3 : zV} (hd : decode μ.2.1 pc = .ok (.invokestatic 190, 3)) (hμ : μ.1.cls = RX6) (hC : Ct d mc ms mX6_chanceOf [a1, a2, a3] n S Rf V Qc) (hR : d + 1 ≤ R.frames ∧ 8 + (mX6_chanceOf.2.2.1 + 11) + 40 * d ≤ R.locals) (hw : (st.map zcat).sum ≤ 8) (hf : ce + mc ≤ R.cells ∧ sl + ms ≤ R.slots) (kk : ∀ (v : Option zV) (S' : zH) (Rf' : zG) (V' : zE), Qc v S' Rf' V' → Wa X μ R Z (ce + mc) (sl + ms) (n + mc) S' (pc + 3) L (v.toList ++ st) Rf' V') : Wa X μ R Z ce sl n S (pc) L (a3 :: a2 :: a1 :: st) Rf V :=
  wa_callS (k1 := 3) hd (hμ ▸ lX6_190) w_stat_X6_chanceOf w_init_X6 w_code_X6_chanceOf ⟨by decide +kernel, by decide +kernel, by decide +kernel⟩ rfl rfl hC hR hw hf kk
theorem lX6_194 : Cond.methodLink RX6 194 yX6_power ∈ lw_ok := lw_in 569 (by decide +kernel) (by decide +kernel)
theorem kX6_194 {d mc : Nat} {Qc : zQ} {a1 a2 : zV} (hd : decode μ.2.1 pc = .ok (.invokestatic 194, 3)) (hμ : μ.1.cls = RX6) (hC : Ct d mc ms mX6_power [a1, a2] n S Rf V Qc) (hR : d + 1 ≤ R.frames ∧ 8 + (mX6_power.2.2.1 + 11) + 40 * d ≤ R.locals) (hw : (st.map zcat).sum ≤ 8) (hf : ce + mc ≤ R.cells ∧ sl + ms ≤ R.slots) (kk : ∀ (v : Option zV) (S' : zH) (Rf' : zG) (V' : zE), Qc v S' Rf' V' → Wa X μ R Z (ce + mc) (sl + ms) (n + mc) S' (pc + 3) L (v.toList ++ st) Rf' V') : Wa X μ R Z ce sl n S (pc) L (a2 :: a1 :: st) Rf V :=
  wa_callS (k1 := 2) hd (hμ ▸ lX6_194) w_stat_X6_power w_init_X6 w_code_X6_power ⟨by decide +kernel, by decide +kernel, by decide +kernel⟩ rfl rfl hC hR hw hf kk
theorem lX6_198 : Cond.methodLink RX6 198 yX6_commonDivisor ∈ lw_ok := lw_in 572 (by decide +kernel) (by decide +kernel)
theorem kX6_198 {d mc : Nat} {Qc : zQ} {a1 a2 : zV} (hd : decode μ.2.1 pc = .ok (.invokestatic 198, 3)) (hμ : μ.1.cls = RX6) (hC : Ct d mc ms mX6_commonDivisor [a1, a2] n S Rf V Qc) (hR : d + 1 ≤ R.frames ∧ 8 + (mX6_commonDivisor.2.2.1 + 11) + 40 * d ≤ R.locals) (hw : (st.map zcat).sum ≤ 8) (hf : ce + mc ≤ R.cells ∧ sl + ms ≤ R.slots) (kk : ∀ (v : Option zV) (S' : zH) (Rf' : zG) (V' : zE), Qc v S' Rf' V' → Wa X μ R Z (ce + mc) (sl + ms) (n + mc) S' (pc + 3) L (v.toList ++ st) Rf' V') : Wa X μ R Z ce sl n S (pc) L (a2 :: a1 :: st) Rf V :=
  wa_callS (k1 := 2) hd (hμ ▸ lX6_198) w_stat_X6_commonDivisor w_init_X6 w_code_X6_commonDivisor ⟨by decide +kernel, by decide +kernel, by decide +kernel⟩ rfl rfl hC hR hw hf kk
theorem lL_110 : Cond.methodLink RL 110 yX6_build ∈ lw_ok := lw_in 575 (by decide +kernel) (by decide +kernel)
theorem kL_110 {d mc r : Nat} {Qc : zQ} {a1 a2 a3 a4 a5 : zV} (hd : decode μ.2.1 pc = .ok (.invokevirtual 110, 3)) (hμ : μ.1.cls = RL) (hS : S r = some (.inr 6)) (hC : Ct d mc ms mX6_build [zR r, a1, a2, a3, a4, a5] n S Rf V Qc) (hR : d + 1 ≤ R.frames ∧ 8 + (mX6_build.2.2.1 + 11) + 40 * d ≤ R.locals) (hw : (st.map zcat).sum ≤ 8) (hf : ce + mc ≤ R.cells ∧ sl + ms ≤ R.slots) (kk : ∀ (v : Option zV) (S' : zH) (Rf' : zG) (V' : zE), Qc v S' Rf' V' → Wa X μ R Z (ce + mc) (sl + ms) (n + mc) S' (pc + 3) L (v.toList ++ st) Rf' V') : Wa X μ R Z ce sl n S (pc) L (a5 :: a4 :: a3 :: a2 :: a1 :: zR r :: st) Rf V :=
  wa_callV (k1 := 5) (as := [a1, a2, a3, a4, a5]) (ci := 6) hd (hμ ▸ lL_110) w_inst_X6_build w_sel_X6_build w_init_X6 w_code_X6_build ⟨by decide +kernel, by decide +kernel, by decide +kernel⟩ rfl rfl hS rfl hC hR hw hf kk
theorem lL_115 : Cond.methodLink RL 115 yX6_elsewhere ∈ lw_ok := lw_in 579 (by decide +kernel) (by decide +kernel)
theorem kL_115 {d mc r : Nat} {Qc : zQ} {a1 : zV} (hd : decode μ.2.1 pc = .ok (.invokevirtual 115, 3)) (hμ : μ.1.cls = RL) (hS : S r = some (.inr 6)) (hC : Ct d mc ms mX6_elsewhere [zR r, a1] n S Rf V Qc) (hR : d + 1 ≤ R.frames ∧ 8 + (mX6_elsewhere.2.2.1 + 11) + 40 * d ≤ R.locals) (hw : (st.map zcat).sum ≤ 8) (hf : ce + mc ≤ R.cells ∧ sl + ms ≤ R.slots) (kk : ∀ (v : Option zV) (S' : zH) (Rf' : zG) (V' : zE), Qc v S' Rf' V' → Wa X μ R Z (ce + mc) (sl + ms) (n + mc) S' (pc + 3) L (v.toList ++ st) Rf' V') : Wa X μ R Z ce sl n S (pc) L (a1 :: zR r :: st) Rf V :=
  wa_callV (k1 := 1) (as := [a1]) (ci := 6) hd (hμ ▸ lL_115) w_inst_X6_elsewhere w_sel_X6_elsewhere w_init_X6 w_code_X6_elsewhere ⟨by decide +kernel, by decide +kernel, by decide +kernel⟩ rfl rfl hS rfl hC hR hw hf kk
theorem lX6_202 : Cond.methodLink RX6 202 yX0_settle ∈ lw_ok := lw_in 583 (by decide +kernel) (by decide +kernel)
theorem kX6_202 {d mc r : Nat} {Qc : zQ} {a1 : zV} (hd : decode μ.2.1 pc = .ok (.invokevirtual 202, 3)) (hμ : μ.1.cls = RX6) (hS : S r = some (.inr 0)) (hC : Ct d mc ms mX0_settle [zR r, a1] n S Rf V Qc) (hR : d + 1 ≤ R.frames ∧ 8 + (mX0_settle.2.2.1 + 11) + 40 * d ≤ R.locals) (hw : (st.map zcat).sum ≤ 8) (hf : ce + mc ≤ R.cells ∧ sl + ms ≤ R.slots) (kk : ∀ (v : Option zV) (S' : zH) (Rf' : zG) (V' : zE), Qc v S' Rf' V' → Wa X μ R Z (ce + mc) (sl + ms) (n + mc) S' (pc + 3) L (v.toList ++ st) Rf' V') : Wa X μ R Z ce sl n S (pc) L (a1 :: zR r :: st) Rf V :=
  wa_callV (k1 := 1) (as := [a1]) (ci := 0) hd (hμ ▸ lX6_202) w_inst_X0_settle w_sel_X0_settle w_init_X0 w_code_X0_settle ⟨by decide +kernel, by decide +kernel, by decide +kernel⟩ rfl rfl hS rfl hC hR hw hf kk
theorem lX0_18 : Cond.methodLink RX0 18 yJ7_fill_53178 ∈ lw_ok := lw_in 587 (by decide +kernel) (by decide +kernel)
theorem kX0_18 {d mc : Nat} {Qc : zQ} {a1 a2 : zV} (hd : decode μ.2.1 pc = .ok (.invokestatic 18, 3)) (hμ : μ.1.cls = RX0) (hC : Ct d mc ms mJ7_fill_53178 [a1, a2] n S Rf V Qc) (hR : d + 1 ≤ R.frames ∧ 8 + (mJ7_fill_53178.2.2.1 + 11) + 40 * d ≤ R.locals) (hw : (st.map zcat).sum ≤ 8) (hf : ce + mc ≤ R.cells ∧ sl + ms ≤ R.slots) (kk : ∀ (v : Option zV) (S' : zH) (Rf' : zG) (V' : zE), Qc v S' Rf' V' → Wa X μ R Z (ce + mc) (sl + ms) (n + mc) S' (pc + 3) L (v.toList ++ st) Rf' V') : Wa X μ R Z ce sl n S (pc) L (a2 :: a1 :: st) Rf V :=
  wa_callS (k1 := 2) hd (hμ ▸ lX0_18) w_stat_J7_fill_53178 w_init_J7 w_code_J7_fill_53178 ⟨by decide +kernel, by decide +kernel, by decide +kernel⟩ rfl rfl hC hR hw hf kk
theorem lX0_24 : Cond.methodLink RX0 24 Lib.Math.max.name ∈ lw_ok := lw_in 588 (by decide +kernel) (by decide +kernel)
theorem lX0_30 : Cond.methodLink RX0 30 yX0_somebodyGoes ∈ lw_ok := lw_in 589 (by decide +kernel) (by decide +kernel)
theorem kX0_30 {d mc r : Nat} {Qc : zQ} {a1 : zV} (hd : decode μ.2.1 pc = .ok (.invokevirtual 30, 3)) (hμ : μ.1.cls = RX0) (hS : S r = some (.inr 0)) (hC : Ct d mc ms mX0_somebodyGoes [zR r, a1] n S Rf V Qc) (hR : d + 1 ≤ R.frames ∧ 8 + (mX0_somebodyGoes.2.2.1 + 11) + 40 * d ≤ R.locals) (hw : (st.map zcat).sum ≤ 8) (hf : ce + mc ≤ R.cells ∧ sl + ms ≤ R.slots) (kk : ∀ (v : Option zV) (S' : zH) (Rf' : zG) (V' : zE), Qc v S' Rf' V' → Wa X μ R Z (ce + mc) (sl + ms) (n + mc) S' (pc + 3) L (v.toList ++ st) Rf' V') : Wa X μ R Z ce sl n S (pc) L (a1 :: zR r :: st) Rf V :=
  wa_callV (k1 := 1) (as := [a1]) (ci := 0) hd (hμ ▸ lX0_30) w_inst_X0_somebodyGoes w_sel_X0_somebodyGoes w_init_X0 w_code_X0_somebodyGoes ⟨by decide +kernel, by decide +kernel, by decide +kernel⟩ rfl rfl hS rfl hC hR hw hf kk
theorem lX0_38 : Cond.methodLink RX0 38 yX0_emptiest ∈ lw_ok := lw_in 594 (by decide +kernel) (by decide +kernel)
theorem kX0_38 {d mc r : Nat} {Qc : zQ} {a1 a2 : zV} (hd : decode μ.2.1 pc = .ok (.invokevirtual 38, 3)) (hμ : μ.1.cls = RX0) (hS : S r = some (.inr 0)) (hC : Ct d mc ms mX0_emptiest [zR r, a1, a2] n S Rf V Qc) (hR : d + 1 ≤ R.frames ∧ 8 + (mX0_emptiest.2.2.1 + 11) + 40 * d ≤ R.locals) (hw : (st.map zcat).sum ≤ 8) (hf : ce + mc ≤ R.cells ∧ sl + ms ≤ R.slots) (kk : ∀ (v : Option zV) (S' : zH) (Rf' : zG) (V' : zE), Qc v S' Rf' V' → Wa X μ R Z (ce + mc) (sl + ms) (n + mc) S' (pc + 3) L (v.toList ++ st) Rf' V') : Wa X μ R Z ce sl n S (pc) L (a2 :: a1 :: zR r :: st) Rf V :=
  wa_callV (k1 := 2) (as := [a1, a2]) (ci := 0) hd (hμ ▸ lX0_38) w_inst_X0_emptiest w_sel_X0_emptiest w_init_X0 w_code_X0_emptiest ⟨by decide +kernel, by decide +kernel, by decide +kernel⟩ rfl rfl hS rfl hC hR hw hf kk
theorem lL_119 : Cond.methodLink RL 119 yX6_winter ∈ lw_ok := lw_in 598 (by decide +kernel) (by decide +kernel)
theorem kL_119 {d mc r : Nat} {Qc : zQ} {a1 a2 a3 : zV} (hd : decode μ.2.1 pc = .ok (.invokevirtual 119, 3)) (hμ : μ.1.cls = RL) (hS : S r = some (.inr 6)) (hC : Ct d mc ms mX6_winter [zR r, a1, a2, a3] n S Rf V Qc) (hR : d + 1 ≤ R.frames ∧ 8 + (mX6_winter.2.2.1 + 11) + 40 * d ≤ R.locals) (hw : (st.map zcat).sum ≤ 8) (hf : ce + mc ≤ R.cells ∧ sl + ms ≤ R.slots) (kk : ∀ (v : Option zV) (S' : zH) (Rf' : zG) (V' : zE), Qc v S' Rf' V' → Wa X μ R Z (ce + mc) (sl + ms) (n + mc) S' (pc + 3) L (v.toList ++ st) Rf' V') : Wa X μ R Z ce sl n S (pc) L (a3 :: a2 :: a1 :: zR r :: st) Rf V :=
  wa_callV (k1 := 3) (as := [a1, a2, a3]) (ci := 6) hd (hμ ▸ lL_119) w_inst_X6_winter w_sel_X6_winter w_init_X6 w_code_X6_winter ⟨by decide +kernel, by decide +kernel, by decide +kernel⟩ rfl rfl hS rfl hC hR hw hf kk
theorem lX6_209 : Cond.methodLink RX6 209 yX4_draw ∈ lw_ok := lw_in 603 (by decide +kernel) (by decide +kernel)
theorem kX6_209 {d mc r : Nat} {Qc : zQ} {a1 : zV} (hd : decode μ.2.1 pc = .ok (.invokevirtual 209, 3)) (hμ : μ.1.cls = RX6) (hS : S r = some (.inr 4)) (hC : Ct d mc ms mX4_draw [zR r, a1] n S Rf V Qc) (hR : d + 1 ≤ R.frames ∧ 8 + (mX4_draw.2.2.1 + 11) + 40 * d ≤ R.locals) (hw : (st.map zcat).sum ≤ 8) (hf : ce + mc ≤ R.cells ∧ sl + ms ≤ R.slots) (kk : ∀ (v : Option zV) (S' : zH) (Rf' : zG) (V' : zE), Qc v S' Rf' V' → Wa X μ R Z (ce + mc) (sl + ms) (n + mc) S' (pc + 3) L (v.toList ++ st) Rf' V') : Wa X μ R Z ce sl n S (pc) L (a1 :: zR r :: st) Rf V :=
  wa_callV (k1 := 1) (as := [a1]) (ci := 4) hd (hμ ▸ lX6_209) w_inst_X4_draw w_sel_X4_draw w_init_X4 w_code_X4_draw ⟨by decide +kernel, by decide +kernel, by decide +kernel⟩ rfl rfl hS rfl hC hR hw hf kk
theorem lX4_115 : Cond.methodLink RX4 115 yX4_tell ∈ lw_ok := lw_in 607 (by decide +kernel) (by decide +kernel)
theorem kX4_115 {d mc r : Nat} {Qc : zQ} {a1 a2 a3 : zV} (hd : decode μ.2.1 pc = .ok (.invokevirtual 115, 3)) (hμ : μ.1.cls = RX4) (hS : S r = some (.inr 4)) (hC : Ct d mc ms mX4_tell [zR r, a1, a2, a3] n S Rf V Qc) (hR : d + 1 ≤ R.frames ∧ 8 + (mX4_tell.2.2.1 + 11) + 40 * d ≤ R.locals) (hw : (st.map zcat).sum ≤ 8) (hf : ce + mc ≤ R.cells ∧ sl + ms ≤ R.slots) (kk : ∀ (v : Option zV) (S' : zH) (Rf' : zG) (V' : zE), Qc v S' Rf' V' → Wa X μ R Z (ce + mc) (sl + ms) (n + mc) S' (pc + 3) L (v.toList ++ st) Rf' V') : Wa X μ R Z ce sl n S (pc) L (a3 :: a2 :: a1 :: zR r :: st) Rf V :=
  wa_callV (k1 := 3) (as := [a1, a2, a3]) (ci := 4) hd (hμ ▸ lX4_115) w_inst_X4_tell w_sel_X4_tell w_init_X4 w_code_X4_tell ⟨by decide +kernel, by decide +kernel, by decide +kernel⟩ rfl rfl hS rfl hC hR hw hf kk
theorem lX6_212 : Cond.methodLink RX6 212 yX4_deepTogether ∈ lw_ok := lw_in 608 (by decide +kernel) (by decide +kernel)
theorem kX6_212 {d mc r : Nat} {Qc : zQ}  (hd : decode μ.2.1 pc = .ok (.invokevirtual 212, 3)) (hμ : μ.1.cls = RX6) (hS : S r = some (.inr 4)) (hC : Ct d mc ms mX4_deepTogether [zR r] n S Rf V Qc) (hR : d + 1 ≤ R.frames ∧ 8 + (mX4_deepTogether.2.2.1 + 11) + 40 * d ≤ R.locals) (hw : (st.map zcat).sum ≤ 8) (hf : ce + mc ≤ R.cells ∧ sl + ms ≤ R.slots) (kk : ∀ (v : Option zV) (S' : zH) (Rf' : zG) (V' : zE), Qc v S' Rf' V' → Wa X μ R Z (ce + mc) (sl + ms) (n + mc) S' (pc + 3) L (v.toList ++ st) Rf' V') : Wa X μ R Z ce sl n S (pc) L (zR r :: st) Rf V :=
  wa_callV (k1 := 0) (as := []) (ci := 4) hd (hμ ▸ lX6_212) w_inst_X4_deepTogether w_sel_X4_deepTogether w_init_X4 w_code_X4_deepTogether ⟨by decide +kernel, by decide +kernel, by decide +kernel⟩ rfl rfl hS rfl hC hR hw hf kk
theorem lL_123 : Cond.methodLink RL 123 yX6_image ∈ lw_ok := lw_in 612 (by decide +kernel) (by decide +kernel)
theorem kL_123 {d mc r : Nat} {Qc : zQ} {a1 : zV} (hd : decode μ.2.1 pc = .ok (.invokevirtual 123, 3)) (hμ : μ.1.cls = RL) (hS : S r = some (.inr 6)) (hC : Ct d mc ms mX6_image [zR r, a1] n S Rf V Qc) (hR : d + 1 ≤ R.frames ∧ 8 + (mX6_image.2.2.1 + 11) + 40 * d ≤ R.locals) (hw : (st.map zcat).sum ≤ 8) (hf : ce + mc ≤ R.cells ∧ sl + ms ≤ R.slots) (kk : ∀ (v : Option zV) (S' : zH) (Rf' : zG) (V' : zE), Qc v S' Rf' V' → Wa X μ R Z (ce + mc) (sl + ms) (n + mc) S' (pc + 3) L (v.toList ++ st) Rf' V') : Wa X μ R Z ce sl n S (pc) L (a1 :: zR r :: st) Rf V :=
  wa_callV (k1 := 1) (as := [a1]) (ci := 6) hd (hμ ▸ lL_123) w_inst_X6_image w_sel_X6_image w_init_X6 w_code_X6_image ⟨by decide +kernel, by decide +kernel, by decide +kernel⟩ rfl rfl hS rfl hC hR hw hf kk
theorem lL_127 : Cond.methodLink RL 127 yX6_restore ∈ lw_ok := lw_in 616 (by decide +kernel) (by decide +kernel)
theorem kL_127 {d mc r : Nat} {Qc : zQ} {a1 : zV} (hd : decode μ.2.1 pc = .ok (.invokevirtual 127, 3)) (hμ : μ.1.cls = RL) (hS : S r = some (.inr 6)) (hC : Ct d mc ms mX6_restore [zR r, a1] n S Rf V Qc) (hR : d + 1 ≤ R.frames ∧ 8 + (mX6_restore.2.2.1 + 11) + 40 * d ≤ R.locals) (hw : (st.map zcat).sum ≤ 8) (hf : ce + mc ≤ R.cells ∧ sl + ms ≤ R.slots) (kk : ∀ (v : Option zV) (S' : zH) (Rf' : zG) (V' : zE), Qc v S' Rf' V' → Wa X μ R Z (ce + mc) (sl + ms) (n + mc) S' (pc + 3) L (v.toList ++ st) Rf' V') : Wa X μ R Z ce sl n S (pc) L (a1 :: zR r :: st) Rf V :=
  wa_callV (k1 := 1) (as := [a1]) (ci := 6) hd (hμ ▸ lL_127) w_inst_X6_restore w_sel_X6_restore w_init_X6 w_code_X6_restore ⟨by decide +kernel, by decide +kernel, by decide +kernel⟩ rfl rfl hS rfl hC hR hw hf kk
theorem lL_131 : Cond.methodLink RL 131 yX6_told ∈ lw_ok := lw_in 620 (by decide +kernel) (by decide +kernel)
theorem kL_131 {d mc r : Nat} {Qc : zQ} {a1 : zV} (hd : decode μ.2.1 pc = .ok (.invokevirtual 131, 3)) (hμ : μ.1.cls = RL) (hS : S r = some (.inr 6)) (hC : Ct d mc ms mX6_told [zR r, a1] n S Rf V Qc) (hR : d + 1 ≤ R.frames ∧ 8 + (mX6_told.2.2.1 + 11) + 40 * d ≤ R.locals) (hw : (st.map zcat).sum ≤ 8) (hf : ce + mc ≤ R.cells ∧ sl + ms ≤ R.slots) (kk : ∀ (v : Option zV) (S' : zH) (Rf' : zG) (V' : zE), Qc v S' Rf' V' → Wa X μ R Z (ce + mc) (sl + ms) (n + mc) S' (pc + 3) L (v.toList ++ st) Rf' V') : Wa X μ R Z ce sl n S (pc) L (a1 :: zR r :: st) Rf V :=
  wa_callV (k1 := 1) (as := [a1]) (ci := 6) hd (hμ ▸ lL_131) w_inst_X6_told w_sel_X6_told w_init_X6 w_code_X6_told ⟨by decide +kernel, by decide +kernel, by decide +kernel⟩ rfl rfl hS rfl hC hR hw hf kk
theorem lL_12 : Cond.methodLink RL 12 yX7_init ∈ lw_ok := lw_in 626 (by decide +kernel) (by decide +kernel)
theorem kL_12 {d mc r : Nat} {Qc : zQ}  (hd : decode μ.2.1 pc = .ok (.invokespecial 12, 3)) (hμ : μ.1.cls = RL) (hC : Ct d mc ms mX7_init [zR r] n S Rf V Qc) (hR : d + 1 ≤ R.frames ∧ 8 + (mX7_init.2.2.1 + 11) + 40 * d ≤ R.locals) (hw : (st.map zcat).sum ≤ 8) (hf : ce + mc ≤ R.cells ∧ sl + ms ≤ R.slots) (kk : ∀ (v : Option zV) (S' : zH) (Rf' : zG) (V' : zE), Qc v S' Rf' V' → Wa X μ R Z (ce + mc) (sl + ms) (n + mc) S' (pc + 3) L (v.toList ++ st) Rf' V') : Wa X μ R Z ce sl n S (pc) L (zR r :: st) Rf V :=
  wa_callI (k1 := 0) (as := []) hd (hμ ▸ lL_12) w_inst_X7_init w_init_X7 w_code_X7_init rfl rfl ⟨by decide +kernel, by decide +kernel, by decide +kernel⟩ rfl rfl hC hR hw hf kk
theorem lX7_1 : Cond.methodLink RX7 1 Lib.objectInit ∈ lw_ok := lw_in 629 (by decide +kernel) (by decide +kernel)
theorem lX7_79 : Cond.methodLink RX7 79 yX7_clear ∈ lw_ok := lw_in 631 (by decide +kernel) (by decide +kernel)
theorem kX7_79 {d mc r : Nat} {Qc : zQ}  (hd : decode μ.2.1 pc = .ok (.invokevirtual 79, 3)) (hμ : μ.1.cls = RX7) (hS : S r = some (.inr 7)) (hC : Ct d mc ms mX7_clear [zR r] n S Rf V Qc) (hR : d + 1 ≤ R.frames ∧ 8 + (mX7_clear.2.2.1 + 11) + 40 * d ≤ R.locals) (hw : (st.map zcat).sum ≤ 8) (hf : ce + mc ≤ R.cells ∧ sl + ms ≤ R.slots) (kk : ∀ (v : Option zV) (S' : zH) (Rf' : zG) (V' : zE), Qc v S' Rf' V' → Wa X μ R Z (ce + mc) (sl + ms) (n + mc) S' (pc + 3) L (v.toList ++ st) Rf' V') : Wa X μ R Z ce sl n S (pc) L (zR r :: st) Rf V :=
  wa_callV (k1 := 0) (as := []) (ci := 7) hd (hμ ▸ lX7_79) w_inst_X7_clear w_sel_X7_clear w_init_X7 w_code_X7_clear ⟨by decide +kernel, by decide +kernel, by decide +kernel⟩ rfl rfl hS rfl hC hR hw hf kk
theorem lL_17 : Cond.methodLink RL 17 yX7_gardens ∈ lw_ok := lw_in 754 (by decide +kernel) (by decide +kernel)
theorem kL_17 {d mc r : Nat} {Qc : zQ} {a1 : zV} (hd : decode μ.2.1 pc = .ok (.invokevirtual 17, 3)) (hμ : μ.1.cls = RL) (hS : S r = some (.inr 7)) (hC : Ct d mc ms mX7_gardens [zR r, a1] n S Rf V Qc) (hR : d + 1 ≤ R.frames ∧ 8 + (mX7_gardens.2.2.1 + 11) + 40 * d ≤ R.locals) (hw : (st.map zcat).sum ≤ 8) (hf : ce + mc ≤ R.cells ∧ sl + ms ≤ R.slots) (kk : ∀ (v : Option zV) (S' : zH) (Rf' : zG) (V' : zE), Qc v S' Rf' V' → Wa X μ R Z (ce + mc) (sl + ms) (n + mc) S' (pc + 3) L (v.toList ++ st) Rf' V') : Wa X μ R Z ce sl n S (pc) L (a1 :: zR r :: st) Rf V :=
  wa_callV (k1 := 1) (as := [a1]) (ci := 7) hd (hμ ▸ lL_17) w_inst_X7_gardens w_sel_X7_gardens w_init_X7 w_code_X7_gardens ⟨by decide +kernel, by decide +kernel, by decide +kernel⟩ rfl rfl hS rfl hC hR hw hf kk
theorem lX7_91 : Cond.methodLink RX7 91 yX7_in ∈ lw_ok := lw_in 758 (by decide +kernel) (by decide +kernel)
theorem kX7_91 {d mc : Nat} {Qc : zQ} {a1 a2 a3 : zV} (hd : decode μ.2.1 pc = .ok (.invokestatic 91, 3)) (hμ : μ.1.cls = RX7) (hC : Ct d mc ms mX7_in [a1, a2, a3] n S Rf V Qc) (hR : d + 1 ≤ R.frames ∧ 8 + (mX7_in.2.2.1 + 11) + 40 * d ≤ R.locals) (hw : (st.map zcat).sum ≤ 8) (hf : ce + mc ≤ R.cells ∧ sl + ms ≤ R.slots) (kk : ∀ (v : Option zV) (S' : zH) (Rf' : zG) (V' : zE), Qc v S' Rf' V' → Wa X μ R Z (ce + mc) (sl + ms) (n + mc) S' (pc + 3) L (v.toList ++ st) Rf' V') : Wa X μ R Z ce sl n S (pc) L (a3 :: a2 :: a1 :: st) Rf V :=
  wa_callS (k1 := 3) hd (hμ ▸ lX7_91) w_stat_X7_in w_init_X7 w_code_X7_in ⟨by decide +kernel, by decide +kernel, by decide +kernel⟩ rfl rfl hC hR hw hf kk
theorem lL_22 : Cond.methodLink RL 22 yX7_garden ∈ lw_ok := lw_in 761 (by decide +kernel) (by decide +kernel)
theorem kL_22 {d mc r : Nat} {Qc : zQ} {a1 a2 a3 : zV} (hd : decode μ.2.1 pc = .ok (.invokevirtual 22, 3)) (hμ : μ.1.cls = RL) (hS : S r = some (.inr 7)) (hC : Ct d mc ms mX7_garden [zR r, a1, a2, a3] n S Rf V Qc) (hR : d + 1 ≤ R.frames ∧ 8 + (mX7_garden.2.2.1 + 11) + 40 * d ≤ R.locals) (hw : (st.map zcat).sum ≤ 8) (hf : ce + mc ≤ R.cells ∧ sl + ms ≤ R.slots) (kk : ∀ (v : Option zV) (S' : zH) (Rf' : zG) (V' : zE), Qc v S' Rf' V' → Wa X μ R Z (ce + mc) (sl + ms) (n + mc) S' (pc + 3) L (v.toList ++ st) Rf' V') : Wa X μ R Z ce sl n S (pc) L (a3 :: a2 :: a1 :: zR r :: st) Rf V :=
  wa_callV (k1 := 3) (as := [a1, a2, a3]) (ci := 7) hd (hμ ▸ lL_22) w_inst_X7_garden w_sel_X7_garden w_init_X7 w_code_X7_garden ⟨by decide +kernel, by decide +kernel, by decide +kernel⟩ rfl rfl hS rfl hC hR hw hf kk
theorem lX7_95 : Cond.methodLink RX7 95 yX7_isGarden ∈ lw_ok := lw_in 765 (by decide +kernel) (by decide +kernel)
theorem kX7_95 {d mc r : Nat} {Qc : zQ} {a1 : zV} (hd : decode μ.2.1 pc = .ok (.invokevirtual 95, 3)) (hμ : μ.1.cls = RX7) (hS : S r = some (.inr 7)) (hC : Ct d mc ms mX7_isGarden [zR r, a1] n S Rf V Qc) (hR : d + 1 ≤ R.frames ∧ 8 + (mX7_isGarden.2.2.1 + 11) + 40 * d ≤ R.locals) (hw : (st.map zcat).sum ≤ 8) (hf : ce + mc ≤ R.cells ∧ sl + ms ≤ R.slots) (kk : ∀ (v : Option zV) (S' : zH) (Rf' : zG) (V' : zE), Qc v S' Rf' V' → Wa X μ R Z (ce + mc) (sl + ms) (n + mc) S' (pc + 3) L (v.toList ++ st) Rf' V') : Wa X μ R Z ce sl n S (pc) L (a1 :: zR r :: st) Rf V :=
  wa_callV (k1 := 1) (as := [a1]) (ci := 7) hd (hμ ▸ lX7_95) w_inst_X7_isGarden w_sel_X7_isGarden w_init_X7 w_code_X7_isGarden ⟨by decide +kernel, by decide +kernel, by decide +kernel⟩ rfl rfl hS rfl hC hR hw hf kk
theorem lL_27 : Cond.methodLink RL 27 yX7_set ∈ lw_ok := lw_in 769 (by decide +kernel) (by decide +kernel)
theorem kL_27 {d mc r : Nat} {Qc : zQ} {a1 a2 : zV} (hd : decode μ.2.1 pc = .ok (.invokevirtual 27, 3)) (hμ : μ.1.cls = RL) (hS : S r = some (.inr 7)) (hC : Ct d mc ms mX7_set [zR r, a1, a2] n S Rf V Qc) (hR : d + 1 ≤ R.frames ∧ 8 + (mX7_set.2.2.1 + 11) + 40 * d ≤ R.locals) (hw : (st.map zcat).sum ≤ 8) (hf : ce + mc ≤ R.cells ∧ sl + ms ≤ R.slots) (kk : ∀ (v : Option zV) (S' : zH) (Rf' : zG) (V' : zE), Qc v S' Rf' V' → Wa X μ R Z (ce + mc) (sl + ms) (n + mc) S' (pc + 3) L (v.toList ++ st) Rf' V') : Wa X μ R Z ce sl n S (pc) L (a2 :: a1 :: zR r :: st) Rf V :=
  wa_callV (k1 := 2) (as := [a1, a2]) (ci := 7) hd (hμ ▸ lL_27) w_inst_X7_set w_sel_X7_set w_init_X7 w_code_X7_set ⟨by decide +kernel, by decide +kernel, by decide +kernel⟩ rfl rfl hS rfl hC hR hw hf kk
theorem lL_31 : Cond.methodLink RL 31 yX7_say ∈ lw_ok := lw_in 773 (by decide +kernel) (by decide +kernel)
theorem kL_31 {d mc r : Nat} {Qc : zQ} {a1 : zV} (hd : decode μ.2.1 pc = .ok (.invokevirtual 31, 3)) (hμ : μ.1.cls = RL) (hS : S r = some (.inr 7)) (hC : Ct d mc ms mX7_say [zR r, a1] n S Rf V Qc) (hR : d + 1 ≤ R.frames ∧ 8 + (mX7_say.2.2.1 + 11) + 40 * d ≤ R.locals) (hw : (st.map zcat).sum ≤ 8) (hf : ce + mc ≤ R.cells ∧ sl + ms ≤ R.slots) (kk : ∀ (v : Option zV) (S' : zH) (Rf' : zG) (V' : zE), Qc v S' Rf' V' → Wa X μ R Z (ce + mc) (sl + ms) (n + mc) S' (pc + 3) L (v.toList ++ st) Rf' V') : Wa X μ R Z ce sl n S (pc) L (a1 :: zR r :: st) Rf V :=
  wa_callV (k1 := 1) (as := [a1]) (ci := 7) hd (hμ ▸ lL_31) w_inst_X7_say w_sel_X7_say w_init_X7 w_code_X7_say ⟨by decide +kernel, by decide +kernel, by decide +kernel⟩ rfl rfl hS rfl hC hR hw hf kk
theorem lL_36 : Cond.methodLink RL 36 yX7_wipe ∈ lw_ok := lw_in 777 (by decide +kernel) (by decide +kernel)
theorem kL_36 {d mc r : Nat} {Qc : zQ}  (hd : decode μ.2.1 pc = .ok (.invokevirtual 36, 3)) (hμ : μ.1.cls = RL) (hS : S r = some (.inr 7)) (hC : Ct d mc ms mX7_wipe [zR r] n S Rf V Qc) (hR : d + 1 ≤ R.frames ∧ 8 + (mX7_wipe.2.2.1 + 11) + 40 * d ≤ R.locals) (hw : (st.map zcat).sum ≤ 8) (hf : ce + mc ≤ R.cells ∧ sl + ms ≤ R.slots) (kk : ∀ (v : Option zV) (S' : zH) (Rf' : zG) (V' : zE), Qc v S' Rf' V' → Wa X μ R Z (ce + mc) (sl + ms) (n + mc) S' (pc + 3) L (v.toList ++ st) Rf' V') : Wa X μ R Z ce sl n S (pc) L (zR r :: st) Rf V :=
  wa_callV (k1 := 0) (as := []) (ci := 7) hd (hμ ▸ lL_36) w_inst_X7_wipe w_sel_X7_wipe w_init_X7 w_code_X7_wipe ⟨by decide +kernel, by decide +kernel, by decide +kernel⟩ rfl rfl hS rfl hC hR hw hf kk
theorem lL_40 : Cond.methodLink RL 40 yX7_fault ∈ lw_ok := lw_in 781 (by decide +kernel) (by decide +kernel)
theorem kL_40 {d mc r : Nat} {Qc : zQ}  (hd : decode μ.2.1 pc = .ok (.invokevirtual 40, 3)) (hμ : μ.1.cls = RL) (hS : S r = some (.inr 7)) (hC : Ct d mc ms mX7_fault [zR r] n S Rf V Qc) (hR : d + 1 ≤ R.frames ∧ 8 + (mX7_fault.2.2.1 + 11) + 40 * d ≤ R.locals) (hw : (st.map zcat).sum ≤ 8) (hf : ce + mc ≤ R.cells ∧ sl + ms ≤ R.slots) (kk : ∀ (v : Option zV) (S' : zH) (Rf' : zG) (V' : zE), Qc v S' Rf' V' → Wa X μ R Z (ce + mc) (sl + ms) (n + mc) S' (pc + 3) L (v.toList ++ st) Rf' V') : Wa X μ R Z ce sl n S (pc) L (zR r :: st) Rf V :=
  wa_callV (k1 := 0) (as := []) (ci := 7) hd (hμ ▸ lL_40) w_inst_X7_fault w_sel_X7_fault w_init_X7 w_code_X7_fault ⟨by decide +kernel, by decide +kernel, by decide +kernel⟩ rfl rfl hS rfl hC hR hw hf kk
theorem lX7_102 : Cond.methodLink RX7 102 yX7_faultOf ∈ lw_ok := lw_in 785 (by decide +kernel) (by decide +kernel)
theorem kX7_102 {d mc r : Nat} {Qc : zQ}  (hd : decode μ.2.1 pc = .ok (.invokevirtual 102, 3)) (hμ : μ.1.cls = RX7) (hS : S r = some (.inr 7)) (hC : Ct d mc ms mX7_faultOf [zR r] n S Rf V Qc) (hR : d + 1 ≤ R.frames ∧ 8 + (mX7_faultOf.2.2.1 + 11) + 40 * d ≤ R.locals) (hw : (st.map zcat).sum ≤ 8) (hf : ce + mc ≤ R.cells ∧ sl + ms ≤ R.slots) (kk : ∀ (v : Option zV) (S' : zH) (Rf' : zG) (V' : zE), Qc v S' Rf' V' → Wa X μ R Z (ce + mc) (sl + ms) (n + mc) S' (pc + 3) L (v.toList ++ st) Rf' V') : Wa X μ R Z ce sl n S (pc) L (zR r :: st) Rf V :=
  wa_callV (k1 := 0) (as := []) (ci := 7) hd (hμ ▸ lX7_102) w_inst_X7_faultOf w_sel_X7_faultOf w_init_X7 w_code_X7_faultOf ⟨by decide +kernel, by decide +kernel, by decide +kernel⟩ rfl rfl hS rfl hC hR hw hf kk
theorem lL_44 : Cond.methodLink RL 44 yX7_judge ∈ lw_ok := lw_in 789 (by decide +kernel) (by decide +kernel)
theorem kL_44 {d mc r : Nat} {Qc : zQ} {a1 : zV} (hd : decode μ.2.1 pc = .ok (.invokevirtual 44, 3)) (hμ : μ.1.cls = RL) (hS : S r = some (.inr 7)) (hC : Ct d mc ms mX7_judge [zR r, a1] n S Rf V Qc) (hR : d + 1 ≤ R.frames ∧ 8 + (mX7_judge.2.2.1 + 11) + 40 * d ≤ R.locals) (hw : (st.map zcat).sum ≤ 8) (hf : ce + mc ≤ R.cells ∧ sl + ms ≤ R.slots) (kk : ∀ (v : Option zV) (S' : zH) (Rf' : zG) (V' : zE), Qc v S' Rf' V' → Wa X μ R Z (ce + mc) (sl + ms) (n + mc) S' (pc + 3) L (v.toList ++ st) Rf' V') : Wa X μ R Z ce sl n S (pc) L (a1 :: zR r :: st) Rf V :=
  wa_callV (k1 := 1) (as := [a1]) (ci := 7) hd (hμ ▸ lL_44) w_inst_X7_judge w_sel_X7_judge w_init_X7 w_code_X7_judge ⟨by decide +kernel, by decide +kernel, by decide +kernel⟩ rfl rfl hS rfl hC hR hw hf kk
theorem lX7_168 : Cond.methodLink RX7 168 yX7_asNow ∈ lw_ok := lw_in 793 (by decide +kernel) (by decide +kernel)
theorem kX7_168 {d mc r : Nat} {Qc : zQ}  (hd : decode μ.2.1 pc = .ok (.invokevirtual 168, 3)) (hμ : μ.1.cls = RX7) (hS : S r = some (.inr 7)) (hC : Ct d mc ms mX7_asNow [zR r] n S Rf V Qc) (hR : d + 1 ≤ R.frames ∧ 8 + (mX7_asNow.2.2.1 + 11) + 40 * d ≤ R.locals) (hw : (st.map zcat).sum ≤ 8) (hf : ce + mc ≤ R.cells ∧ sl + ms ≤ R.slots) (kk : ∀ (v : Option zV) (S' : zH) (Rf' : zG) (V' : zE), Qc v S' Rf' V' → Wa X μ R Z (ce + mc) (sl + ms) (n + mc) S' (pc + 3) L (v.toList ++ st) Rf' V') : Wa X μ R Z ce sl n S (pc) L (zR r :: st) Rf V :=
  wa_callV (k1 := 0) (as := []) (ci := 7) hd (hμ ▸ lX7_168) w_inst_X7_asNow w_sel_X7_asNow w_init_X7 w_code_X7_asNow ⟨by decide +kernel, by decide +kernel, by decide +kernel⟩ rfl rfl hS rfl hC hR hw hf kk
theorem lX7_171 : Cond.methodLink RX7 171 yX7_goTalk ∈ lw_ok := lw_in 797 (by decide +kernel) (by decide +kernel)
theorem kX7_171 {d mc r : Nat} {Qc : zQ} {a1 : zV} (hd : decode μ.2.1 pc = .ok (.invokevirtual 171, 3)) (hμ : μ.1.cls = RX7) (hS : S r = some (.inr 7)) (hC : Ct d mc ms mX7_goTalk [zR r, a1] n S Rf V Qc) (hR : d + 1 ≤ R.frames ∧ 8 + (mX7_goTalk.2.2.1 + 11) + 40 * d ≤ R.locals) (hw : (st.map zcat).sum ≤ 8) (hf : ce + mc ≤ R.cells ∧ sl + ms ≤ R.slots) (kk : ∀ (v : Option zV) (S' : zH) (Rf' : zG) (V' : zE), Qc v S' Rf' V' → Wa X μ R Z (ce + mc) (sl + ms) (n + mc) S' (pc + 3) L (v.toList ++ st) Rf' V') : Wa X μ R Z ce sl n S (pc) L (a1 :: zR r :: st) Rf V :=
  wa_callV (k1 := 1) (as := [a1]) (ci := 7) hd (hμ ▸ lX7_171) w_inst_X7_goTalk w_sel_X7_goTalk w_init_X7 w_code_X7_goTalk ⟨by decide +kernel, by decide +kernel, by decide +kernel⟩ rfl rfl hS rfl hC hR hw hf kk
theorem lX7_146 : Cond.methodLink RX7 146 yX7_night ∈ lw_ok := lw_in 801 (by decide +kernel) (by decide +kernel)
theorem kX7_146 {d mc r : Nat} {Qc : zQ}  (hd : decode μ.2.1 pc = .ok (.invokevirtual 146, 3)) (hμ : μ.1.cls = RX7) (hS : S r = some (.inr 7)) (hC : Ct d mc ms mX7_night [zR r] n S Rf V Qc) (hR : d + 1 ≤ R.frames ∧ 8 + (mX7_night.2.2.1 + 11) + 40 * d ≤ R.locals) (hw : (st.map zcat).sum ≤ 8) (hf : ce + mc ≤ R.cells ∧ sl + ms ≤ R.slots) (kk : ∀ (v : Option zV) (S' : zH) (Rf' : zG) (V' : zE), Qc v S' Rf' V' → Wa X μ R Z (ce + mc) (sl + ms) (n + mc) S' (pc + 3) L (v.toList ++ st) Rf' V') : Wa X μ R Z ce sl n S (pc) L (zR r :: st) Rf V :=
  wa_callV (k1 := 0) (as := []) (ci := 7) hd (hμ ▸ lX7_146) w_inst_X7_night w_sel_X7_night w_init_X7 w_code_X7_night ⟨by decide +kernel, by decide +kernel, by decide +kernel⟩ rfl rfl hS rfl hC hR hw hf kk
theorem lX7_149 : Cond.methodLink RX7 149 yX7_thaw ∈ lw_ok := lw_in 805 (by decide +kernel) (by decide +kernel)
theorem kX7_149 {d mc r : Nat} {Qc : zQ}  (hd : decode μ.2.1 pc = .ok (.invokevirtual 149, 3)) (hμ : μ.1.cls = RX7) (hS : S r = some (.inr 7)) (hC : Ct d mc ms mX7_thaw [zR r] n S Rf V Qc) (hR : d + 1 ≤ R.frames ∧ 8 + (mX7_thaw.2.2.1 + 11) + 40 * d ≤ R.locals) (hw : (st.map zcat).sum ≤ 8) (hf : ce + mc ≤ R.cells ∧ sl + ms ≤ R.slots) (kk : ∀ (v : Option zV) (S' : zH) (Rf' : zG) (V' : zE), Qc v S' Rf' V' → Wa X μ R Z (ce + mc) (sl + ms) (n + mc) S' (pc + 3) L (v.toList ++ st) Rf' V') : Wa X μ R Z ce sl n S (pc) L (zR r :: st) Rf V :=
  wa_callV (k1 := 0) (as := []) (ci := 7) hd (hμ ▸ lX7_149) w_inst_X7_thaw w_sel_X7_thaw w_init_X7 w_code_X7_thaw ⟨by decide +kernel, by decide +kernel, by decide +kernel⟩ rfl rfl hS rfl hC hR hw hf kk
theorem lX7_152 : Cond.methodLink RX7 152 yX7_isBare ∈ lw_ok := lw_in 809 (by decide +kernel) (by decide +kernel)
theorem kX7_152 {d mc r : Nat} {Qc : zQ} {a1 : zV} (hd : decode μ.2.1 pc = .ok (.invokevirtual 152, 3)) (hμ : μ.1.cls = RX7) (hS : S r = some (.inr 7)) (hC : Ct d mc ms mX7_isBare [zR r, a1] n S Rf V Qc) (hR : d + 1 ≤ R.frames ∧ 8 + (mX7_isBare.2.2.1 + 11) + 40 * d ≤ R.locals) (hw : (st.map zcat).sum ≤ 8) (hf : ce + mc ≤ R.cells ∧ sl + ms ≤ R.slots) (kk : ∀ (v : Option zV) (S' : zH) (Rf' : zG) (V' : zE), Qc v S' Rf' V' → Wa X μ R Z (ce + mc) (sl + ms) (n + mc) S' (pc + 3) L (v.toList ++ st) Rf' V') : Wa X μ R Z ce sl n S (pc) L (a1 :: zR r :: st) Rf V :=
  wa_callV (k1 := 1) (as := [a1]) (ci := 7) hd (hμ ▸ lX7_152) w_inst_X7_isBare w_sel_X7_isBare w_init_X7 w_code_X7_isBare ⟨by decide +kernel, by decide +kernel, by decide +kernel⟩ rfl rfl hS rfl hC hR hw hf kk
theorem lX7_155 : Cond.methodLink RX7 155 yX7_salt ∈ lw_ok := lw_in 813 (by decide +kernel) (by decide +kernel)
theorem kX7_155 {d mc r : Nat} {Qc : zQ} {a1 : zV} (hd : decode μ.2.1 pc = .ok (.invokevirtual 155, 3)) (hμ : μ.1.cls = RX7) (hS : S r = some (.inr 7)) (hC : Ct d mc ms mX7_salt [zR r, a1] n S Rf V Qc) (hR : d + 1 ≤ R.frames ∧ 8 + (mX7_salt.2.2.1 + 11) + 40 * d ≤ R.locals) (hw : (st.map zcat).sum ≤ 8) (hf : ce + mc ≤ R.cells ∧ sl + ms ≤ R.slots) (kk : ∀ (v : Option zV) (S' : zH) (Rf' : zG) (V' : zE), Qc v S' Rf' V' → Wa X μ R Z (ce + mc) (sl + ms) (n + mc) S' (pc + 3) L (v.toList ++ st) Rf' V') : Wa X μ R Z ce sl n S (pc) L (a1 :: zR r :: st) Rf V :=
  wa_callV (k1 := 1) (as := [a1]) (ci := 7) hd (hμ ▸ lX7_155) w_inst_X7_salt w_sel_X7_salt w_init_X7 w_code_X7_salt ⟨by decide +kernel, by decide +kernel, by decide +kernel⟩ rfl rfl hS rfl hC hR hw hf kk
theorem lX7_129 : Cond.methodLink RX7 129 yX7_less ∈ lw_ok := lw_in 817 (by decide +kernel) (by decide +kernel)
theorem kX7_129 {d mc : Nat} {Qc : zQ} {a1 a2 : zV} (hd : decode μ.2.1 pc = .ok (.invokestatic 129, 3)) (hμ : μ.1.cls = RX7) (hC : Ct d mc ms mX7_less [a1, a2] n S Rf V Qc) (hR : d + 1 ≤ R.frames ∧ 8 + (mX7_less.2.2.1 + 11) + 40 * d ≤ R.locals) (hw : (st.map zcat).sum ≤ 8) (hf : ce + mc ≤ R.cells ∧ sl + ms ≤ R.slots) (kk : ∀ (v : Option zV) (S' : zH) (Rf' : zG) (V' : zE), Qc v S' Rf' V' → Wa X μ R Z (ce + mc) (sl + ms) (n + mc) S' (pc + 3) L (v.toList ++ st) Rf' V') : Wa X μ R Z ce sl n S (pc) L (a2 :: a1 :: st) Rf V :=
  wa_callS (k1 := 2) hd (hμ ▸ lX7_129) w_stat_X7_less w_init_X7 w_code_X7_less ⟨by decide +kernel, by decide +kernel, by decide +kernel⟩ rfl rfl hC hR hw hf kk
theorem lX7_159 : Cond.methodLink RX7 159 yX7_whyNot ∈ lw_ok := lw_in 820 (by decide +kernel) (by decide +kernel)
theorem kX7_159 {d mc r : Nat} {Qc : zQ} {a1 a2 a3 : zV} (hd : decode μ.2.1 pc = .ok (.invokevirtual 159, 3)) (hμ : μ.1.cls = RX7) (hS : S r = some (.inr 7)) (hC : Ct d mc ms mX7_whyNot [zR r, a1, a2, a3] n S Rf V Qc) (hR : d + 1 ≤ R.frames ∧ 8 + (mX7_whyNot.2.2.1 + 11) + 40 * d ≤ R.locals) (hw : (st.map zcat).sum ≤ 8) (hf : ce + mc ≤ R.cells ∧ sl + ms ≤ R.slots) (kk : ∀ (v : Option zV) (S' : zH) (Rf' : zG) (V' : zE), Qc v S' Rf' V' → Wa X μ R Z (ce + mc) (sl + ms) (n + mc) S' (pc + 3) L (v.toList ++ st) Rf' V') : Wa X μ R Z ce sl n S (pc) L (a3 :: a2 :: a1 :: zR r :: st) Rf V :=
  wa_callV (k1 := 3) (as := [a1, a2, a3]) (ci := 7) hd (hμ ▸ lX7_159) w_inst_X7_whyNot w_sel_X7_whyNot w_init_X7 w_code_X7_whyNot ⟨by decide +kernel, by decide +kernel, by decide +kernel⟩ rfl rfl hS rfl hC hR hw hf kk
theorem lX7_125 : Cond.methodLink RX7 125 yX7_flakesOf ∈ lw_ok := lw_in 824 (by decide +kernel) (by decide +kernel)
theorem kX7_125 {d mc r : Nat} {Qc : zQ} {a1 a2 a3 : zV} (hd : decode μ.2.1 pc = .ok (.invokevirtual 125, 3)) (hμ : μ.1.cls = RX7) (hS : S r = some (.inr 7)) (hC : Ct d mc ms mX7_flakesOf [zR r, a1, a2, a3] n S Rf V Qc) (hR : d + 1 ≤ R.frames ∧ 8 + (mX7_flakesOf.2.2.1 + 11) + 40 * d ≤ R.locals) (hw : (st.map zcat).sum ≤ 8) (hf : ce + mc ≤ R.cells ∧ sl + ms ≤ R.slots) (kk : ∀ (v : Option zV) (S' : zH) (Rf' : zG) (V' : zE), Qc v S' Rf' V' → Wa X μ R Z (ce + mc) (sl + ms) (n + mc) S' (pc + 3) L (v.toList ++ st) Rf' V') : Wa X μ R Z ce sl n S (pc) L (a3 :: a2 :: a1 :: zR r :: st) Rf V :=
  wa_callV (k1 := 3) (as := [a1, a2, a3]) (ci := 7) hd (hμ ▸ lX7_125) w_inst_X7_flakesOf w_sel_X7_flakesOf w_init_X7 w_code_X7_flakesOf ⟨by decide +kernel, by decide +kernel, by decide +kernel⟩ rfl rfl hS rfl hC hR hw hf kk
theorem lX7_121 : Cond.methodLink RX7 121 yX7_has ∈ lw_ok := lw_in 828 (by decide +kernel) (by decide +kernel)
theorem kX7_121 {d mc : Nat} {Qc : zQ} {a1 a2 : zV} (hd : decode μ.2.1 pc = .ok (.invokestatic 121, 3)) (hμ : μ.1.cls = RX7) (hC : Ct d mc ms mX7_has [a1, a2] n S Rf V Qc) (hR : d + 1 ≤ R.frames ∧ 8 + (mX7_has.2.2.1 + 11) + 40 * d ≤ R.locals) (hw : (st.map zcat).sum ≤ 8) (hf : ce + mc ≤ R.cells ∧ sl + ms ≤ R.slots) (kk : ∀ (v : Option zV) (S' : zH) (Rf' : zG) (V' : zE), Qc v S' Rf' V' → Wa X μ R Z (ce + mc) (sl + ms) (n + mc) S' (pc + 3) L (v.toList ++ st) Rf' V') : Wa X μ R Z ce sl n S (pc) L (a2 :: a1 :: st) Rf V :=
  wa_callS (k1 := 2) hd (hμ ▸ lX7_121) w_stat_X7_has w_init_X7 w_code_X7_has ⟨by decide +kernel, by decide +kernel, by decide +kernel⟩ rfl rfl hC hR hw hf kk
theorem lX7_162 : Cond.methodLink RX7 162 yX7_speak ∈ lw_ok := lw_in 831 (by decide +kernel) (by decide +kernel)
theorem kX7_162 {d mc r : Nat} {Qc : zQ} {a1 a2 a3 : zV} (hd : decode μ.2.1 pc = .ok (.invokevirtual 162, 3)) (hμ : μ.1.cls = RX7) (hS : S r = some (.inr 7)) (hC : Ct d mc ms mX7_speak [zR r, a1, a2, a3] n S Rf V Qc) (hR : d + 1 ≤ R.frames ∧ 8 + (mX7_speak.2.2.1 + 11) + 40 * d ≤ R.locals) (hw : (st.map zcat).sum ≤ 8) (hf : ce + mc ≤ R.cells ∧ sl + ms ≤ R.slots) (kk : ∀ (v : Option zV) (S' : zH) (Rf' : zG) (V' : zE), Qc v S' Rf' V' → Wa X μ R Z (ce + mc) (sl + ms) (n + mc) S' (pc + 3) L (v.toList ++ st) Rf' V') : Wa X μ R Z ce sl n S (pc) L (a3 :: a2 :: a1 :: zR r :: st) Rf V :=
  wa_callV (k1 := 3) (as := [a1, a2, a3]) (ci := 7) hd (hμ ▸ lX7_162) w_inst_X7_speak w_sel_X7_speak w_init_X7 w_code_X7_speak ⟨by decide +kernel, by decide +kernel, by decide +kernel⟩ rfl rfl hS rfl hC hR hw hf kk
theorem lX7_133 : Cond.methodLink RX7 133 yX7_snow ∈ lw_ok := lw_in 835 (by decide +kernel) (by decide +kernel)
theorem kX7_133 {d mc r : Nat} {Qc : zQ} {a1 a2 a3 : zV} (hd : decode μ.2.1 pc = .ok (.invokevirtual 133, 3)) (hμ : μ.1.cls = RX7) (hS : S r = some (.inr 7)) (hC : Ct d mc ms mX7_snow [zR r, a1, a2, a3] n S Rf V Qc) (hR : d + 1 ≤ R.frames ∧ 8 + (mX7_snow.2.2.1 + 11) + 40 * d ≤ R.locals) (hw : (st.map zcat).sum ≤ 8) (hf : ce + mc ≤ R.cells ∧ sl + ms ≤ R.slots) (kk : ∀ (v : Option zV) (S' : zH) (Rf' : zG) (V' : zE), Qc v S' Rf' V' → Wa X μ R Z (ce + mc) (sl + ms) (n + mc) S' (pc + 3) L (v.toList ++ st) Rf' V') : Wa X μ R Z ce sl n S (pc) L (a3 :: a2 :: a1 :: zR r :: st) Rf V :=
  wa_callV (k1 := 3) (as := [a1, a2, a3]) (ci := 7) hd (hμ ▸ lX7_133) w_inst_X7_snow w_sel_X7_snow w_init_X7 w_code_X7_snow ⟨by decide +kernel, by decide +kernel, by decide +kernel⟩ rfl rfl hS rfl hC hR hw hf kk
theorem lX7_165 : Cond.methodLink RX7 165 yX7_collapse ∈ lw_ok := lw_in 839 (by decide +kernel) (by decide +kernel)
theorem kX7_165 {d mc r : Nat} {Qc : zQ}  (hd : decode μ.2.1 pc = .ok (.invokevirtual 165, 3)) (hμ : μ.1.cls = RX7) (hS : S r = some (.inr 7)) (hC : Ct d mc ms mX7_collapse [zR r] n S Rf V Qc) (hR : d + 1 ≤ R.frames ∧ 8 + (mX7_collapse.2.2.1 + 11) + 40 * d ≤ R.locals) (hw : (st.map zcat).sum ≤ 8) (hf : ce + mc ≤ R.cells ∧ sl + ms ≤ R.slots) (kk : ∀ (v : Option zV) (S' : zH) (Rf' : zG) (V' : zE), Qc v S' Rf' V' → Wa X μ R Z (ce + mc) (sl + ms) (n + mc) S' (pc + 3) L (v.toList ++ st) Rf' V') : Wa X μ R Z ce sl n S (pc) L (zR r :: st) Rf V :=
  wa_callV (k1 := 0) (as := []) (ci := 7) hd (hμ ▸ lX7_165) w_inst_X7_collapse w_sel_X7_collapse w_init_X7 w_code_X7_collapse ⟨by decide +kernel, by decide +kernel, by decide +kernel⟩ rfl rfl hS rfl hC hR hw hf kk
theorem lL_48 : Cond.methodLink RL 48 yX7_done ∈ lw_ok := lw_in 843 (by decide +kernel) (by decide +kernel)
theorem kL_48 {d mc r : Nat} {Qc : zQ}  (hd : decode μ.2.1 pc = .ok (.invokevirtual 48, 3)) (hμ : μ.1.cls = RL) (hS : S r = some (.inr 7)) (hC : Ct d mc ms mX7_done [zR r] n S Rf V Qc) (hR : d + 1 ≤ R.frames ∧ 8 + (mX7_done.2.2.1 + 11) + 40 * d ≤ R.locals) (hw : (st.map zcat).sum ≤ 8) (hf : ce + mc ≤ R.cells ∧ sl + ms ≤ R.slots) (kk : ∀ (v : Option zV) (S' : zH) (Rf' : zG) (V' : zE), Qc v S' Rf' V' → Wa X μ R Z (ce + mc) (sl + ms) (n + mc) S' (pc + 3) L (v.toList ++ st) Rf' V') : Wa X μ R Z ce sl n S (pc) L (zR r :: st) Rf V :=
  wa_callV (k1 := 0) (as := []) (ci := 7) hd (hμ ▸ lL_48) w_inst_X7_done w_sel_X7_done w_init_X7 w_code_X7_done ⟨by decide +kernel, by decide +kernel, by decide +kernel⟩ rfl rfl hS rfl hC hR hw hf kk
theorem lX7_175 : Cond.methodLink RX7 175 yX7_barOfTalk ∈ lw_ok := lw_in 847 (by decide +kernel) (by decide +kernel)
theorem kX7_175 {d mc r : Nat} {Qc : zQ}  (hd : decode μ.2.1 pc = .ok (.invokevirtual 175, 3)) (hμ : μ.1.cls = RX7) (hS : S r = some (.inr 7)) (hC : Ct d mc ms mX7_barOfTalk [zR r] n S Rf V Qc) (hR : d + 1 ≤ R.frames ∧ 8 + (mX7_barOfTalk.2.2.1 + 11) + 40 * d ≤ R.locals) (hw : (st.map zcat).sum ≤ 8) (hf : ce + mc ≤ R.cells ∧ sl + ms ≤ R.slots) (kk : ∀ (v : Option zV) (S' : zH) (Rf' : zG) (V' : zE), Qc v S' Rf' V' → Wa X μ R Z (ce + mc) (sl + ms) (n + mc) S' (pc + 3) L (v.toList ++ st) Rf' V') : Wa X μ R Z ce sl n S (pc) L (zR r :: st) Rf V :=
  wa_callV (k1 := 0) (as := []) (ci := 7) hd (hμ ▸ lX7_175) w_inst_X7_barOfTalk w_sel_X7_barOfTalk w_init_X7 w_code_X7_barOfTalk ⟨by decide +kernel, by decide +kernel, by decide +kernel⟩ rfl rfl hS rfl hC hR hw hf kk
theorem lL_52 : Cond.methodLink RL 52 yX7_state ∈ lw_ok := lw_in 851 (by decide +kernel) (by decide +kernel)
theorem kL_52 {d mc r : Nat} {Qc : zQ} {a1 a2 : zV} (hd : decode μ.2.1 pc = .ok (.invokevirtual 52, 3)) (hμ : μ.1.cls = RL) (hS : S r = some (.inr 7)) (hC : Ct d mc ms mX7_state [zR r, a1, a2] n S Rf V Qc) (hR : d + 1 ≤ R.frames ∧ 8 + (mX7_state.2.2.1 + 11) + 40 * d ≤ R.locals) (hw : (st.map zcat).sum ≤ 8) (hf : ce + mc ≤ R.cells ∧ sl + ms ≤ R.slots) (kk : ∀ (v : Option zV) (S' : zH) (Rf' : zG) (V' : zE), Qc v S' Rf' V' → Wa X μ R Z (ce + mc) (sl + ms) (n + mc) S' (pc + 3) L (v.toList ++ st) Rf' V') : Wa X μ R Z ce sl n S (pc) L (a2 :: a1 :: zR r :: st) Rf V :=
  wa_callV (k1 := 2) (as := [a1, a2]) (ci := 7) hd (hμ ▸ lL_52) w_inst_X7_state w_sel_X7_state w_init_X7 w_code_X7_state ⟨by decide +kernel, by decide +kernel, by decide +kernel⟩ rfl rfl hS rfl hC hR hw hf kk
theorem lL_56 : Cond.methodLink RL 56 yX7_behind ∈ lw_ok := lw_in 855 (by decide +kernel) (by decide +kernel)
theorem kL_56 {d mc r : Nat} {Qc : zQ} {a1 a2 : zV} (hd : decode μ.2.1 pc = .ok (.invokevirtual 56, 3)) (hμ : μ.1.cls = RL) (hS : S r = some (.inr 7)) (hC : Ct d mc ms mX7_behind [zR r, a1, a2] n S Rf V Qc) (hR : d + 1 ≤ R.frames ∧ 8 + (mX7_behind.2.2.1 + 11) + 40 * d ≤ R.locals) (hw : (st.map zcat).sum ≤ 8) (hf : ce + mc ≤ R.cells ∧ sl + ms ≤ R.slots) (kk : ∀ (v : Option zV) (S' : zH) (Rf' : zG) (V' : zE), Qc v S' Rf' V' → Wa X μ R Z (ce + mc) (sl + ms) (n + mc) S' (pc + 3) L (v.toList ++ st) Rf' V') : Wa X μ R Z ce sl n S (pc) L (a2 :: a1 :: zR r :: st) Rf V :=
  wa_callV (k1 := 2) (as := [a1, a2]) (ci := 7) hd (hμ ▸ lL_56) w_inst_X7_behind w_sel_X7_behind w_init_X7 w_code_X7_behind ⟨by decide +kernel, by decide +kernel, by decide +kernel⟩ rfl rfl hS rfl hC hR hw hf kk
theorem lL_60 : Cond.methodLink RL 60 yX7_first ∈ lw_ok := lw_in 859 (by decide +kernel) (by decide +kernel)
theorem kL_60 {d mc r : Nat} {Qc : zQ}  (hd : decode μ.2.1 pc = .ok (.invokevirtual 60, 3)) (hμ : μ.1.cls = RL) (hS : S r = some (.inr 7)) (hC : Ct d mc ms mX7_first [zR r] n S Rf V Qc) (hR : d + 1 ≤ R.frames ∧ 8 + (mX7_first.2.2.1 + 11) + 40 * d ≤ R.locals) (hw : (st.map zcat).sum ≤ 8) (hf : ce + mc ≤ R.cells ∧ sl + ms ≤ R.slots) (kk : ∀ (v : Option zV) (S' : zH) (Rf' : zG) (V' : zE), Qc v S' Rf' V' → Wa X μ R Z (ce + mc) (sl + ms) (n + mc) S' (pc + 3) L (v.toList ++ st) Rf' V') : Wa X μ R Z ce sl n S (pc) L (zR r :: st) Rf V :=
  wa_callV (k1 := 0) (as := []) (ci := 7) hd (hμ ▸ lL_60) w_inst_X7_first w_sel_X7_first w_init_X7 w_code_X7_first ⟨by decide +kernel, by decide +kernel, by decide +kernel⟩ rfl rfl hS rfl hC hR hw hf kk
theorem lL_64 : Cond.methodLink RL 64 yX7_recognised ∈ lw_ok := lw_in 863 (by decide +kernel) (by decide +kernel)
theorem kL_64 {d mc r : Nat} {Qc : zQ} {a1 : zV} (hd : decode μ.2.1 pc = .ok (.invokevirtual 64, 3)) (hμ : μ.1.cls = RL) (hS : S r = some (.inr 7)) (hC : Ct d mc ms mX7_recognised [zR r, a1] n S Rf V Qc) (hR : d + 1 ≤ R.frames ∧ 8 + (mX7_recognised.2.2.1 + 11) + 40 * d ≤ R.locals) (hw : (st.map zcat).sum ≤ 8) (hf : ce + mc ≤ R.cells ∧ sl + ms ≤ R.slots) (kk : ∀ (v : Option zV) (S' : zH) (Rf' : zG) (V' : zE), Qc v S' Rf' V' → Wa X μ R Z (ce + mc) (sl + ms) (n + mc) S' (pc + 3) L (v.toList ++ st) Rf' V') : Wa X μ R Z ce sl n S (pc) L (a1 :: zR r :: st) Rf V :=
  wa_callV (k1 := 1) (as := [a1]) (ci := 7) hd (hμ ▸ lL_64) w_inst_X7_recognised w_sel_X7_recognised w_init_X7 w_code_X7_recognised ⟨by decide +kernel, by decide +kernel, by decide +kernel⟩ rfl rfl hS rfl hC hR hw hf kk
theorem lL_68 : Cond.methodLink RL 68 yX7_where ∈ lw_ok := lw_in 867 (by decide +kernel) (by decide +kernel)
theorem kL_68 {d mc r : Nat} {Qc : zQ} {a1 : zV} (hd : decode μ.2.1 pc = .ok (.invokevirtual 68, 3)) (hμ : μ.1.cls = RL) (hS : S r = some (.inr 7)) (hC : Ct d mc ms mX7_where [zR r, a1] n S Rf V Qc) (hR : d + 1 ≤ R.frames ∧ 8 + (mX7_where.2.2.1 + 11) + 40 * d ≤ R.locals) (hw : (st.map zcat).sum ≤ 8) (hf : ce + mc ≤ R.cells ∧ sl + ms ≤ R.slots) (kk : ∀ (v : Option zV) (S' : zH) (Rf' : zG) (V' : zE), Qc v S' Rf' V' → Wa X μ R Z (ce + mc) (sl + ms) (n + mc) S' (pc + 3) L (v.toList ++ st) Rf' V') : Wa X μ R Z ce sl n S (pc) L (a1 :: zR r :: st) Rf V :=
  wa_callV (k1 := 1) (as := [a1]) (ci := 7) hd (hμ ▸ lL_68) w_inst_X7_where w_sel_X7_where w_init_X7 w_code_X7_where ⟨by decide +kernel, by decide +kernel, by decide +kernel⟩ rfl rfl hS rfl hC hR hw hf kk
theorem lX7_182 : Cond.methodLink RX7 182 yX7_isPlain ∈ lw_ok := lw_in 871 (by decide +kernel) (by decide +kernel)
theorem kX7_182 {d mc r : Nat} {Qc : zQ}  (hd : decode μ.2.1 pc = .ok (.invokevirtual 182, 3)) (hμ : μ.1.cls = RX7) (hS : S r = some (.inr 7)) (hC : Ct d mc ms mX7_isPlain [zR r] n S Rf V Qc) (hR : d + 1 ≤ R.frames ∧ 8 + (mX7_isPlain.2.2.1 + 11) + 40 * d ≤ R.locals) (hw : (st.map zcat).sum ≤ 8) (hf : ce + mc ≤ R.cells ∧ sl + ms ≤ R.slots) (kk : ∀ (v : Option zV) (S' : zH) (Rf' : zG) (V' : zE), Qc v S' Rf' V' → Wa X μ R Z (ce + mc) (sl + ms) (n + mc) S' (pc + 3) L (v.toList ++ st) Rf' V') : Wa X μ R Z ce sl n S (pc) L (zR r :: st) Rf V :=
  wa_callV (k1 := 0) (as := []) (ci := 7) hd (hμ ▸ lX7_182) w_inst_X7_isPlain w_sel_X7_isPlain w_init_X7 w_code_X7_isPlain ⟨by decide +kernel, by decide +kernel, by decide +kernel⟩ rfl rfl hS rfl hC hR hw hf kk
theorem lX7_186 : Cond.methodLink RX7 186 yX7_unsaid ∈ lw_ok := lw_in 876 (by decide +kernel) (by decide +kernel)
theorem kX7_186 {d mc r : Nat} {Qc : zQ}  (hd : decode μ.2.1 pc = .ok (.invokevirtual 186, 3)) (hμ : μ.1.cls = RX7) (hS : S r = some (.inr 7)) (hC : Ct d mc ms mX7_unsaid [zR r] n S Rf V Qc) (hR : d + 1 ≤ R.frames ∧ 8 + (mX7_unsaid.2.2.1 + 11) + 40 * d ≤ R.locals) (hw : (st.map zcat).sum ≤ 8) (hf : ce + mc ≤ R.cells ∧ sl + ms ≤ R.slots) (kk : ∀ (v : Option zV) (S' : zH) (Rf' : zG) (V' : zE), Qc v S' Rf' V' → Wa X μ R Z (ce + mc) (sl + ms) (n + mc) S' (pc + 3) L (v.toList ++ st) Rf' V') : Wa X μ R Z ce sl n S (pc) L (zR r :: st) Rf V :=
  wa_callV (k1 := 0) (as := []) (ci := 7) hd (hμ ▸ lX7_186) w_inst_X7_unsaid w_sel_X7_unsaid w_init_X7 w_code_X7_unsaid ⟨by decide +kernel, by decide +kernel, by decide +kernel⟩ rfl rfl hS rfl hC hR hw hf kk
theorem lL_72 : Cond.methodLink RL 72 yX7_cleared ∈ lw_ok := lw_in 880 (by decide +kernel) (by decide +kernel)
theorem kL_72 {d mc r : Nat} {Qc : zQ} {a1 : zV} (hd : decode μ.2.1 pc = .ok (.invokevirtual 72, 3)) (hμ : μ.1.cls = RL) (hS : S r = some (.inr 7)) (hC : Ct d mc ms mX7_cleared [zR r, a1] n S Rf V Qc) (hR : d + 1 ≤ R.frames ∧ 8 + (mX7_cleared.2.2.1 + 11) + 40 * d ≤ R.locals) (hw : (st.map zcat).sum ≤ 8) (hf : ce + mc ≤ R.cells ∧ sl + ms ≤ R.slots) (kk : ∀ (v : Option zV) (S' : zH) (Rf' : zG) (V' : zE), Qc v S' Rf' V' → Wa X μ R Z (ce + mc) (sl + ms) (n + mc) S' (pc + 3) L (v.toList ++ st) Rf' V') : Wa X μ R Z ce sl n S (pc) L (a1 :: zR r :: st) Rf V :=
  wa_callV (k1 := 1) (as := [a1]) (ci := 7) hd (hμ ▸ lL_72) w_inst_X7_cleared w_sel_X7_cleared w_init_X7 w_code_X7_cleared ⟨by decide +kernel, by decide +kernel, by decide +kernel⟩ rfl rfl hS rfl hC hR hw hf kk
theorem lL_76 : Cond.methodLink RL 76 yX7_salted ∈ lw_ok := lw_in 884 (by decide +kernel) (by decide +kernel)
theorem kL_76 {d mc r : Nat} {Qc : zQ} {a1 : zV} (hd : decode μ.2.1 pc = .ok (.invokevirtual 76, 3)) (hμ : μ.1.cls = RL) (hS : S r = some (.inr 7)) (hC : Ct d mc ms mX7_salted [zR r, a1] n S Rf V Qc) (hR : d + 1 ≤ R.frames ∧ 8 + (mX7_salted.2.2.1 + 11) + 40 * d ≤ R.locals) (hw : (st.map zcat).sum ≤ 8) (hf : ce + mc ≤ R.cells ∧ sl + ms ≤ R.slots) (kk : ∀ (v : Option zV) (S' : zH) (Rf' : zG) (V' : zE), Qc v S' Rf' V' → Wa X μ R Z (ce + mc) (sl + ms) (n + mc) S' (pc + 3) L (v.toList ++ st) Rf' V') : Wa X μ R Z ce sl n S (pc) L (a1 :: zR r :: st) Rf V :=
  wa_callV (k1 := 1) (as := [a1]) (ci := 7) hd (hμ ▸ lL_76) w_inst_X7_salted w_sel_X7_salted w_init_X7 w_code_X7_salted ⟨by decide +kernel, by decide +kernel, by decide +kernel⟩ rfl rfl hS rfl hC hR hw hf kk
theorem lL_80 : Cond.methodLink RL 80 yX7_slide ∈ lw_ok := lw_in 888 (by decide +kernel) (by decide +kernel)
theorem kL_80 {d mc r : Nat} {Qc : zQ} {a1 a2 a3 : zV} (hd : decode μ.2.1 pc = .ok (.invokevirtual 80, 3)) (hμ : μ.1.cls = RL) (hS : S r = some (.inr 7)) (hC : Ct d mc ms mX7_slide [zR r, a1, a2, a3] n S Rf V Qc) (hR : d + 1 ≤ R.frames ∧ 8 + (mX7_slide.2.2.1 + 11) + 40 * d ≤ R.locals) (hw : (st.map zcat).sum ≤ 8) (hf : ce + mc ≤ R.cells ∧ sl + ms ≤ R.slots) (kk : ∀ (v : Option zV) (S' : zH) (Rf' : zG) (V' : zE), Qc v S' Rf' V' → Wa X μ R Z (ce + mc) (sl + ms) (n + mc) S' (pc + 3) L (v.toList ++ st) Rf' V') : Wa X μ R Z ce sl n S (pc) L (a3 :: a2 :: a1 :: zR r :: st) Rf V :=
  wa_callV (k1 := 3) (as := [a1, a2, a3]) (ci := 7) hd (hμ ▸ lL_80) w_inst_X7_slide w_sel_X7_slide w_init_X7 w_code_X7_slide ⟨by decide +kernel, by decide +kernel, by decide +kernel⟩ rfl rfl hS rfl hC hR hw hf kk
theorem lX7_192 : Cond.methodLink RX7 192 yX7_slideOf ∈ lw_ok := lw_in 892 (by decide +kernel) (by decide +kernel)
theorem kX7_192 {d mc r : Nat} {Qc : zQ} {a1 a2 : zV} (hd : decode μ.2.1 pc = .ok (.invokevirtual 192, 3)) (hμ : μ.1.cls = RX7) (hS : S r = some (.inr 7)) (hC : Ct d mc ms mX7_slideOf [zR r, a1, a2] n S Rf V Qc) (hR : d + 1 ≤ R.frames ∧ 8 + (mX7_slideOf.2.2.1 + 11) + 40 * d ≤ R.locals) (hw : (st.map zcat).sum ≤ 8) (hf : ce + mc ≤ R.cells ∧ sl + ms ≤ R.slots) (kk : ∀ (v : Option zV) (S' : zH) (Rf' : zG) (V' : zE), Qc v S' Rf' V' → Wa X μ R Z (ce + mc) (sl + ms) (n + mc) S' (pc + 3) L (v.toList ++ st) Rf' V') : Wa X μ R Z ce sl n S (pc) L (a2 :: a1 :: zR r :: st) Rf V :=
  wa_callV (k1 := 2) (as := [a1, a2]) (ci := 7) hd (hμ ▸ lX7_192) w_inst_X7_slideOf w_sel_X7_slideOf w_init_X7 w_code_X7_slideOf ⟨by decide +kernel, by decide +kernel, by decide +kernel⟩ rfl rfl hS rfl hC hR hw hf kk
theorem lL_84 : Cond.methodLink RL 84 yX7_holds ∈ lw_ok := lw_in 896 (by decide +kernel) (by decide +kernel)
theorem kL_84 {d mc r : Nat} {Qc : zQ} {a1 : zV} (hd : decode μ.2.1 pc = .ok (.invokevirtual 84, 3)) (hμ : μ.1.cls = RL) (hS : S r = some (.inr 7)) (hC : Ct d mc ms mX7_holds [zR r, a1] n S Rf V Qc) (hR : d + 1 ≤ R.frames ∧ 8 + (mX7_holds.2.2.1 + 11) + 40 * d ≤ R.locals) (hw : (st.map zcat).sum ≤ 8) (hf : ce + mc ≤ R.cells ∧ sl + ms ≤ R.slots) (kk : ∀ (v : Option zV) (S' : zH) (Rf' : zG) (V' : zE), Qc v S' Rf' V' → Wa X μ R Z (ce + mc) (sl + ms) (n + mc) S' (pc + 3) L (v.toList ++ st) Rf' V') : Wa X μ R Z ce sl n S (pc) L (a1 :: zR r :: st) Rf V :=
  wa_callV (k1 := 1) (as := [a1]) (ci := 7) hd (hμ ▸ lL_84) w_inst_X7_holds w_sel_X7_holds w_init_X7 w_code_X7_holds ⟨by decide +kernel, by decide +kernel, by decide +kernel⟩ rfl rfl hS rfl hC hR hw hf kk
theorem lL_88 : Cond.methodLink RL 88 yX7_seen ∈ lw_ok := lw_in 900 (by decide +kernel) (by decide +kernel)
theorem kL_88 {d mc r : Nat} {Qc : zQ} {a1 a2 : zV} (hd : decode μ.2.1 pc = .ok (.invokevirtual 88, 3)) (hμ : μ.1.cls = RL) (hS : S r = some (.inr 7)) (hC : Ct d mc ms mX7_seen [zR r, a1, a2] n S Rf V Qc) (hR : d + 1 ≤ R.frames ∧ 8 + (mX7_seen.2.2.1 + 11) + 40 * d ≤ R.locals) (hw : (st.map zcat).sum ≤ 8) (hf : ce + mc ≤ R.cells ∧ sl + ms ≤ R.slots) (kk : ∀ (v : Option zV) (S' : zH) (Rf' : zG) (V' : zE), Qc v S' Rf' V' → Wa X μ R Z (ce + mc) (sl + ms) (n + mc) S' (pc + 3) L (v.toList ++ st) Rf' V') : Wa X μ R Z ce sl n S (pc) L (a2 :: a1 :: zR r :: st) Rf V :=
  wa_callV (k1 := 2) (as := [a1, a2]) (ci := 7) hd (hμ ▸ lL_88) w_inst_X7_seen w_sel_X7_seen w_init_X7 w_code_X7_seen ⟨by decide +kernel, by decide +kernel, by decide +kernel⟩ rfl rfl hS rfl hC hR hw hf kk
theorem lL_92 : Cond.methodLink RL 92 yX7_forget ∈ lw_ok := lw_in 904 (by decide +kernel) (by decide +kernel)
theorem kL_92 {d mc r : Nat} {Qc : zQ}  (hd : decode μ.2.1 pc = .ok (.invokevirtual 92, 3)) (hμ : μ.1.cls = RL) (hS : S r = some (.inr 7)) (hC : Ct d mc ms mX7_forget [zR r] n S Rf V Qc) (hR : d + 1 ≤ R.frames ∧ 8 + (mX7_forget.2.2.1 + 11) + 40 * d ≤ R.locals) (hw : (st.map zcat).sum ≤ 8) (hf : ce + mc ≤ R.cells ∧ sl + ms ≤ R.slots) (kk : ∀ (v : Option zV) (S' : zH) (Rf' : zG) (V' : zE), Qc v S' Rf' V' → Wa X μ R Z (ce + mc) (sl + ms) (n + mc) S' (pc + 3) L (v.toList ++ st) Rf' V') : Wa X μ R Z ce sl n S (pc) L (zR r :: st) Rf V :=
  wa_callV (k1 := 0) (as := []) (ci := 7) hd (hμ ▸ lL_92) w_inst_X7_forget w_sel_X7_forget w_init_X7 w_code_X7_forget ⟨by decide +kernel, by decide +kernel, by decide +kernel⟩ rfl rfl hS rfl hC hR hw hf kk
theorem lL_96 : Cond.methodLink RL 96 yX7_who ∈ lw_ok := lw_in 908 (by decide +kernel) (by decide +kernel)
theorem kL_96 {d mc r : Nat} {Qc : zQ} {a1 a2 : zV} (hd : decode μ.2.1 pc = .ok (.invokevirtual 96, 3)) (hμ : μ.1.cls = RL) (hS : S r = some (.inr 7)) (hC : Ct d mc ms mX7_who [zR r, a1, a2] n S Rf V Qc) (hR : d + 1 ≤ R.frames ∧ 8 + (mX7_who.2.2.1 + 11) + 40 * d ≤ R.locals) (hw : (st.map zcat).sum ≤ 8) (hf : ce + mc ≤ R.cells ∧ sl + ms ≤ R.slots) (kk : ∀ (v : Option zV) (S' : zH) (Rf' : zG) (V' : zE), Qc v S' Rf' V' → Wa X μ R Z (ce + mc) (sl + ms) (n + mc) S' (pc + 3) L (v.toList ++ st) Rf' V') : Wa X μ R Z ce sl n S (pc) L (a2 :: a1 :: zR r :: st) Rf V :=
  wa_callV (k1 := 2) (as := [a1, a2]) (ci := 7) hd (hμ ▸ lL_96) w_inst_X7_who w_sel_X7_who w_init_X7 w_code_X7_who ⟨by decide +kernel, by decide +kernel, by decide +kernel⟩ rfl rfl hS rfl hC hR hw hf kk
theorem lX7_207 : Cond.methodLink RX7 207 yX7_layWho ∈ lw_ok := lw_in 912 (by decide +kernel) (by decide +kernel)
theorem kX7_207 {d mc r : Nat} {Qc : zQ} {a1 : zV} (hd : decode μ.2.1 pc = .ok (.invokevirtual 207, 3)) (hμ : μ.1.cls = RX7) (hS : S r = some (.inr 7)) (hC : Ct d mc ms mX7_layWho [zR r, a1] n S Rf V Qc) (hR : d + 1 ≤ R.frames ∧ 8 + (mX7_layWho.2.2.1 + 11) + 40 * d ≤ R.locals) (hw : (st.map zcat).sum ≤ 8) (hf : ce + mc ≤ R.cells ∧ sl + ms ≤ R.slots) (kk : ∀ (v : Option zV) (S' : zH) (Rf' : zG) (V' : zE), Qc v S' Rf' V' → Wa X μ R Z (ce + mc) (sl + ms) (n + mc) S' (pc + 3) L (v.toList ++ st) Rf' V') : Wa X μ R Z ce sl n S (pc) L (a1 :: zR r :: st) Rf V :=
  wa_callV (k1 := 1) (as := [a1]) (ci := 7) hd (hμ ▸ lX7_207) w_inst_X7_layWho w_sel_X7_layWho w_init_X7 w_code_X7_layWho ⟨by decide +kernel, by decide +kernel, by decide +kernel⟩ rfl rfl hS rfl hC hR hw hf kk
theorem lX7_204 : Cond.methodLink RX7 204 yX7_holdsNow ∈ lw_ok := lw_in 916 (by decide +kernel) (by decide +kernel)
theorem kX7_204 {d mc r : Nat} {Qc : zQ}  (hd : decode μ.2.1 pc = .ok (.invokevirtual 204, 3)) (hμ : μ.1.cls = RX7) (hS : S r = some (.inr 7)) (hC : Ct d mc ms mX7_holdsNow [zR r] n S Rf V Qc) (hR : d + 1 ≤ R.frames ∧ 8 + (mX7_holdsNow.2.2.1 + 11) + 40 * d ≤ R.locals) (hw : (st.map zcat).sum ≤ 8) (hf : ce + mc ≤ R.cells ∧ sl + ms ≤ R.slots) (kk : ∀ (v : Option zV) (S' : zH) (Rf' : zG) (V' : zE), Qc v S' Rf' V' → Wa X μ R Z (ce + mc) (sl + ms) (n + mc) S' (pc + 3) L (v.toList ++ st) Rf' V') : Wa X μ R Z ce sl n S (pc) L (zR r :: st) Rf V :=
  wa_callV (k1 := 0) (as := []) (ci := 7) hd (hμ ▸ lX7_204) w_inst_X7_holdsNow w_sel_X7_holdsNow w_init_X7 w_code_X7_holdsNow ⟨by decide +kernel, by decide +kernel, by decide +kernel⟩ rfl rfl hS rfl hC hR hw hf kk
theorem lL_100 : Cond.methodLink RL 100 yX7_next ∈ lw_ok := lw_in 920 (by decide +kernel) (by decide +kernel)
theorem kL_100 {d mc r : Nat} {Qc : zQ} {a1 a2 : zV} (hd : decode μ.2.1 pc = .ok (.invokevirtual 100, 3)) (hμ : μ.1.cls = RL) (hS : S r = some (.inr 7)) (hC : Ct d mc ms mX7_next [zR r, a1, a2] n S Rf V Qc) (hR : d + 1 ≤ R.frames ∧ 8 + (mX7_next.2.2.1 + 11) + 40 * d ≤ R.locals) (hw : (st.map zcat).sum ≤ 8) (hf : ce + mc ≤ R.cells ∧ sl + ms ≤ R.slots) (kk : ∀ (v : Option zV) (S' : zH) (Rf' : zG) (V' : zE), Qc v S' Rf' V' → Wa X μ R Z (ce + mc) (sl + ms) (n + mc) S' (pc + 3) L (v.toList ++ st) Rf' V') : Wa X μ R Z ce sl n S (pc) L (a2 :: a1 :: zR r :: st) Rf V :=
  wa_callV (k1 := 2) (as := [a1, a2]) (ci := 7) hd (hμ ▸ lL_100) w_inst_X7_next w_sel_X7_next w_init_X7 w_code_X7_next ⟨by decide +kernel, by decide +kernel, by decide +kernel⟩ rfl rfl hS rfl hC hR hw hf kk
theorem lX7_210 : Cond.methodLink RX7 210 yX7_isSeen ∈ lw_ok := lw_in 924 (by decide +kernel) (by decide +kernel)
theorem kX7_210 {d mc r : Nat} {Qc : zQ} {a1 : zV} (hd : decode μ.2.1 pc = .ok (.invokevirtual 210, 3)) (hμ : μ.1.cls = RX7) (hS : S r = some (.inr 7)) (hC : Ct d mc ms mX7_isSeen [zR r, a1] n S Rf V Qc) (hR : d + 1 ≤ R.frames ∧ 8 + (mX7_isSeen.2.2.1 + 11) + 40 * d ≤ R.locals) (hw : (st.map zcat).sum ≤ 8) (hf : ce + mc ≤ R.cells ∧ sl + ms ≤ R.slots) (kk : ∀ (v : Option zV) (S' : zH) (Rf' : zG) (V' : zE), Qc v S' Rf' V' → Wa X μ R Z (ce + mc) (sl + ms) (n + mc) S' (pc + 3) L (v.toList ++ st) Rf' V') : Wa X μ R Z ce sl n S (pc) L (a1 :: zR r :: st) Rf V :=
  wa_callV (k1 := 1) (as := [a1]) (ci := 7) hd (hμ ▸ lX7_210) w_inst_X7_isSeen w_sel_X7_isSeen w_init_X7 w_code_X7_isSeen ⟨by decide +kernel, by decide +kernel, by decide +kernel⟩ rfl rfl hS rfl hC hR hw hf kk
theorem lL_104 : Cond.methodLink RL 104 yX7_laws ∈ lw_ok := lw_in 928 (by decide +kernel) (by decide +kernel)
theorem kL_104 {d mc r : Nat} {Qc : zQ} {a1 : zV} (hd : decode μ.2.1 pc = .ok (.invokevirtual 104, 3)) (hμ : μ.1.cls = RL) (hS : S r = some (.inr 7)) (hC : Ct d mc ms mX7_laws [zR r, a1] n S Rf V Qc) (hR : d + 1 ≤ R.frames ∧ 8 + (mX7_laws.2.2.1 + 11) + 40 * d ≤ R.locals) (hw : (st.map zcat).sum ≤ 8) (hf : ce + mc ≤ R.cells ∧ sl + ms ≤ R.slots) (kk : ∀ (v : Option zV) (S' : zH) (Rf' : zG) (V' : zE), Qc v S' Rf' V' → Wa X μ R Z (ce + mc) (sl + ms) (n + mc) S' (pc + 3) L (v.toList ++ st) Rf' V') : Wa X μ R Z ce sl n S (pc) L (a1 :: zR r :: st) Rf V :=
  wa_callV (k1 := 1) (as := [a1]) (ci := 7) hd (hμ ▸ lL_104) w_inst_X7_laws w_sel_X7_laws w_init_X7 w_code_X7_laws ⟨by decide +kernel, by decide +kernel, by decide +kernel⟩ rfl rfl hS rfl hC hR hw hf kk
theorem lX7_213 : Cond.methodLink RX7 213 yX7_isLaw ∈ lw_ok := lw_in 932 (by decide +kernel) (by decide +kernel)
theorem kX7_213 {d mc r : Nat} {Qc : zQ} {a1 : zV} (hd : decode μ.2.1 pc = .ok (.invokevirtual 213, 3)) (hμ : μ.1.cls = RX7) (hS : S r = some (.inr 7)) (hC : Ct d mc ms mX7_isLaw [zR r, a1] n S Rf V Qc) (hR : d + 1 ≤ R.frames ∧ 8 + (mX7_isLaw.2.2.1 + 11) + 40 * d ≤ R.locals) (hw : (st.map zcat).sum ≤ 8) (hf : ce + mc ≤ R.cells ∧ sl + ms ≤ R.slots) (kk : ∀ (v : Option zV) (S' : zH) (Rf' : zG) (V' : zE), Qc v S' Rf' V' → Wa X μ R Z (ce + mc) (sl + ms) (n + mc) S' (pc + 3) L (v.toList ++ st) Rf' V') : Wa X μ R Z ce sl n S (pc) L (a1 :: zR r :: st) Rf V :=
  wa_callV (k1 := 1) (as := [a1]) (ci := 7) hd (hμ ▸ lX7_213) w_inst_X7_isLaw w_sel_X7_isLaw w_init_X7 w_code_X7_isLaw ⟨by decide +kernel, by decide +kernel, by decide +kernel⟩ rfl rfl hS rfl hC hR hw hf kk
theorem lL_109 : Cond.methodLink RL 109 yX7_guests ∈ lw_ok := lw_in 936 (by decide +kernel) (by decide +kernel)
theorem kL_109 {d mc r : Nat} {Qc : zQ} {a1 a2 a3 a4 : zV} (hd : decode μ.2.1 pc = .ok (.invokevirtual 109, 3)) (hμ : μ.1.cls = RL) (hS : S r = some (.inr 7)) (hC : Ct d mc ms mX7_guests [zR r, a1, a2, a3, a4] n S Rf V Qc) (hR : d + 1 ≤ R.frames ∧ 8 + (mX7_guests.2.2.1 + 11) + 40 * d ≤ R.locals) (hw : (st.map zcat).sum ≤ 8) (hf : ce + mc ≤ R.cells ∧ sl + ms ≤ R.slots) (kk : ∀ (v : Option zV) (S' : zH) (Rf' : zG) (V' : zE), Qc v S' Rf' V' → Wa X μ R Z (ce + mc) (sl + ms) (n + mc) S' (pc + 3) L (v.toList ++ st) Rf' V') : Wa X μ R Z ce sl n S (pc) L (a4 :: a3 :: a2 :: a1 :: zR r :: st) Rf V :=
  wa_callV (k1 := 4) (as := [a1, a2, a3, a4]) (ci := 7) hd (hμ ▸ lL_109) w_inst_X7_guests w_sel_X7_guests w_init_X7 w_code_X7_guests ⟨by decide +kernel, by decide +kernel, by decide +kernel⟩ rfl rfl hS rfl hC hR hw hf kk
theorem lX7_222 : Cond.methodLink RX7 222 yX7_bearing ∈ lw_ok := lw_in 942 (by decide +kernel) (by decide +kernel)
theorem kX7_222 {d mc r : Nat} {Qc : zQ} {a1 a2 a3 a4 : zV} (hd : decode μ.2.1 pc = .ok (.invokevirtual 222, 3)) (hμ : μ.1.cls = RX7) (hS : S r = some (.inr 7)) (hC : Ct d mc ms mX7_bearing [zR r, a1, a2, a3, a4] n S Rf V Qc) (hR : d + 1 ≤ R.frames ∧ 8 + (mX7_bearing.2.2.1 + 11) + 40 * d ≤ R.locals) (hw : (st.map zcat).sum ≤ 8) (hf : ce + mc ≤ R.cells ∧ sl + ms ≤ R.slots) (kk : ∀ (v : Option zV) (S' : zH) (Rf' : zG) (V' : zE), Qc v S' Rf' V' → Wa X μ R Z (ce + mc) (sl + ms) (n + mc) S' (pc + 3) L (v.toList ++ st) Rf' V') : Wa X μ R Z ce sl n S (pc) L (a4 :: a3 :: a2 :: a1 :: zR r :: st) Rf V :=
  wa_callV (k1 := 4) (as := [a1, a2, a3, a4]) (ci := 7) hd (hμ ▸ lX7_222) w_inst_X7_bearing w_sel_X7_bearing w_init_X7 w_code_X7_bearing ⟨by decide +kernel, by decide +kernel, by decide +kernel⟩ rfl rfl hS rfl hC hR hw hf kk
theorem lX7_226 : Cond.methodLink RX7 226 yX7_tens ∈ lw_ok := lw_in 946 (by decide +kernel) (by decide +kernel)
theorem kX7_226 {d mc : Nat} {Qc : zQ} {a1 : zV} (hd : decode μ.2.1 pc = .ok (.invokestatic 226, 3)) (hμ : μ.1.cls = RX7) (hC : Ct d mc ms mX7_tens [a1] n S Rf V Qc) (hR : d + 1 ≤ R.frames ∧ 8 + (mX7_tens.2.2.1 + 11) + 40 * d ≤ R.locals) (hw : (st.map zcat).sum ≤ 8) (hf : ce + mc ≤ R.cells ∧ sl + ms ≤ R.slots) (kk : ∀ (v : Option zV) (S' : zH) (Rf' : zG) (V' : zE), Qc v S' Rf' V' → Wa X μ R Z (ce + mc) (sl + ms) (n + mc) S' (pc + 3) L (v.toList ++ st) Rf' V') : Wa X μ R Z ce sl n S (pc) L (a1 :: st) Rf V :=
  wa_callS (k1 := 1) hd (hμ ▸ lX7_226) w_stat_X7_tens w_init_X7 w_code_X7_tens ⟨by decide +kernel, by decide +kernel, by decide +kernel⟩ rfl rfl hC hR hw hf kk
theorem lL_114 : Cond.methodLink RL 114 yX7_build ∈ lw_ok := lw_in 950 (by decide +kernel) (by decide +kernel)
theorem kL_114 {d mc r : Nat} {Qc : zQ} {a1 a2 a3 a4 a5 : zV} (hd : decode μ.2.1 pc = .ok (.invokevirtual 114, 3)) (hμ : μ.1.cls = RL) (hS : S r = some (.inr 7)) (hC : Ct d mc ms mX7_build [zR r, a1, a2, a3, a4, a5] n S Rf V Qc) (hR : d + 1 ≤ R.frames ∧ 8 + (mX7_build.2.2.1 + 11) + 40 * d ≤ R.locals) (hw : (st.map zcat).sum ≤ 8) (hf : ce + mc ≤ R.cells ∧ sl + ms ≤ R.slots) (kk : ∀ (v : Option zV) (S' : zH) (Rf' : zG) (V' : zE), Qc v S' Rf' V' → Wa X μ R Z (ce + mc) (sl + ms) (n + mc) S' (pc + 3) L (v.toList ++ st) Rf' V') : Wa X μ R Z ce sl n S (pc) L (a5 :: a4 :: a3 :: a2 :: a1 :: zR r :: st) Rf V :=
  wa_callV (k1 := 5) (as := [a1, a2, a3, a4, a5]) (ci := 7) hd (hμ ▸ lL_114) w_inst_X7_build w_sel_X7_build w_init_X7 w_code_X7_build ⟨by decide +kernel, by decide +kernel, by decide +kernel⟩ rfl rfl hS rfl hC hR hw hf kk
theorem lL_118 : Cond.methodLink RL 118 yX7_elsewhere ∈ lw_ok := lw_in 954 (by decide +kernel) (by decide +kernel)
theorem kL_118 {d mc r : Nat} {Qc : zQ} {a1 : zV} (hd : decode μ.2.1 pc = .ok (.invokevirtual 118, 3)) (hμ : μ.1.cls = RL) (hS : S r = some (.inr 7)) (hC : Ct d mc ms mX7_elsewhere [zR r, a1] n S Rf V Qc) (hR : d + 1 ≤ R.frames ∧ 8 + (mX7_elsewhere.2.2.1 + 11) + 40 * d ≤ R.locals) (hw : (st.map zcat).sum ≤ 8) (hf : ce + mc ≤ R.cells ∧ sl + ms ≤ R.slots) (kk : ∀ (v : Option zV) (S' : zH) (Rf' : zG) (V' : zE), Qc v S' Rf' V' → Wa X μ R Z (ce + mc) (sl + ms) (n + mc) S' (pc + 3) L (v.toList ++ st) Rf' V') : Wa X μ R Z ce sl n S (pc) L (a1 :: zR r :: st) Rf V :=
  wa_callV (k1 := 1) (as := [a1]) (ci := 7) hd (hμ ▸ lL_118) w_inst_X7_elsewhere w_sel_X7_elsewhere w_init_X7 w_code_X7_elsewhere ⟨by decide +kernel, by decide +kernel, by decide +kernel⟩ rfl rfl hS rfl hC hR hw hf kk
theorem lX7_230 : Cond.methodLink RX7 230 yX7_others ∈ lw_ok := lw_in 958 (by decide +kernel) (by decide +kernel)
theorem kX7_230 {d mc r : Nat} {Qc : zQ} {a1 a2 : zV} (hd : decode μ.2.1 pc = .ok (.invokevirtual 230, 3)) (hμ : μ.1.cls = RX7) (hS : S r = some (.inr 7)) (hC : Ct d mc ms mX7_others [zR r, a1, a2] n S Rf V Qc) (hR : d + 1 ≤ R.frames ∧ 8 + (mX7_others.2.2.1 + 11) + 40 * d ≤ R.locals) (hw : (st.map zcat).sum ≤ 8) (hf : ce + mc ≤ R.cells ∧ sl + ms ≤ R.slots) (kk : ∀ (v : Option zV) (S' : zH) (Rf' : zG) (V' : zE), Qc v S' Rf' V' → Wa X μ R Z (ce + mc) (sl + ms) (n + mc) S' (pc + 3) L (v.toList ++ st) Rf' V') : Wa X μ R Z ce sl n S (pc) L (a2 :: a1 :: zR r :: st) Rf V :=
  wa_callV (k1 := 2) (as := [a1, a2]) (ci := 7) hd (hμ ▸ lX7_230) w_inst_X7_others w_sel_X7_others w_init_X7 w_code_X7_others ⟨by decide +kernel, by decide +kernel, by decide +kernel⟩ rfl rfl hS rfl hC hR hw hf kk
theorem lL_122 : Cond.methodLink RL 122 yX7_winter ∈ lw_ok := lw_in 962 (by decide +kernel) (by decide +kernel)
theorem kL_122 {d mc r : Nat} {Qc : zQ} {a1 a2 a3 : zV} (hd : decode μ.2.1 pc = .ok (.invokevirtual 122, 3)) (hμ : μ.1.cls = RL) (hS : S r = some (.inr 7)) (hC : Ct d mc ms mX7_winter [zR r, a1, a2, a3] n S Rf V Qc) (hR : d + 1 ≤ R.frames ∧ 8 + (mX7_winter.2.2.1 + 11) + 40 * d ≤ R.locals) (hw : (st.map zcat).sum ≤ 8) (hf : ce + mc ≤ R.cells ∧ sl + ms ≤ R.slots) (kk : ∀ (v : Option zV) (S' : zH) (Rf' : zG) (V' : zE), Qc v S' Rf' V' → Wa X μ R Z (ce + mc) (sl + ms) (n + mc) S' (pc + 3) L (v.toList ++ st) Rf' V') : Wa X μ R Z ce sl n S (pc) L (a3 :: a2 :: a1 :: zR r :: st) Rf V :=
  wa_callV (k1 := 3) (as := [a1, a2, a3]) (ci := 7) hd (hμ ▸ lL_122) w_inst_X7_winter w_sel_X7_winter w_init_X7 w_code_X7_winter ⟨by decide +kernel, by decide +kernel, by decide +kernel⟩ rfl rfl hS rfl hC hR hw hf kk
theorem lL_126 : Cond.methodLink RL 126 yX7_image ∈ lw_ok := lw_in 967 (by decide +kernel) (by decide +kernel)
theorem kL_126 {d mc r : Nat} {Qc : zQ} {a1 : zV} (hd : decode μ.2.1 pc = .ok (.invokevirtual 126, 3)) (hμ : μ.1.cls = RL) (hS : S r = some (.inr 7)) (hC : Ct d mc ms mX7_image [zR r, a1] n S Rf V Qc) (hR : d + 1 ≤ R.frames ∧ 8 + (mX7_image.2.2.1 + 11) + 40 * d ≤ R.locals) (hw : (st.map zcat).sum ≤ 8) (hf : ce + mc ≤ R.cells ∧ sl + ms ≤ R.slots) (kk : ∀ (v : Option zV) (S' : zH) (Rf' : zG) (V' : zE), Qc v S' Rf' V' → Wa X μ R Z (ce + mc) (sl + ms) (n + mc) S' (pc + 3) L (v.toList ++ st) Rf' V') : Wa X μ R Z ce sl n S (pc) L (a1 :: zR r :: st) Rf V :=
  wa_callV (k1 := 1) (as := [a1]) (ci := 7) hd (hμ ▸ lL_126) w_inst_X7_image w_sel_X7_image w_init_X7 w_code_X7_image ⟨by decide +kernel, by decide +kernel, by decide +kernel⟩ rfl rfl hS rfl hC hR hw hf kk
theorem lL_130 : Cond.methodLink RL 130 yX7_restore ∈ lw_ok := lw_in 971 (by decide +kernel) (by decide +kernel)
theorem kL_130 {d mc r : Nat} {Qc : zQ} {a1 : zV} (hd : decode μ.2.1 pc = .ok (.invokevirtual 130, 3)) (hμ : μ.1.cls = RL) (hS : S r = some (.inr 7)) (hC : Ct d mc ms mX7_restore [zR r, a1] n S Rf V Qc) (hR : d + 1 ≤ R.frames ∧ 8 + (mX7_restore.2.2.1 + 11) + 40 * d ≤ R.locals) (hw : (st.map zcat).sum ≤ 8) (hf : ce + mc ≤ R.cells ∧ sl + ms ≤ R.slots) (kk : ∀ (v : Option zV) (S' : zH) (Rf' : zG) (V' : zE), Qc v S' Rf' V' → Wa X μ R Z (ce + mc) (sl + ms) (n + mc) S' (pc + 3) L (v.toList ++ st) Rf' V') : Wa X μ R Z ce sl n S (pc) L (a1 :: zR r :: st) Rf V :=
  wa_callV (k1 := 1) (as := [a1]) (ci := 7) hd (hμ ▸ lL_130) w_inst_X7_restore w_sel_X7_restore w_init_X7 w_code_X7_restore ⟨by decide +kernel, by decide +kernel, by decide +kernel⟩ rfl rfl hS rfl hC hR hw hf kk
theorem lL_134 : Cond.methodLink RL 134 yX7_told ∈ lw_ok := lw_in 975 (by decide +kernel) (by decide +kernel)
theorem kL_134 {d mc r : Nat} {Qc : zQ} {a1 : zV} (hd : decode μ.2.1 pc = .ok (.invokevirtual 134, 3)) (hμ : μ.1.cls = RL) (hS : S r = some (.inr 7)) (hC : Ct d mc ms mX7_told [zR r, a1] n S Rf V Qc) (hR : d + 1 ≤ R.frames ∧ 8 + (mX7_told.2.2.1 + 11) + 40 * d ≤ R.locals) (hw : (st.map zcat).sum ≤ 8) (hf : ce + mc ≤ R.cells ∧ sl + ms ≤ R.slots) (kk : ∀ (v : Option zV) (S' : zH) (Rf' : zG) (V' : zE), Qc v S' Rf' V' → Wa X μ R Z (ce + mc) (sl + ms) (n + mc) S' (pc + 3) L (v.toList ++ st) Rf' V') : Wa X μ R Z ce sl n S (pc) L (a1 :: zR r :: st) Rf V :=
  wa_callV (k1 := 1) (as := [a1]) (ci := 7) hd (hμ ▸ lL_134) w_inst_X7_told w_sel_X7_told w_init_X7 w_code_X7_told ⟨by decide +kernel, by decide +kernel, by decide +kernel⟩ rfl rfl hS rfl hC hR hw hf kk
theorem lX4_90 : (RX4, 90, yX6_passNight) ∈ zNest := by decide +kernel
theorem kX4_90 {d mc : Nat} {Qc : zQ} {a1 a2 : zV} (hd : decode μ.2.1 pc = .ok (.invokestatic 90, 3)) (hμ : μ.1.cls = RX4) (hC : Ct d mc ms mX6_passNight [a1, a2] n S Rf V Qc) (hR : d + 1 ≤ R.frames ∧ 8 + (mX6_passNight.2.2.1 + 11) + 40 * d ≤ R.locals) (hw : (st.map zcat).sum ≤ 8) (hf : ce + mc ≤ R.cells ∧ sl + ms ≤ R.slots) (kk : ∀ (v : Option zV) (S' : zH) (Rf' : zG) (V' : zE), Qc v S' Rf' V' → Wa X μ R Z (ce + mc) (sl + ms) (n + mc) S' (pc + 3) L (v.toList ++ st) Rf' V') : Wa X μ R Z ce sl n S (pc) L (a2 :: a1 :: st) Rf V :=
  wa_callSN (k1 := 2) hd (hμ ▸ lX4_90) w_stat_X6_passNight w_init_X6 w_code_X6_passNight ⟨by decide +kernel, by decide +kernel, by decide +kernel⟩ rfl rfl hC hR hw hf kk
theorem lX5_61 : (RX5, 61, yX6_isOutside) ∈ zNest := by decide +kernel
theorem kX5_61 {d mc : Nat} {Qc : zQ} {a1 a2 a3 : zV} (hd : decode μ.2.1 pc = .ok (.invokestatic 61, 3)) (hμ : μ.1.cls = RX5) (hC : Ct d mc ms mX6_isOutside [a1, a2, a3] n S Rf V Qc) (hR : d + 1 ≤ R.frames ∧ 8 + (mX6_isOutside.2.2.1 + 11) + 40 * d ≤ R.locals) (hw : (st.map zcat).sum ≤ 8) (hf : ce + mc ≤ R.cells ∧ sl + ms ≤ R.slots) (kk : ∀ (v : Option zV) (S' : zH) (Rf' : zG) (V' : zE), Qc v S' Rf' V' → Wa X μ R Z (ce + mc) (sl + ms) (n + mc) S' (pc + 3) L (v.toList ++ st) Rf' V') : Wa X μ R Z ce sl n S (pc) L (a3 :: a2 :: a1 :: st) Rf V :=
  wa_callSN (k1 := 3) hd (hμ ▸ lX5_61) w_stat_X6_isOutside w_init_X6 w_code_X6_isOutside ⟨by decide +kernel, by decide +kernel, by decide +kernel⟩ rfl rfl hC hR hw hf kk
theorem lX2_37 : (RX2, 37, yX6_isOutside) ∈ zNest := by decide +kernel
theorem kX2_37 {d mc : Nat} {Qc : zQ} {a1 a2 a3 : zV} (hd : decode μ.2.1 pc = .ok (.invokestatic 37, 3)) (hμ : μ.1.cls = RX2) (hC : Ct d mc ms mX6_isOutside [a1, a2, a3] n S Rf V Qc) (hR : d + 1 ≤ R.frames ∧ 8 + (mX6_isOutside.2.2.1 + 11) + 40 * d ≤ R.locals) (hw : (st.map zcat).sum ≤ 8) (hf : ce + mc ≤ R.cells ∧ sl + ms ≤ R.slots) (kk : ∀ (v : Option zV) (S' : zH) (Rf' : zG) (V' : zE), Qc v S' Rf' V' → Wa X μ R Z (ce + mc) (sl + ms) (n + mc) S' (pc + 3) L (v.toList ++ st) Rf' V') : Wa X μ R Z ce sl n S (pc) L (a3 :: a2 :: a1 :: st) Rf V :=
  wa_callSN (k1 := 3) hd (hμ ▸ lX2_37) w_stat_X6_isOutside w_init_X6 w_code_X6_isOutside ⟨by decide +kernel, by decide +kernel, by decide +kernel⟩ rfl rfl hC hR hw hf kk
theorem lX2_78 : (RX2, 78, yX6_passNight) ∈ zNest := by decide +kernel
theorem kX2_78 {d mc : Nat} {Qc : zQ} {a1 a2 : zV} (hd : decode μ.2.1 pc = .ok (.invokestatic 78, 3)) (hμ : μ.1.cls = RX2) (hC : Ct d mc ms mX6_passNight [a1, a2] n S Rf V Qc) (hR : d + 1 ≤ R.frames ∧ 8 + (mX6_passNight.2.2.1 + 11) + 40 * d ≤ R.locals) (hw : (st.map zcat).sum ≤ 8) (hf : ce + mc ≤ R.cells ∧ sl + ms ≤ R.slots) (kk : ∀ (v : Option zV) (S' : zH) (Rf' : zG) (V' : zE), Qc v S' Rf' V' → Wa X μ R Z (ce + mc) (sl + ms) (n + mc) S' (pc + 3) L (v.toList ++ st) Rf' V') : Wa X μ R Z ce sl n S (pc) L (a2 :: a1 :: st) Rf V :=
  wa_callSN (k1 := 2) hd (hμ ▸ lX2_78) w_stat_X6_passNight w_init_X6 w_code_X6_passNight ⟨by decide +kernel, by decide +kernel, by decide +kernel⟩ rfl rfl hC hR hw hf kk
theorem lX0_34 : (RX0, 34, yX6_isOutside) ∈ zNest := by decide +kernel
theorem kX0_34 {d mc : Nat} {Qc : zQ} {a1 a2 a3 : zV} (hd : decode μ.2.1 pc = .ok (.invokestatic 34, 3)) (hμ : μ.1.cls = RX0) (hC : Ct d mc ms mX6_isOutside [a1, a2, a3] n S Rf V Qc) (hR : d + 1 ≤ R.frames ∧ 8 + (mX6_isOutside.2.2.1 + 11) + 40 * d ≤ R.locals) (hw : (st.map zcat).sum ≤ 8) (hf : ce + mc ≤ R.cells ∧ sl + ms ≤ R.slots) (kk : ∀ (v : Option zV) (S' : zH) (Rf' : zG) (V' : zE), Qc v S' Rf' V' → Wa X μ R Z (ce + mc) (sl + ms) (n + mc) S' (pc + 3) L (v.toList ++ st) Rf' V') : Wa X μ R Z ce sl n S (pc) L (a3 :: a2 :: a1 :: st) Rf V :=
  wa_callSN (k1 := 3) hd (hμ ▸ lX0_34) w_stat_X6_isOutside w_init_X6 w_code_X6_isOutside ⟨by decide +kernel, by decide +kernel, by decide +kernel⟩ rfl rfl hC hR hw hf kk
theorem clL_7 : Cond.classLink RL 7 "SnowTalk" ∈ lw_ok := lw_in 50 (by decide +kernel) (by decide +kernel)
theorem nL_7 (hd : decode μ.2.1 pc = .ok (.new 7, 3)) (hμ : μ.1.cls = RL) (hf : ce + 1 ≤ R.cells ∧ sl + 8 ≤ R.slots) (kk : Wa X μ R Z (ce + 1) (sl + 8) (n + 1) (za S n (some (.inr 6))) (pc + 3) L (zR n :: st) (zp Rf n (fun _ => none)) (zp V n (fun _ => 0))) : Wa X μ R Z ce sl n S (pc) L st Rf V :=
  wa_new (T := TX6) hd (hμ ▸ clL_7) (w_insb_X6) w_init_X6 inX6 rfl rfl tyX6_ok dfX6 hf kk
theorem clX6_7 : Cond.classLink RX6 7 "SnowTalk$Street" ∈ lw_ok := lw_in 58 (by decide +kernel) (by decide +kernel)
theorem nX6_7 (hd : decode μ.2.1 pc = .ok (.new 7, 3)) (hμ : μ.1.cls = RX6) (hf : ce + 1 ≤ R.cells ∧ sl + 11 ≤ R.slots) (kk : Wa X μ R Z (ce + 1) (sl + 11) (n + 1) (za S n (some (.inr 4))) (pc + 3) L (zR n :: st) (zp Rf n (fun _ => none)) (zp V n (fun _ => 0))) : Wa X μ R Z ce sl n S (pc) L st Rf V :=
  wa_new (T := TX4) hd (hμ ▸ clX6_7) (w_insb_X4) w_init_X4 inX4 rfl rfl tyX4_ok dfX4 hf kk
theorem clX6_23 : Cond.classLink RX6 23 "SnowTalk$Talk" ∈ lw_ok := lw_in 141 (by decide +kernel) (by decide +kernel)
theorem nX6_23 (hd : decode μ.2.1 pc = .ok (.new 23, 3)) (hμ : μ.1.cls = RX6) (hf : ce + 1 ≤ R.cells ∧ sl + 8 ≤ R.slots) (kk : Wa X μ R Z (ce + 1) (sl + 8) (n + 1) (za S n (some (.inr 5))) (pc + 3) L (zR n :: st) (zp Rf n (fun _ => none)) (zp V n (fun _ => 0))) : Wa X μ R Z ce sl n S (pc) L st Rf V :=
  wa_new (T := TX5) hd (hμ ▸ clX6_23) (w_insb_X5) w_init_X5 inX5 rfl rfl tyX5_ok dfX5 hf kk
theorem clX6_30 : Cond.classLink RX6 30 "SnowTalk$Places" ∈ lw_ok := lw_in 180 (by decide +kernel) (by decide +kernel)
theorem nX6_30 (hd : decode μ.2.1 pc = .ok (.new 30, 3)) (hμ : μ.1.cls = RX6) (hf : ce + 1 ≤ R.cells ∧ sl + 3 ≤ R.slots) (kk : Wa X μ R Z (ce + 1) (sl + 3) (n + 1) (za S n (some (.inr 1))) (pc + 3) L (zR n :: st) (zp Rf n (fun _ => none)) (zp V n (fun _ => 0))) : Wa X μ R Z ce sl n S (pc) L st Rf V :=
  wa_new (T := TX1) hd (hμ ▸ clX6_30) (w_insb_X1) w_init_X1 inX1 rfl rfl tyX1_ok dfX1 hf kk
theorem clX6_37 : Cond.classLink RX6 37 "SnowTalk$Salt" ∈ lw_ok := lw_in 198 (by decide +kernel) (by decide +kernel)
theorem nX6_37 (hd : decode μ.2.1 pc = .ok (.new 37, 3)) (hμ : μ.1.cls = RX6) (hf : ce + 1 ≤ R.cells ∧ sl + 4 ≤ R.slots) (kk : Wa X μ R Z (ce + 1) (sl + 4) (n + 1) (za S n (some (.inr 3))) (pc + 3) L (zR n :: st) (zp Rf n (fun _ => none)) (zp V n (fun _ => 0))) : Wa X μ R Z ce sl n S (pc) L st Rf V :=
  wa_new (T := TX3) hd (hμ ▸ clX6_37) (w_insb_X3) w_init_X3 inX3 rfl rfl tyX3_ok dfX3 hf kk
theorem clX6_44 : Cond.classLink RX6 44 "SnowTalk$Rows" ∈ lw_ok := lw_in 217 (by decide +kernel) (by decide +kernel)
theorem nX6_44 (hd : decode μ.2.1 pc = .ok (.new 44, 3)) (hμ : μ.1.cls = RX6) (hf : ce + 1 ≤ R.cells ∧ sl + 8 ≤ R.slots) (kk : Wa X μ R Z (ce + 1) (sl + 8) (n + 1) (za S n (some (.inr 2))) (pc + 3) L (zR n :: st) (zp Rf n (fun _ => none)) (zp V n (fun _ => 0))) : Wa X μ R Z ce sl n S (pc) L st Rf V :=
  wa_new (T := TX2) hd (hμ ▸ clX6_44) (w_insb_X2) w_init_X2 inX2 rfl rfl tyX2_ok dfX2 hf kk
theorem clX6_51 : Cond.classLink RX6 51 "SnowTalk$Lies" ∈ lw_ok := lw_in 251 (by decide +kernel) (by decide +kernel)
theorem nX6_51 (hd : decode μ.2.1 pc = .ok (.new 51, 3)) (hμ : μ.1.cls = RX6) (hf : ce + 1 ≤ R.cells ∧ sl + 2 ≤ R.slots) (kk : Wa X μ R Z (ce + 1) (sl + 2) (n + 1) (za S n (some (.inr 0))) (pc + 3) L (zR n :: st) (zp Rf n (fun _ => none)) (zp V n (fun _ => 0))) : Wa X μ R Z ce sl n S (pc) L st Rf V :=
  wa_new (T := TX0) hd (hμ ▸ clX6_51) (w_insb_X0) w_init_X0 inX0 rfl rfl tyX0_ok dfX0 hf kk
theorem clL_10 : Cond.classLink RL 10 "SnowTalkModel" ∈ lw_ok := lw_in 624 (by decide +kernel) (by decide +kernel)
theorem nL_10 (hd : decode μ.2.1 pc = .ok (.new 10, 3)) (hμ : μ.1.cls = RL) (hf : ce + 1 ≤ R.cells ∧ sl + 39 ≤ R.slots) (kk : Wa X μ R Z (ce + 1) (sl + 39) (n + 1) (za S n (some (.inr 7))) (pc + 3) L (zR n :: st) (zp Rf n (fun _ => none)) (zp V n (fun _ => 0))) : Wa X μ R Z ce sl n S (pc) L st Rf V :=
  wa_new (T := TX7) hd (hμ ▸ clL_10) (w_insb_X7) w_init_X7 inX7 rfl rfl tyX7_ok dfX7 hf kk
end
/-! contracts that say all: an int, a long, nothing; contracts by a property -/
abbrev qI (x : Int) (S : zH) (Rf : zG) (V : zE) : zQ := fun v S' Rf' V' => v = some (zI x) ∧ S' = S ∧ Rf' = Rf ∧ V' = V
abbrev qL (x : Int) (S : zH) (Rf : zG) (V : zE) : zQ := fun v S' Rf' V' => v = some (zL x) ∧ S' = S ∧ Rf' = Rf ∧ V' = V
abbrev qN (S : zH) (Rf : zG) (V : zE) : zQ := fun v S' Rf' V' => v = none ∧ S' = S ∧ Rf' = Rf ∧ V' = V
abbrev qPI (S : zH) (Rf : zG) (P : Int → zE → Prop) : zQ := fun v S' Rf' V' => ∃ x, v = some (zI x) ∧ S' = S ∧ Rf' = Rf ∧ P x V'
abbrev qPL (S : zH) (Rf : zG) (P : Int → zE → Prop) : zQ := fun v S' Rf' V' => ∃ x, v = some (zL x) ∧ S' = S ∧ Rf' = Rf ∧ P x V'
abbrev qPN (S : zH) (Rf : zG) (P : zE → Prop) : zQ := fun v S' Rf' V' => v = none ∧ S' = S ∧ Rf' = Rf ∧ P V'
abbrev Ci (d : Nat) (μ : zM) (as : List zV) (n : Nat) (S : zH) (Rf : zG) (V : zE) (x : Int) (V' : zE) : Prop := Ct d 0 0 μ as n S Rf V (qI x S Rf V')
abbrev Cl (d : Nat) (μ : zM) (as : List zV) (n : Nat) (S : zH) (Rf : zG) (V : zE) (x : Int) (V' : zE) : Prop := Ct d 0 0 μ as n S Rf V (qL x S Rf V')
abbrev Cv (d : Nat) (μ : zM) (as : List zV) (n : Nat) (S : zH) (Rf : zG) (V : zE) (V' : zE) : Prop := Ct d 0 0 μ as n S Rf V (qN S Rf V')
abbrev Cpi (d : Nat) (μ : zM) (as : List zV) (n : Nat) (S : zH) (Rf : zG) (V : zE) (P : Int → zE → Prop) : Prop := Ct d 0 0 μ as n S Rf V (qPI S Rf P)
abbrev Cpl (d : Nat) (μ : zM) (as : List zV) (n : Nat) (S : zH) (Rf : zG) (V : zE) (P : Int → zE → Prop) : Prop := Ct d 0 0 μ as n S Rf V (qPL S Rf P)
abbrev Cpv (d : Nat) (μ : zM) (as : List zV) (n : Nat) (S : zH) (Rf : zG) (V : zE) (P : zE → Prop) : Prop := Ct d 0 0 μ as n S Rf V (qPN S Rf P)
section
variable {X : zXt} {μ : zM} {R : Room} {Z : zZt} {ce sl n : Nat} {S : zH} {pc : Nat} {L : List (Option zV)} {st : List zV} {Rf : zG} {V' : zE}
theorem zdI {x : Int} (kk : Wa X μ R Z ce sl n S pc L (zI x :: st) Rf V') : ∀ (v : Option zV) (S' : zH) (Rf' : zG) (V1 : zE), qI x S Rf V' v S' Rf' V1 → Wa X μ R Z (ce + 0) (sl + 0) (n + 0) S' pc L (v.toList ++ st) Rf' V1 := by
  rintro _ _ _ _ ⟨rfl, rfl, rfl, rfl⟩; exact kk
theorem zdL {x : Int} (kk : Wa X μ R Z ce sl n S pc L (zL x :: st) Rf V') : ∀ (v : Option zV) (S' : zH) (Rf' : zG) (V1 : zE), qL x S Rf V' v S' Rf' V1 → Wa X μ R Z (ce + 0) (sl + 0) (n + 0) S' pc L (v.toList ++ st) Rf' V1 := by
  rintro _ _ _ _ ⟨rfl, rfl, rfl, rfl⟩; exact kk
theorem zdN (kk : Wa X μ R Z ce sl n S pc L st Rf V') : ∀ (v : Option zV) (S' : zH) (Rf' : zG) (V1 : zE), qN S Rf V' v S' Rf' V1 → Wa X μ R Z (ce + 0) (sl + 0) (n + 0) S' pc L (v.toList ++ st) Rf' V1 := by
  rintro _ _ _ _ ⟨rfl, rfl, rfl, rfl⟩; exact kk
theorem zpI {P : Int → zE → Prop} (kk : ∀ x V', P x V' → Wa X μ R Z ce sl n S pc L (zI x :: st) Rf V') : ∀ (v : Option zV) (S' : zH) (Rf' : zG) (V1 : zE), qPI S Rf P v S' Rf' V1 → Wa X μ R Z (ce + 0) (sl + 0) (n + 0) S' pc L (v.toList ++ st) Rf' V1 := by
  rintro _ _ _ _ ⟨x, rfl, rfl, rfl, h⟩; exact kk x _ h
theorem zpL {P : Int → zE → Prop} (kk : ∀ x V', P x V' → Wa X μ R Z ce sl n S pc L (zL x :: st) Rf V') : ∀ (v : Option zV) (S' : zH) (Rf' : zG) (V1 : zE), qPL S Rf P v S' Rf' V1 → Wa X μ R Z (ce + 0) (sl + 0) (n + 0) S' pc L (v.toList ++ st) Rf' V1 := by
  rintro _ _ _ _ ⟨x, rfl, rfl, rfl, h⟩; exact kk x _ h
theorem zpN {P : zE → Prop} (kk : ∀ V', P V' → Wa X μ R Z ce sl n S pc L st Rf V') : ∀ (v : Option zV) (S' : zH) (Rf' : zG) (V1 : zE), qPN S Rf P v S' Rf' V1 → Wa X μ R Z (ce + 0) (sl + 0) (n + 0) S' pc L (v.toList ++ st) Rf' V1 := by
  rintro _ _ _ _ ⟨rfl, rfl, rfl, h⟩; exact kk _ h
end

