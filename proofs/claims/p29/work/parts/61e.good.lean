/-! words of the law's own methods among the law's -/
set_option maxRecDepth 20000 in
theorem gc_61 : Cond.code yJ7_fill_53178 cJ7_fill_53178 4 none ∈ wsL_law := List.mem_of_getElem? (i := 61) rfl
set_option maxRecDepth 20000 in
theorem gc_103 : Cond.codeWith yL_does cL_does 7 (some .int) [(0, 326, 327, 82), (0, 326, 332, 85), (0, 326, 337, 88)] ∈ wsL_law := List.mem_of_getElem? (i := 103) rfl
set_option maxRecDepth 20000 in
theorem gc_110 : Cond.code yX7_knows cX7_knows 5 (some .boolean) ∈ wsL_law := List.mem_of_getElem? (i := 110) rfl
set_option maxRecDepth 20000 in
theorem gc_113 : Cond.code yX7_needMask cX7_needMask 1 none ∈ wsL_law := List.mem_of_getElem? (i := 113) rfl
set_option maxRecDepth 20000 in
theorem gc_118 : Cond.code yX7_needSecret cX7_needSecret 1 none ∈ wsL_law := List.mem_of_getElem? (i := 118) rfl
set_option maxRecDepth 20000 in
theorem gc_122 : Cond.code yX2_isKnower cX2_isKnower 3 (some .boolean) ∈ wsL_law := List.mem_of_getElem? (i := 122) rfl
set_option maxRecDepth 20000 in
theorem gc_124 : Cond.code yX7_isIn cX7_isIn 2 (some .boolean) ∈ wsL_law := List.mem_of_getElem? (i := 124) rfl
set_option maxRecDepth 20000 in
theorem gc_128 : Cond.code yX2_learn cX2_learn 3 none ∈ wsL_law := List.mem_of_getElem? (i := 128) rfl
set_option maxRecDepth 20000 in
theorem gc_132 : Cond.code yX2_forget cX2_forget 3 none ∈ wsL_law := List.mem_of_getElem? (i := 132) rfl
set_option maxRecDepth 20000 in
theorem gc_136 : Cond.code yX7_has cX7_has 4 (some .int) ∈ wsL_law := List.mem_of_getElem? (i := 136) rfl
set_option maxRecDepth 20000 in
theorem gc_140 : Cond.code yX7_needProp cX7_needProp 1 none ∈ wsL_law := List.mem_of_getElem? (i := 140) rfl
set_option maxRecDepth 20000 in
theorem gc_144 : Cond.code yX7_step cX7_step 5 (some .int) ∈ wsL_law := List.mem_of_getElem? (i := 144) rfl
set_option maxRecDepth 20000 in
theorem gc_150 : Cond.code yX7_needRange cX7_needRange 3 none ∈ wsL_law := List.mem_of_getElem? (i := 150) rfl
set_option maxRecDepth 20000 in
theorem gc_155 : Cond.code yX7_needUnlike cX7_needUnlike 2 none ∈ wsL_law := List.mem_of_getElem? (i := 155) rfl
set_option maxRecDepth 20000 in
theorem gc_159 : Cond.code yX7_needNoPlay cX7_needNoPlay 1 none ∈ wsL_law := List.mem_of_getElem? (i := 159) rfl
set_option maxRecDepth 20000 in
theorem gc_163 : Cond.code yX0_add cX0_add 5 none ∈ wsL_law := List.mem_of_getElem? (i := 163) rfl
set_option maxRecDepth 20000 in
theorem gc_168 : Cond.code yX7_tear cX7_tear 2 (some .int) ∈ wsL_law := List.mem_of_getElem? (i := 168) rfl
set_option maxRecDepth 20000 in
theorem gc_172 : Cond.code yX7_ill cX7_ill 2 (some .boolean) ∈ wsL_law := List.mem_of_getElem? (i := 172) rfl
set_option maxRecDepth 20000 in
theorem gc_179 : Cond.code yX7_ban cX7_ban 2 (some .boolean) ∈ wsL_law := List.mem_of_getElem? (i := 179) rfl
set_option maxRecDepth 20000 in
theorem gc_183 : Cond.code yL_travelled cL_travelled 1 (some .int) ∈ wsL_law := List.mem_of_getElem? (i := 183) rfl
set_option maxRecDepth 20000 in
theorem gc_187 : Cond.code yX7_travel cX7_travel 1 none ∈ wsL_law := List.mem_of_getElem? (i := 187) rfl
set_option maxRecDepth 20000 in
theorem gc_191 : Cond.code yX1_beFresh cX1_beFresh 1 none ∈ wsL_law := List.mem_of_getElem? (i := 191) rfl
set_option maxRecDepth 20000 in
theorem gc_196 : Cond.code yX7_gag cX7_gag 4 (some .int) ∈ wsL_law := List.mem_of_getElem? (i := 196) rfl
set_option maxRecDepth 20000 in
theorem gc_201 : Cond.code yX1_add cX1_add 4 (some .int) ∈ wsL_law := List.mem_of_getElem? (i := 201) rfl
set_option maxRecDepth 20000 in
theorem gc_206 : Cond.code yX7_points cX7_points 4 (some .int) ∈ wsL_law := List.mem_of_getElem? (i := 206) rfl
set_option maxRecDepth 20000 in
theorem gc_209 : Cond.code yL_begun cL_begun 2 (some .int) ∈ wsL_law := List.mem_of_getElem? (i := 209) rfl
set_option maxRecDepth 20000 in
theorem gc_213 : Cond.code yX7_night cX7_night 2 none ∈ wsL_law := List.mem_of_getElem? (i := 213) rfl
set_option maxRecDepth 20000 in
theorem gc_221 : Cond.code yX2_copyFrom cX2_copyFrom 2 none ∈ wsL_law := List.mem_of_getElem? (i := 221) rfl
set_option maxRecDepth 20000 in
theorem gc_229 : Cond.code yX7_enter cX7_enter 3 (some .int) ∈ wsL_law := List.mem_of_getElem? (i := 229) rfl
set_option maxRecDepth 20000 in
theorem gc_233 : Cond.code yX7_needPlay cX7_needPlay 1 none ∈ wsL_law := List.mem_of_getElem? (i := 233) rfl
set_option maxRecDepth 20000 in
theorem gc_237 : Cond.code yX0_isJust cX0_isJust 7 (some .boolean) ∈ wsL_law := List.mem_of_getElem? (i := 237) rfl
set_option maxRecDepth 20000 in
theorem gc_241 : Cond.code yX7_endMove cX7_endMove 2 (some .int) ∈ wsL_law := List.mem_of_getElem? (i := 241) rfl
set_option maxRecDepth 20000 in
theorem gc_246 : Cond.code yX7_passMinutes cX7_passMinutes 2 none ∈ wsL_law := List.mem_of_getElem? (i := 246) rfl
set_option maxRecDepth 20000 in
theorem gc_251 : Cond.code yX7_exit cX7_exit 3 (some .int) ∈ wsL_law := List.mem_of_getElem? (i := 251) rfl
set_option maxRecDepth 20000 in
theorem gc_255 : Cond.code yX7_needOn cX7_needOn 2 none ∈ wsL_law := List.mem_of_getElem? (i := 255) rfl
set_option maxRecDepth 20000 in
theorem gc_259 : Cond.code yX7_tell cX7_tell 6 (some .int) ∈ wsL_law := List.mem_of_getElem? (i := 259) rfl
set_option maxRecDepth 20000 in
theorem gc_263 : Cond.code yX7_wouldSpoil cX7_wouldSpoil 4 (some .boolean) ∈ wsL_law := List.mem_of_getElem? (i := 263) rfl
set_option maxRecDepth 20000 in
theorem gc_267 : Cond.code yX3_canBeClosed cX3_canBeClosed 3 (some .boolean) ∈ wsL_law := List.mem_of_getElem? (i := 267) rfl
set_option maxRecDepth 20000 in
theorem gc_272 : Cond.code Lib.Math.max.name Lib.Math.max.code 2 (some .int) ∈ wsL_law := List.mem_of_getElem? (i := 272) rfl
set_option maxRecDepth 20000 in
theorem gc_278 : Cond.code yX3_canBeDone cX3_canBeDone 3 (some .boolean) ∈ wsL_law := List.mem_of_getElem? (i := 278) rfl
set_option maxRecDepth 20000 in
theorem gc_286 : Cond.code yX3_canBeTold cX3_canBeTold 5 (some .boolean) ∈ wsL_law := List.mem_of_getElem? (i := 286) rfl
set_option maxRecDepth 20000 in
theorem gc_293 : Cond.code yX3_canHear cX3_canHear 5 (some .boolean) ∈ wsL_law := List.mem_of_getElem? (i := 293) rfl
set_option maxRecDepth 20000 in
theorem gc_298 : Cond.code yX0_listenersFrom cX0_listenersFrom 5 (some .int) ∈ wsL_law := List.mem_of_getElem? (i := 298) rfl
set_option maxRecDepth 20000 in
theorem gc_304 : Cond.code yX3_canBeGiven cX3_canBeGiven 4 (some .boolean) ∈ wsL_law := List.mem_of_getElem? (i := 304) rfl
set_option maxRecDepth 20000 in
theorem gc_309 : Cond.code yX7_give cX7_give 5 (some .int) ∈ wsL_law := List.mem_of_getElem? (i := 309) rfl
set_option maxRecDepth 20000 in
theorem gc_313 : Cond.code yX7_take cX7_take 3 (some .int) ∈ wsL_law := List.mem_of_getElem? (i := 313) rfl
set_option maxRecDepth 20000 in
theorem gc_317 : Cond.code yX7_greet cX7_greet 3 (some .int) ∈ wsL_law := List.mem_of_getElem? (i := 317) rfl
set_option maxRecDepth 20000 in
theorem gc_321 : Cond.code yX7_play cX7_play 5 (some .int) ∈ wsL_law := List.mem_of_getElem? (i := 321) rfl
set_option maxRecDepth 20000 in
theorem gc_328 : Cond.code Lib.Math.min.name Lib.Math.min.code 2 (some .int) ∈ wsL_law := List.mem_of_getElem? (i := 328) rfl
set_option maxRecDepth 20000 in
theorem gc_332 : Cond.code yX1_laughsNow cX1_laughsNow 2 (some .int) ∈ wsL_law := List.mem_of_getElem? (i := 332) rfl
set_option maxRecDepth 20000 in
theorem gc_337 : Cond.code yX7_isKnown cX7_isKnown 3 (some .boolean) ∈ wsL_law := List.mem_of_getElem? (i := 337) rfl
set_option maxRecDepth 20000 in
theorem gc_341 : Cond.code yX7_loreToAsk cX7_loreToAsk 1 (some (.object "MaskHall$Lore")) ∈ wsL_law := List.mem_of_getElem? (i := 341) rfl
set_option maxRecDepth 20000 in
theorem gc_345 : Cond.code yX7_holder cX7_holder 2 (some .int) ∈ wsL_law := List.mem_of_getElem? (i := 345) rfl
set_option maxRecDepth 20000 in
theorem gc_349 : Cond.code yX7_count cX7_count 2 (some .int) ∈ wsL_law := List.mem_of_getElem? (i := 349) rfl
set_option maxRecDepth 20000 in
theorem gc_356 : Cond.code yL_isTold cL_isTold 17 (some .boolean) ∈ wsL_law := List.mem_of_getElem? (i := 356) rfl
set_option maxRecDepth 20000 in
theorem gc_360 : Cond.code yL_isNight cL_isNight 9 (some .boolean) ∈ wsL_law := List.mem_of_getElem? (i := 360) rfl
set_option maxRecDepth 20000 in
theorem gc_363 : Cond.code yL_isMove cL_isMove 25 (some .boolean) ∈ wsL_law := List.mem_of_getElem? (i := 363) rfl
set_option maxRecDepth 20000 in
theorem gc_366 : Cond.code yL_isIn cL_isIn 2 (some .boolean) ∈ wsL_law := List.mem_of_getElem? (i := 366) rfl
set_option maxRecDepth 20000 in
theorem gc_369 : Cond.code yL_moves cL_moves 2 (some .int) ∈ wsL_law := List.mem_of_getElem? (i := 369) rfl
set_option maxRecDepth 20000 in
theorem gc_372 : Cond.code yL_passes cL_passes 4 none ∈ wsL_law := List.mem_of_getElem? (i := 372) rfl
set_option maxRecDepth 20000 in
theorem gc_375 : Cond.code yL_closes cL_closes 14 (some .boolean) ∈ wsL_law := List.mem_of_getElem? (i := 375) rfl
set_option maxRecDepth 20000 in
theorem gc_378 : Cond.code yL_isSo cL_isSo 11 (some .boolean) ∈ wsL_law := List.mem_of_getElem? (i := 378) rfl
set_option maxRecDepth 20000 in
theorem gc_381 : Cond.code yL_way cL_way 12 (some .int) ∈ wsL_law := List.mem_of_getElem? (i := 381) rfl
set_option maxRecDepth 20000 in
theorem gc_385 : Cond.code yX7_state cX7_state 1 (some .int) ∈ wsL_law := List.mem_of_getElem? (i := 385) rfl
set_option maxRecDepth 20000 in
theorem gc_389 : Cond.code yX7_next cX7_next 1 (some .int) ∈ wsL_law := List.mem_of_getElem? (i := 389) rfl
set_option maxRecDepth 20000 in
theorem gc_393 : Cond.code yX7_can cX7_can 1 (some .boolean) ∈ wsL_law := List.mem_of_getElem? (i := 393) rfl
set_option maxRecDepth 20000 in
theorem gc_397 : Cond.code yX7_way cX7_way 1 (some .int) ∈ wsL_law := List.mem_of_getElem? (i := 397) rfl
set_option maxRecDepth 20000 in
theorem gc_402 : Cond.code yX4_movesTo cX4_movesTo 5 (some .int) ∈ wsL_law := List.mem_of_getElem? (i := 402) rfl
set_option maxRecDepth 20000 in
theorem gc_412 : Cond.code yX4_toHaveOn cX4_toHaveOn 2 (some .int) ∈ wsL_law := List.mem_of_getElem? (i := 412) rfl
set_option maxRecDepth 20000 in
theorem gc_416 : Cond.code yX4_toHear cX4_toHear 4 (some .int) ∈ wsL_law := List.mem_of_getElem? (i := 416) rfl
set_option maxRecDepth 20000 in
theorem gc_422 : Cond.code yX4_toGet cX4_toGet 5 (some .int) ∈ wsL_law := List.mem_of_getElem? (i := 422) rfl
set_option maxRecDepth 20000 in
theorem gc_427 : Cond.code yX7_wayAnew cX7_wayAnew 1 (some .int) ∈ wsL_law := List.mem_of_getElem? (i := 427) rfl
set_option maxRecDepth 20000 in
theorem gc_431 : Cond.code yX6_movesTo cX6_movesTo 3 (some .int) ∈ wsL_law := List.mem_of_getElem? (i := 431) rfl
set_option maxRecDepth 20000 in
theorem gc_436 : Cond.code yJ7_fill_d0a16 cJ7_fill_d0a16 5 none ∈ wsL_law := List.mem_of_getElem? (i := 436) rfl
set_option maxRecDepth 20000 in
theorem gc_440 : Cond.code yX6_caseNow cX6_caseNow 3 (some .int) ∈ wsL_law := List.mem_of_getElem? (i := 440) rfl
set_option maxRecDepth 20000 in
theorem gc_449 : Cond.code yX6_isInReach cX6_isInReach 3 (some .boolean) ∈ wsL_law := List.mem_of_getElem? (i := 449) rfl
set_option maxRecDepth 20000 in
theorem gc_453 : Cond.code yX6_casesThatDo cX6_casesThatDo 6 (some .long) ∈ wsL_law := List.mem_of_getElem? (i := 453) rfl
set_option maxRecDepth 20000 in
theorem gc_461 : Cond.code yX6_tryOneMoreMove cX6_tryOneMoreMove 5 none ∈ wsL_law := List.mem_of_getElem? (i := 461) rfl
set_option maxRecDepth 20000 in
theorem gc_467 : Cond.code yX6_tryEntersAndExits cX6_tryEntersAndExits 3 none ∈ wsL_law := List.mem_of_getElem? (i := 467) rfl
set_option maxRecDepth 20000 in
theorem gc_472 : Cond.code yX6_casesAfterTelling cX6_casesAfterTelling 7 (some .long) ∈ wsL_law := List.mem_of_getElem? (i := 472) rfl
set_option maxRecDepth 20000 in
theorem gc_476 : Cond.code yX6_casesAfterGiving cX6_casesAfterGiving 6 (some .long) ∈ wsL_law := List.mem_of_getElem? (i := 476) rfl
set_option maxRecDepth 20000 in
theorem gc_480 : Cond.code yX7_share cX7_share 4 (some .double) ∈ wsL_law := List.mem_of_getElem? (i := 480) rfl
