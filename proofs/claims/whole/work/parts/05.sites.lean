theorem jms {l : List Cond} (ps : List Nat) (h : l = ps.filterMap (fun i => lw_tbl[i]?)) (g : l.all goodWord = true) : ∀ w ∈ l, w ∈ jB := by
  intro w hw
  have h1 := List.all_eq_true.mp g w hw
  rw [h] at hw
  obtain ⟨i, -, hi⟩ := List.mem_filterMap.mp hw
  exact List.mem_filter.mpr ⟨List.mem_of_getElem? hi, h1⟩
theorem uw_X0 : ∀ w ∈ u_ws RX0 TX0 4, w ∈ jB := jms [115, 117, 119, 121] (by decide +kernel) (by decide +kernel)
theorem uw_X1 : ∀ w ∈ u_ws RX1 TX1 11, w ∈ jB := jms [80, 82, 84, 86, 88, 90, 92, 94, 96, 98, 100] (by decide +kernel) (by decide +kernel)
theorem uw_X2 : ∀ w ∈ u_ws RX2 TX2 7, w ∈ jB := jms [146, 148, 150, 152, 154, 156, 158] (by decide +kernel) (by decide +kernel)
theorem uw_X3 : ∀ w ∈ u_ws RX3 TX3 24, w ∈ jB := jms [551, 553, 555, 557, 559, 561, 563, 565, 567, 569, 571, 573, 575, 577, 579, 581, 583, 585, 587, 589, 591, 593, 595, 597] (by decide +kernel) (by decide +kernel)
theorem k_X2_init : jCk yX2_init cX2_init 1 none 0 := ⟨(jm 52 (by decide +kernel) rfl), (jm 41 (by decide +kernel) rfl), by decide +kernel, by decide⟩
theorem k_X1_init : jCk yX1_init cX1_init 1 none 0 := ⟨(jm 60 (by decide +kernel) rfl), (jm 42 (by decide +kernel) rfl), by decide +kernel, by decide⟩
theorem k_X0_init : jCk yX0_init cX0_init 1 none 0 := ⟨(jm 109 (by decide +kernel) rfl), (jm 43 (by decide +kernel) rfl), by decide +kernel, by decide⟩
theorem k_X1_measure : jCk yX1_measure cX1_measure 6 none 2 := ⟨(jm 127 (by decide +kernel) rfl), (jm 42 (by decide +kernel) rfl), by decide +kernel, by decide⟩
theorem k_X1_strip : jCk yX1_strip cX1_strip 1 none 0 := ⟨(jm 131 (by decide +kernel) rfl), (jm 42 (by decide +kernel) rfl), by decide +kernel, by decide⟩
theorem k_J7_fill_53178 : jCk yJ7_fill_53178 cJ7_fill_53178 4 none 2 := ⟨(jm 134 (by decide +kernel) rfl), (jm 44 (by decide +kernel) rfl), by decide +kernel, by decide⟩
theorem k_X1_loosenAll : jCk yX1_loosenAll cX1_loosenAll 1 none 0 := ⟨(jm 138 (by decide +kernel) rfl), (jm 42 (by decide +kernel) rfl), by decide +kernel, by decide⟩
theorem k_X2_quilt : jCk yX2_quilt cX2_quilt 3 (some .int) 2 := ⟨(jm 165 (by decide +kernel) rfl), (jm 41 (by decide +kernel) rfl), by decide +kernel, by decide⟩
theorem k_X2_isWithin : jCk yX2_isWithin cX2_isWithin 3 (some .boolean) 3 := ⟨(jm 168 (by decide +kernel) rfl), (jm 41 (by decide +kernel) rfl), by decide +kernel, by decide⟩
theorem k_X1_places : jCk yX1_places cX1_places 1 (some .int) 0 := ⟨(jm 172 (by decide +kernel) rfl), (jm 42 (by decide +kernel) rfl), by decide +kernel, by decide⟩
theorem k_X2_say : jCk yX2_say cX2_say 2 (some .int) 1 := ⟨(jm 176 (by decide +kernel) rfl), (jm 41 (by decide +kernel) rfl), by decide +kernel, by decide⟩
theorem k_X2_wipe : jCk yX2_wipe cX2_wipe 2 (some .int) 0 := ⟨(jm 180 (by decide +kernel) rfl), (jm 41 (by decide +kernel) rfl), by decide +kernel, by decide⟩
theorem k_X2_fault : jCk yX2_fault cX2_fault 2 (some .int) 0 := ⟨(jm 184 (by decide +kernel) rfl), (jm 41 (by decide +kernel) rfl), by decide +kernel, by decide⟩
theorem k_X2_canStand : jCk yX2_canStand cX2_canStand 1 (some .boolean) 1 := ⟨(jm 187 (by decide +kernel) rfl), (jm 41 (by decide +kernel) rfl), by decide +kernel, by decide⟩
theorem k_X2_isFamily : jCk yX2_isFamily cX2_isFamily 1 (some .boolean) 1 := ⟨(jm 190 (by decide +kernel) rfl), (jm 41 (by decide +kernel) rfl), by decide +kernel, by decide⟩
theorem k_X2_lay : jCk yX2_lay cX2_lay 2 (some .int) 0 := ⟨(jm 194 (by decide +kernel) rfl), (jm 41 (by decide +kernel) rfl), by decide +kernel, by decide⟩
theorem k_X1_put : jCk yX1_put cX1_put 3 none 2 := ⟨(jm 200 (by decide +kernel) rfl), (jm 42 (by decide +kernel) rfl), by decide +kernel, by decide⟩
theorem k_X1_squares : jCk yX1_squares cX1_squares 3 (some .int) 0 := ⟨(jm 205 (by decide +kernel) rfl), (jm 42 (by decide +kernel) rfl), by decide +kernel, by decide⟩
theorem k_J6_bitCount_0f7a4 : jCk yJ6_bitCount_0f7a4 cJ6_bitCount_0f7a4 1 (some .int) 1 := ⟨(jm 208 (by decide +kernel) rfl), (jm 46 (by decide +kernel) rfl), by decide +kernel, by decide⟩
theorem k_X2_family : jCk yX2_family cX2_family 2 (some .int) 1 := ⟨(jm 215 (by decide +kernel) rfl), (jm 41 (by decide +kernel) rfl), by decide +kernel, by decide⟩
theorem k_X1_isPlace : jCk yX1_isPlace cX1_isPlace 2 (some .boolean) 1 := ⟨(jm 219 (by decide +kernel) rfl), (jm 42 (by decide +kernel) rfl), by decide +kernel, by decide⟩
theorem k_X1_familyAt : jCk yX1_familyAt cX1_familyAt 3 (some .int) 1 := ⟨(jm 224 (by decide +kernel) rfl), (jm 42 (by decide +kernel) rfl), by decide +kernel, by decide⟩
theorem k_X2_has : jCk yX2_has cX2_has 2 (some .boolean) 2 := ⟨(jm 227 (by decide +kernel) rfl), (jm 41 (by decide +kernel) rfl), by decide +kernel, by decide⟩
theorem k_X2_foes : jCk yX2_foes cX2_foes 4 (some .int) 3 := ⟨(jm 231 (by decide +kernel) rfl), (jm 41 (by decide +kernel) rfl), by decide +kernel, by decide⟩
theorem k_X1_setFoes : jCk yX1_setFoes cX1_setFoes 4 none 3 := ⟨(jm 235 (by decide +kernel) rfl), (jm 42 (by decide +kernel) rfl), by decide +kernel, by decide⟩
theorem k_X1_loosen : jCk yX1_loosen cX1_loosen 3 none 2 := ⟨(jm 239 (by decide +kernel) rfl), (jm 42 (by decide +kernel) rfl), by decide +kernel, by decide⟩
theorem k_X1_beside : jCk yX1_beside cX1_beside 3 (some .int) 2 := ⟨(jm 243 (by decide +kernel) rfl), (jm 42 (by decide +kernel) rfl), by decide +kernel, by decide⟩
theorem k_X1_below : jCk yX1_below cX1_below 3 (some .int) 2 := ⟨(jm 247 (by decide +kernel) rfl), (jm 42 (by decide +kernel) rfl), by decide +kernel, by decide⟩
theorem k_X2_set : jCk yX2_set cX2_set 4 (some .int) 2 := ⟨(jm 251 (by decide +kernel) rfl), (jm 41 (by decide +kernel) rfl), by decide +kernel, by decide⟩
theorem k_X2_sew : jCk yX2_sew cX2_sew 3 (some .int) 2 := ⟨(jm 255 (by decide +kernel) rfl), (jm 41 (by decide +kernel) rfl), by decide +kernel, by decide⟩
theorem k_X1_isSeam : jCk yX1_isSeam cX1_isSeam 4 (some .boolean) 2 := ⟨(jm 259 (by decide +kernel) rfl), (jm 42 (by decide +kernel) rfl), by decide +kernel, by decide⟩
theorem k_X1_hasSquare : jCk yX1_hasSquare cX1_hasSquare 2 (some .boolean) 1 := ⟨(jm 263 (by decide +kernel) rfl), (jm 42 (by decide +kernel) rfl), by decide +kernel, by decide⟩
theorem k_X1_isSewn : jCk yX1_isSewn cX1_isSewn 3 (some .boolean) 2 := ⟨(jm 268 (by decide +kernel) rfl), (jm 42 (by decide +kernel) rfl), by decide +kernel, by decide⟩
theorem k_X1_countBetween : jCk yX1_countBetween cX1_countBetween 3 (some .int) 2 := ⟨(jm 272 (by decide +kernel) rfl), (jm 42 (by decide +kernel) rfl), by decide +kernel, by decide⟩
theorem k_X1_isSeamOfFoes : jCk yX1_isSeamOfFoes cX1_isSeamOfFoes 4 (some .boolean) 2 := ⟨(jm 277 (by decide +kernel) rfl), (jm 42 (by decide +kernel) rfl), by decide +kernel, by decide⟩
theorem k_X1_foesOf : jCk yX1_foesOf cX1_foesOf 2 (some .int) 1 := ⟨(jm 282 (by decide +kernel) rfl), (jm 42 (by decide +kernel) rfl), by decide +kernel, by decide⟩
theorem k_X1_join : jCk yX1_join cX1_join 3 none 2 := ⟨(jm 286 (by decide +kernel) rfl), (jm 42 (by decide +kernel) rfl), by decide +kernel, by decide⟩
theorem k_X1_threadOf : jCk yX1_threadOf cX1_threadOf 3 (some .int) 2 := ⟨(jm 290 (by decide +kernel) rfl), (jm 42 (by decide +kernel) rfl), by decide +kernel, by decide⟩
theorem k_X2_unpick : jCk yX2_unpick cX2_unpick 3 (some .int) 2 := ⟨(jm 294 (by decide +kernel) rfl), (jm 41 (by decide +kernel) rfl), by decide +kernel, by decide⟩
theorem k_X2_birth : jCk yX2_birth cX2_birth 3 (some .int) 2 := ⟨(jm 299 (by decide +kernel) rfl), (jm 41 (by decide +kernel) rfl), by decide +kernel, by decide⟩
theorem k_X1_bear : jCk yX1_bear cX1_bear 5 (some .int) 2 := ⟨(jm 304 (by decide +kernel) rfl), (jm 42 (by decide +kernel) rfl), by decide +kernel, by decide⟩
theorem k_X1_joinedTo : jCk yX1_joinedTo cX1_joinedTo 4 (some .int) 1 := ⟨(jm 309 (by decide +kernel) rfl), (jm 42 (by decide +kernel) rfl), by decide +kernel, by decide⟩
theorem k_X2_death : jCk yX2_death cX2_death 2 (some .int) 1 := ⟨(jm 313 (by decide +kernel) rfl), (jm 41 (by decide +kernel) rfl), by decide +kernel, by decide⟩
theorem k_X1_bury : jCk yX1_bury cX1_bury 4 (some .int) 1 := ⟨(jm 317 (by decide +kernel) rfl), (jm 42 (by decide +kernel) rfl), by decide +kernel, by decide⟩
theorem k_X2_pieces : jCk yX2_pieces cX2_pieces 2 (some .int) 1 := ⟨(jm 321 (by decide +kernel) rfl), (jm 41 (by decide +kernel) rfl), by decide +kernel, by decide⟩
theorem k_X1_countPieces : jCk yX1_countPieces cX1_countPieces 5 (some .int) 1 := ⟨(jm 325 (by decide +kernel) rfl), (jm 42 (by decide +kernel) rfl), by decide +kernel, by decide⟩
theorem k_X1_pieceWith : jCk yX1_pieceWith cX1_pieceWith 6 (some .int) 2 := ⟨(jm 329 (by decide +kernel) rfl), (jm 42 (by decide +kernel) rfl), by decide +kernel, by decide⟩
theorem k_X2_cold : jCk yX2_cold cX2_cold 1 (some .int) 0 := ⟨(jm 334 (by decide +kernel) rfl), (jm 41 (by decide +kernel) rfl), by decide +kernel, by decide⟩
theorem k_X1_coldSquares : jCk yX1_coldSquares cX1_coldSquares 4 (some .int) 0 := ⟨(jm 338 (by decide +kernel) rfl), (jm 42 (by decide +kernel) rfl), by decide +kernel, by decide⟩
theorem k_X2_spent : jCk yX2_spent cX2_spent 1 (some .int) 0 := ⟨(jm 342 (by decide +kernel) rfl), (jm 41 (by decide +kernel) rfl), by decide +kernel, by decide⟩
theorem k_X1_threadOfAll : jCk yX1_threadOfAll cX1_threadOfAll 3 (some .int) 0 := ⟨(jm 346 (by decide +kernel) rfl), (jm 42 (by decide +kernel) rfl), by decide +kernel, by decide⟩
theorem k_X1_countSewn : jCk yX1_countSewn cX1_countSewn 1 (some .int) 0 := ⟨(jm 350 (by decide +kernel) rfl), (jm 42 (by decide +kernel) rfl), by decide +kernel, by decide⟩
theorem k_X2_parts : jCk yX2_parts cX2_parts 1 (some .int) 0 := ⟨(jm 354 (by decide +kernel) rfl), (jm 41 (by decide +kernel) rfl), by decide +kernel, by decide⟩
theorem k_X1_partingSquares : jCk yX1_partingSquares cX1_partingSquares 5 (some .int) 0 := ⟨(jm 358 (by decide +kernel) rfl), (jm 42 (by decide +kernel) rfl), by decide +kernel, by decide⟩
theorem k_X2_whole : jCk yX2_whole cX2_whole 7 (some .int) 1 := ⟨(jm 363 (by decide +kernel) rfl), (jm 41 (by decide +kernel) rfl), by decide +kernel, by decide⟩
theorem k_X1_become : jCk yX1_become cX1_become 3 none 1 := ⟨(jm 367 (by decide +kernel) rfl), (jm 42 (by decide +kernel) rfl), by decide +kernel, by decide⟩
theorem k_J9_min_7cf53 : jCk yJ9_min_7cf53 cJ9_min_7cf53 2 (some .int) 2 := ⟨(jm 371 (by decide +kernel) rfl), (jm 47 (by decide +kernel) rfl), by decide +kernel, by decide⟩
theorem k_J9_max_7cf53 : jCk yJ9_max_7cf53 cJ9_max_7cf53 2 (some .int) 2 := ⟨(jm 374 (by decide +kernel) rfl), (jm 47 (by decide +kernel) rfl), by decide +kernel, by decide⟩
theorem k_X2_joinAll : jCk yX2_joinAll cX2_joinAll 9 (some .int) 3 := ⟨(jm 378 (by decide +kernel) rfl), (jm 41 (by decide +kernel) rfl), by decide +kernel, by decide⟩
theorem k_X2_joinsPieces : jCk yX2_joinsPieces cX2_joinsPieces 3 (some .boolean) 2 := ⟨(jm 382 (by decide +kernel) rfl), (jm 41 (by decide +kernel) rfl), by decide +kernel, by decide⟩
theorem k_X2_patch : jCk yX2_patch cX2_patch 7 (some .int) 2 := ⟨(jm 388 (by decide +kernel) rfl), (jm 41 (by decide +kernel) rfl), by decide +kernel, by decide⟩
theorem k_X2_wash : jCk yX2_wash cX2_wash 9 (some .int) 2 := ⟨(jm 392 (by decide +kernel) rfl), (jm 41 (by decide +kernel) rfl), by decide +kernel, by decide⟩
theorem k_X2_isPart : jCk yX2_isPart cX2_isPart 3 (some .boolean) 3 := ⟨(jm 395 (by decide +kernel) rfl), (jm 41 (by decide +kernel) rfl), by decide +kernel, by decide⟩
theorem k_X2_unlikeness : jCk yX2_unlikeness cX2_unlikeness 2 (some .int) 2 := ⟨(jm 398 (by decide +kernel) rfl), (jm 41 (by decide +kernel) rfl), by decide +kernel, by decide⟩
theorem k_J9_abs_0f7a4 : jCk yJ9_abs_0f7a4 cJ9_abs_0f7a4 1 (some .int) 1 := ⟨(jm 401 (by decide +kernel) rfl), (jm 47 (by decide +kernel) rfl), by decide +kernel, by decide⟩
theorem k_X2_placings : jCk yX2_placings cX2_placings 6 (some .int) 4 := ⟨(jm 406 (by decide +kernel) rfl), (jm 41 (by decide +kernel) rfl), by decide +kernel, by decide⟩
theorem k_X2_refusalOfSleepers : jCk yX2_refusalOfSleepers cX2_refusalOfSleepers 5 (some .int) 4 := ⟨(jm 410 (by decide +kernel) rfl), (jm 41 (by decide +kernel) rfl), by decide +kernel, by decide⟩
theorem k_X2_isCrowd : jCk yX2_isCrowd cX2_isCrowd 1 (some .boolean) 1 := ⟨(jm 413 (by decide +kernel) rfl), (jm 41 (by decide +kernel) rfl), by decide +kernel, by decide⟩
theorem k_X0_gather : jCk yX0_gather cX0_gather 5 none 4 := ⟨(jm 417 (by decide +kernel) rfl), (jm 43 (by decide +kernel) rfl), by decide +kernel, by decide⟩
theorem k_X0_count : jCk yX0_count cX0_count 3 (some .int) 2 := ⟨(jm 423 (by decide +kernel) rfl), (jm 43 (by decide +kernel) rfl), by decide +kernel, by decide⟩
theorem k_X0_layFrom : jCk yX0_layFrom cX0_layFrom 8 (some .int) 3 := ⟨(jm 427 (by decide +kernel) rfl), (jm 43 (by decide +kernel) rfl), by decide +kernel, by decide⟩
theorem k_X0_isLastRowWarm : jCk yX0_isLastRowWarm cX0_isLastRowWarm 4 (some .boolean) 1 := ⟨(jm 432 (by decide +kernel) rfl), (jm 43 (by decide +kernel) rfl), by decide +kernel, by decide⟩
theorem k_X0_isWarm : jCk yX0_isWarm cX0_isWarm 3 (some .boolean) 2 := ⟨(jm 436 (by decide +kernel) rfl), (jm 43 (by decide +kernel) rfl), by decide +kernel, by decide⟩
theorem k_X1_around : jCk yX1_around cX1_around 5 (some .int) 1 := ⟨(jm 441 (by decide +kernel) rfl), (jm 42 (by decide +kernel) rfl), by decide +kernel, by decide⟩
theorem k_X0_layNobody : jCk yX0_layNobody cX0_layNobody 4 (some .int) 3 := ⟨(jm 446 (by decide +kernel) rfl), (jm 43 (by decide +kernel) rfl), by decide +kernel, by decide⟩
theorem k_X0_bannedFamilies : jCk yX0_bannedFamilies cX0_bannedFamilies 6 (some .int) 2 := ⟨(jm 450 (by decide +kernel) rfl), (jm 43 (by decide +kernel) rfl), by decide +kernel, by decide⟩
theorem k_X0_sleeperAt : jCk yX0_sleeperAt cX0_sleeperAt 2 (some .int) 1 := ⟨(jm 454 (by decide +kernel) rfl), (jm 43 (by decide +kernel) rfl), by decide +kernel, by decide⟩
theorem k_X0_layOne : jCk yX0_layOne cX0_layOne 6 (some .int) 4 := ⟨(jm 459 (by decide +kernel) rfl), (jm 43 (by decide +kernel) rfl), by decide +kernel, by decide⟩
theorem k_X0_rest : jCk yX0_rest cX0_rest 3 none 2 := ⟨(jm 463 (by decide +kernel) rfl), (jm 43 (by decide +kernel) rfl), by decide +kernel, by decide⟩
theorem k_X0_rise : jCk yX0_rise cX0_rise 3 none 2 := ⟨(jm 467 (by decide +kernel) rfl), (jm 43 (by decide +kernel) rfl), by decide +kernel, by decide⟩
theorem k_X2_placed : jCk yX2_placed cX2_placed 7 (some .int) 5 := ⟨(jm 471 (by decide +kernel) rfl), (jm 41 (by decide +kernel) rfl), by decide +kernel, by decide⟩
theorem k_X2_grown : jCk yX2_grown cX2_grown 6 (some .long) 0 := ⟨(jm 476 (by decide +kernel) rfl), (jm 41 (by decide +kernel) rfl), by decide +kernel, by decide⟩
theorem k_X2_clearedOrders : jCk yX2_clearedOrders cX2_clearedOrders 3 (some (.array .long)) 0 := ⟨(jm 480 (by decide +kernel) rfl), (jm 41 (by decide +kernel) rfl), by decide +kernel, by decide⟩
theorem k_J7_fill_d0a16 : jCk yJ7_fill_d0a16 cJ7_fill_d0a16 5 none 2 := ⟨(jm 483 (by decide +kernel) rfl), (jm 44 (by decide +kernel) rfl), by decide +kernel, by decide⟩
theorem k_X2_could : jCk yX2_could cX2_could 2 (some .int) 1 := ⟨(jm 489 (by decide +kernel) rfl), (jm 41 (by decide +kernel) rfl), by decide +kernel, by decide⟩
theorem k_X2_turn : jCk yX2_turn cX2_turn 1 (some .int) 0 := ⟨(jm 493 (by decide +kernel) rfl), (jm 41 (by decide +kernel) rfl), by decide +kernel, by decide⟩
theorem k_X1_becomeTurned : jCk yX1_becomeTurned cX1_becomeTurned 6 none 1 := ⟨(jm 497 (by decide +kernel) rfl), (jm 42 (by decide +kernel) rfl), by decide +kernel, by decide⟩
theorem k_X2_years : jCk yX2_years cX2_years 9 (some .int) 3 := ⟨(jm 502 (by decide +kernel) rfl), (jm 41 (by decide +kernel) rfl), by decide +kernel, by decide⟩
theorem k_X2_image : jCk yX2_image cX2_image 3 (some .int) 1 := ⟨(jm 507 (by decide +kernel) rfl), (jm 41 (by decide +kernel) rfl), by decide +kernel, by decide⟩
theorem k_X2_restore : jCk yX2_restore cX2_restore 3 (some .int) 1 := ⟨(jm 511 (by decide +kernel) rfl), (jm 41 (by decide +kernel) rfl), by decide +kernel, by decide⟩
theorem k_X2_told : jCk yX2_told cX2_told 2 (some .int) 1 := ⟨(jm 515 (by decide +kernel) rfl), (jm 41 (by decide +kernel) rfl), by decide +kernel, by decide⟩
theorem k_X3_init : jCk yX3_init cX3_init 1 none 0 := ⟨(jm 520 (by decide +kernel) rfl), (jm 45 (by decide +kernel) rfl), by decide +kernel, by decide⟩
theorem k_X3_spread : jCk yX3_spread cX3_spread 4 none 2 := ⟨(jm 526 (by decide +kernel) rfl), (jm 45 (by decide +kernel) rfl), by decide +kernel, by decide⟩
theorem k_X3_quilt : jCk yX3_quilt cX3_quilt 3 (some .int) 2 := ⟨(jm 604 (by decide +kernel) rfl), (jm 45 (by decide +kernel) rfl), by decide +kernel, by decide⟩
theorem k_X3_in : jCk yX3_in cX3_in 6 (some .boolean) 3 := ⟨(jm 608 (by decide +kernel) rfl), (jm 45 (by decide +kernel) rfl), by decide +kernel, by decide⟩
theorem k_X3_places : jCk yX3_places cX3_places 1 (some .int) 0 := ⟨(jm 612 (by decide +kernel) rfl), (jm 45 (by decide +kernel) rfl), by decide +kernel, by decide⟩
theorem k_X3_say : jCk yX3_say cX3_say 2 (some .int) 1 := ⟨(jm 616 (by decide +kernel) rfl), (jm 45 (by decide +kernel) rfl), by decide +kernel, by decide⟩
theorem k_X3_wipe : jCk yX3_wipe cX3_wipe 2 (some .int) 0 := ⟨(jm 622 (by decide +kernel) rfl), (jm 45 (by decide +kernel) rfl), by decide +kernel, by decide⟩
theorem k_X3_fault : jCk yX3_fault cX3_fault 2 (some .int) 0 := ⟨(jm 626 (by decide +kernel) rfl), (jm 45 (by decide +kernel) rfl), by decide +kernel, by decide⟩
theorem k_X3_lay : jCk yX3_lay cX3_lay 2 (some .int) 0 := ⟨(jm 632 (by decide +kernel) rfl), (jm 45 (by decide +kernel) rfl), by decide +kernel, by decide⟩
theorem k_X3_squares : jCk yX3_squares cX3_squares 3 (some .int) 0 := ⟨(jm 637 (by decide +kernel) rfl), (jm 45 (by decide +kernel) rfl), by decide +kernel, by decide⟩
theorem k_X3_isSquare : jCk yX3_isSquare cX3_isSquare 2 (some .boolean) 1 := ⟨(jm 641 (by decide +kernel) rfl), (jm 45 (by decide +kernel) rfl), by decide +kernel, by decide⟩
theorem k_X3_ones : jCk yX3_ones cX3_ones 3 (some .int) 1 := ⟨(jm 644 (by decide +kernel) rfl), (jm 45 (by decide +kernel) rfl), by decide +kernel, by decide⟩
theorem k_X3_family : jCk yX3_family cX3_family 2 (some .int) 1 := ⟨(jm 648 (by decide +kernel) rfl), (jm 45 (by decide +kernel) rfl), by decide +kernel, by decide⟩
theorem k_X3_isPlace : jCk yX3_isPlace cX3_isPlace 2 (some .boolean) 1 := ⟨(jm 652 (by decide +kernel) rfl), (jm 45 (by decide +kernel) rfl), by decide +kernel, by decide⟩
theorem k_X3_foes : jCk yX3_foes cX3_foes 6 (some .int) 3 := ⟨(jm 656 (by decide +kernel) rfl), (jm 45 (by decide +kernel) rfl), by decide +kernel, by decide⟩
theorem k_X3_isFamily : jCk yX3_isFamily cX3_isFamily 1 (some .boolean) 1 := ⟨(jm 659 (by decide +kernel) rfl), (jm 45 (by decide +kernel) rfl), by decide +kernel, by decide⟩
theorem k_X3_areFoes : jCk yX3_areFoes cX3_areFoes 3 (some .boolean) 2 := ⟨(jm 664 (by decide +kernel) rfl), (jm 45 (by decide +kernel) rfl), by decide +kernel, by decide⟩
theorem k_X3_set : jCk yX3_set cX3_set 4 (some .int) 2 := ⟨(jm 668 (by decide +kernel) rfl), (jm 45 (by decide +kernel) rfl), by decide +kernel, by decide⟩
theorem k_X3_sew : jCk yX3_sew cX3_sew 3 (some .int) 2 := ⟨(jm 674 (by decide +kernel) rfl), (jm 45 (by decide +kernel) rfl), by decide +kernel, by decide⟩
theorem k_X3_areNeighbours : jCk yX3_areNeighbours cX3_areNeighbours 5 (some .boolean) 2 := ⟨(jm 678 (by decide +kernel) rfl), (jm 45 (by decide +kernel) rfl), by decide +kernel, by decide⟩
theorem k_X3_isSewn : jCk yX3_isSewn cX3_isSewn 3 (some .boolean) 2 := ⟨(jm 682 (by decide +kernel) rfl), (jm 45 (by decide +kernel) rfl), by decide +kernel, by decide⟩
theorem k_X3_threadOf : jCk yX3_threadOf cX3_threadOf 3 (some .int) 2 := ⟨(jm 686 (by decide +kernel) rfl), (jm 45 (by decide +kernel) rfl), by decide +kernel, by decide⟩
theorem k_X3_unpick : jCk yX3_unpick cX3_unpick 3 (some .int) 2 := ⟨(jm 690 (by decide +kernel) rfl), (jm 45 (by decide +kernel) rfl), by decide +kernel, by decide⟩
theorem k_X3_birth : jCk yX3_birth cX3_birth 3 (some .int) 2 := ⟨(jm 694 (by decide +kernel) rfl), (jm 45 (by decide +kernel) rfl), by decide +kernel, by decide⟩
theorem k_X3_bear : jCk yX3_bear cX3_bear 4 (some .int) 2 := ⟨(jm 698 (by decide +kernel) rfl), (jm 45 (by decide +kernel) rfl), by decide +kernel, by decide⟩
theorem k_X3_death : jCk yX3_death cX3_death 2 (some .int) 1 := ⟨(jm 702 (by decide +kernel) rfl), (jm 45 (by decide +kernel) rfl), by decide +kernel, by decide⟩
theorem k_X3_die : jCk yX3_die cX3_die 4 (some .int) 1 := ⟨(jm 706 (by decide +kernel) rfl), (jm 45 (by decide +kernel) rfl), by decide +kernel, by decide⟩
theorem k_X3_pieces : jCk yX3_pieces cX3_pieces 2 (some .int) 1 := ⟨(jm 710 (by decide +kernel) rfl), (jm 45 (by decide +kernel) rfl), by decide +kernel, by decide⟩
theorem k_X3_piecesOf : jCk yX3_piecesOf cX3_piecesOf 5 (some .int) 1 := ⟨(jm 714 (by decide +kernel) rfl), (jm 45 (by decide +kernel) rfl), by decide +kernel, by decide⟩
theorem k_X3_pieceOf : jCk yX3_pieceOf cX3_pieceOf 6 (some .int) 2 := ⟨(jm 718 (by decide +kernel) rfl), (jm 45 (by decide +kernel) rfl), by decide +kernel, by decide⟩
theorem k_X3_cold : jCk yX3_cold cX3_cold 3 (some .int) 0 := ⟨(jm 722 (by decide +kernel) rfl), (jm 45 (by decide +kernel) rfl), by decide +kernel, by decide⟩
theorem k_X3_spent : jCk yX3_spent cX3_spent 4 (some .int) 0 := ⟨(jm 726 (by decide +kernel) rfl), (jm 45 (by decide +kernel) rfl), by decide +kernel, by decide⟩
theorem k_X3_parts : jCk yX3_parts cX3_parts 5 (some .int) 0 := ⟨(jm 730 (by decide +kernel) rfl), (jm 45 (by decide +kernel) rfl), by decide +kernel, by decide⟩
theorem k_X3_whole : jCk yX3_whole cX3_whole 4 (some .int) 1 := ⟨(jm 734 (by decide +kernel) rfl), (jm 45 (by decide +kernel) rfl), by decide +kernel, by decide⟩
theorem k_X3_takeSeam : jCk yX3_takeSeam cX3_takeSeam 6 (some .boolean) 0 := ⟨(jm 738 (by decide +kernel) rfl), (jm 45 (by decide +kernel) rfl), by decide +kernel, by decide⟩
theorem k_X3_canSew : jCk yX3_canSew cX3_canSew 3 (some .boolean) 2 := ⟨(jm 743 (by decide +kernel) rfl), (jm 45 (by decide +kernel) rfl), by decide +kernel, by decide⟩
theorem k_X3_patch : jCk yX3_patch cX3_patch 7 (some .int) 2 := ⟨(jm 747 (by decide +kernel) rfl), (jm 45 (by decide +kernel) rfl), by decide +kernel, by decide⟩
theorem k_X3_wash : jCk yX3_wash cX3_wash 11 (some .int) 2 := ⟨(jm 752 (by decide +kernel) rfl), (jm 45 (by decide +kernel) rfl), by decide +kernel, by decide⟩
theorem k_X3_between : jCk yX3_between cX3_between 5 (some .int) 2 := ⟨(jm 757 (by decide +kernel) rfl), (jm 45 (by decide +kernel) rfl), by decide +kernel, by decide⟩
theorem k_X3_placings : jCk yX3_placings cX3_placings 5 (some .int) 4 := ⟨(jm 761 (by decide +kernel) rfl), (jm 45 (by decide +kernel) rfl), by decide +kernel, by decide⟩
theorem k_X3_areSleepers : jCk yX3_areSleepers cX3_areSleepers 5 (some .boolean) 4 := ⟨(jm 764 (by decide +kernel) rfl), (jm 45 (by decide +kernel) rfl), by decide +kernel, by decide⟩
theorem k_X3_placingsOf : jCk yX3_placingsOf cX3_placingsOf 5 (some .int) 4 := ⟨(jm 769 (by decide +kernel) rfl), (jm 45 (by decide +kernel) rfl), by decide +kernel, by decide⟩
theorem k_X3_findPlacings : jCk yX3_findPlacings cX3_findPlacings 8 (some .int) 4 := ⟨(jm 773 (by decide +kernel) rfl), (jm 45 (by decide +kernel) rfl), by decide +kernel, by decide⟩
theorem k_X3_goesWith : jCk yX3_goesWith cX3_goesWith 4 (some .boolean) 1 := ⟨(jm 777 (by decide +kernel) rfl), (jm 45 (by decide +kernel) rfl), by decide +kernel, by decide⟩
theorem k_X3_areWarm : jCk yX3_areWarm cX3_areWarm 5 (some .boolean) 0 := ⟨(jm 781 (by decide +kernel) rfl), (jm 45 (by decide +kernel) rfl), by decide +kernel, by decide⟩
theorem k_X3_placed : jCk yX3_placed cX3_placed 6 (some .int) 5 := ⟨(jm 785 (by decide +kernel) rfl), (jm 45 (by decide +kernel) rfl), by decide +kernel, by decide⟩
theorem k_X3_grown : jCk yX3_grown cX3_grown 2 (some .long) 0 := ⟨(jm 789 (by decide +kernel) rfl), (jm 45 (by decide +kernel) rfl), by decide +kernel, by decide⟩
theorem k_X3_findOrders : jCk yX3_findOrders cX3_findOrders 7 none 0 := ⟨(jm 793 (by decide +kernel) rfl), (jm 45 (by decide +kernel) rfl), by decide +kernel, by decide⟩
theorem k_X3_could : jCk yX3_could cX3_could 7 (some .int) 1 := ⟨(jm 797 (by decide +kernel) rfl), (jm 45 (by decide +kernel) rfl), by decide +kernel, by decide⟩
theorem k_X3_turn : jCk yX3_turn cX3_turn 4 (some .int) 0 := ⟨(jm 801 (by decide +kernel) rfl), (jm 45 (by decide +kernel) rfl), by decide +kernel, by decide⟩
theorem k_X3_keep : jCk yX3_keep cX3_keep 2 none 0 := ⟨(jm 805 (by decide +kernel) rfl), (jm 45 (by decide +kernel) rfl), by decide +kernel, by decide⟩
theorem k_X3_turned : jCk yX3_turned cX3_turned 2 (some .int) 1 := ⟨(jm 809 (by decide +kernel) rfl), (jm 45 (by decide +kernel) rfl), by decide +kernel, by decide⟩
theorem k_X3_years : jCk yX3_years cX3_years 10 (some .int) 3 := ⟨(jm 813 (by decide +kernel) rfl), (jm 45 (by decide +kernel) rfl), by decide +kernel, by decide⟩
theorem k_X3_image : jCk yX3_image cX3_image 2 (some .int) 1 := ⟨(jm 821 (by decide +kernel) rfl), (jm 45 (by decide +kernel) rfl), by decide +kernel, by decide⟩
theorem k_X3_passAll : jCk yX3_passAll cX3_passAll 2 none 0 := ⟨(jm 825 (by decide +kernel) rfl), (jm 45 (by decide +kernel) rfl), by decide +kernel, by decide⟩
theorem k_X3_pass : jCk yX3_pass cX3_pass 3 (some .int) 1 := ⟨(jm 829 (by decide +kernel) rfl), (jm 45 (by decide +kernel) rfl), by decide +kernel, by decide⟩
theorem k_X3_restore : jCk yX3_restore cX3_restore 2 (some .int) 1 := ⟨(jm 833 (by decide +kernel) rfl), (jm 45 (by decide +kernel) rfl), by decide +kernel, by decide⟩
theorem k_X3_told : jCk yX3_told cX3_told 2 (some .int) 1 := ⟨(jm 837 (by decide +kernel) rfl), (jm 45 (by decide +kernel) rfl), by decide +kernel, by decide⟩
theorem k_X3_sewnSeams : jCk yX3_sewnSeams cX3_sewnSeams 3 (some .int) 0 := ⟨(jm 841 (by decide +kernel) rfl), (jm 45 (by decide +kernel) rfl), by decide +kernel, by decide⟩
theorem f_X0_9 : jF RX0 9 0 0 := ⟨RX0, TX0, 4, rfl, by decide, uw_X0, (jm 111 (by decide +kernel) rfl)⟩
theorem p_X0_9 : jP RX0 9 0 0 true (.array .int) := ⟨RX0, TX0, 4, tyX0, rfl, by decide, uw_X0, (jm 111 (by decide +kernel) rfl), tyX0_ok, nmX0, rfl, by decide +kernel, by first | exact fun _ => rfl | decide⟩
theorem f_X0_15 : jF RX0 15 0 1 := ⟨RX0, TX0, 4, rfl, by decide, uw_X0, (jm 112 (by decide +kernel) rfl)⟩
theorem p_X0_15 : jP RX0 15 0 1 false .int := ⟨RX0, TX0, 4, tyX0, rfl, by decide, uw_X0, (jm 112 (by decide +kernel) rfl), tyX0_ok, nmX0, rfl, by decide +kernel, by first | exact fun _ => rfl | decide⟩
theorem f_X0_19 : jF RX0 19 0 2 := ⟨RX0, TX0, 4, rfl, by decide, uw_X0, (jm 113 (by decide +kernel) rfl)⟩
theorem p_X0_19 : jP RX0 19 0 2 true (.array .int) := ⟨RX0, TX0, 4, tyX0, rfl, by decide, uw_X0, (jm 113 (by decide +kernel) rfl), tyX0_ok, nmX0, rfl, by decide +kernel, by first | exact fun _ => rfl | decide⟩
theorem f_X0_22 : jF RX0 22 0 3 := ⟨RX0, TX0, 4, rfl, by decide, uw_X0, (jm 114 (by decide +kernel) rfl)⟩
theorem p_X0_22 : jP RX0 22 0 3 false .int := ⟨RX0, TX0, 4, tyX0, rfl, by decide, uw_X0, (jm 114 (by decide +kernel) rfl), tyX0_ok, nmX0, rfl, by decide +kernel, by first | exact fun _ => rfl | decide⟩
theorem s_X0_25 : jSS RX0 25 yJ7_fill_53178 cJ7_fill_53178 4 none 2 := ⟨k_J7_fill_53178, (jm 418 (by decide +kernel) rfl), (jm 133 (by decide +kernel) rfl)⟩
theorem s_X0_31 : jSV RX0 31 yX0_layFrom cX0_layFrom 8 (some .int) 3 := ⟨k_X0_layFrom, (jm 424 (by decide +kernel) rfl), (jm 426 (by decide +kernel) rfl), (jm 5 (by decide +kernel) rfl)⟩
theorem s_X0_35 : jSV RX0 35 yX1_places cX1_places 1 (some .int) 0 := ⟨k_X1_places, (jm 428 (by decide +kernel) rfl), (jm 170 (by decide +kernel) rfl), (jm 171 (by decide +kernel) rfl)⟩
theorem s_X0_41 : jSV RX0 41 yX0_isLastRowWarm cX0_isLastRowWarm 4 (some .boolean) 1 := ⟨k_X0_isLastRowWarm, (jm 429 (by decide +kernel) rfl), (jm 431 (by decide +kernel) rfl), (jm 6 (by decide +kernel) rfl)⟩
theorem s_X0_45 : jSV RX0 45 yX0_layNobody cX0_layNobody 4 (some .int) 3 := ⟨k_X0_layNobody, (jm 443 (by decide +kernel) rfl), (jm 445 (by decide +kernel) rfl), (jm 8 (by decide +kernel) rfl)⟩
theorem s_X0_48 : jSV RX0 48 yX0_bannedFamilies cX0_bannedFamilies 6 (some .int) 2 := ⟨k_X0_bannedFamilies, (jm 447 (by decide +kernel) rfl), (jm 449 (by decide +kernel) rfl), (jm 9 (by decide +kernel) rfl)⟩
theorem s_X0_52 : jSN RX0 52 yX2_has cX2_has 2 (some .boolean) 2 := ⟨k_X2_has, by simp [jN], (jm 226 (by decide +kernel) rfl)⟩
theorem s_X0_56 : jSV RX0 56 yX0_layOne cX0_layOne 6 (some .int) 4 := ⟨k_X0_layOne, (jm 456 (by decide +kernel) rfl), (jm 458 (by decide +kernel) rfl), (jm 10 (by decide +kernel) rfl)⟩
theorem f_X0_60 : jF RX0 60 1 1 := ⟨RX1, TX1, 11, rfl, by decide, uw_X1, (jm 65 (by decide +kernel) rfl)⟩
theorem s_X0_63 : jSV RX0 63 yX0_isWarm cX0_isWarm 3 (some .boolean) 2 := ⟨k_X0_isWarm, (jm 433 (by decide +kernel) rfl), (jm 435 (by decide +kernel) rfl), (jm 7 (by decide +kernel) rfl)⟩
theorem s_X0_67 : jSV RX0 67 yX0_rest cX0_rest 3 none 2 := ⟨k_X0_rest, (jm 460 (by decide +kernel) rfl), (jm 462 (by decide +kernel) rfl), (jm 11 (by decide +kernel) rfl)⟩
theorem s_X0_71 : jSV RX0 71 yX0_rise cX0_rise 3 none 2 := ⟨k_X0_rise, (jm 464 (by decide +kernel) rfl), (jm 466 (by decide +kernel) rfl), (jm 12 (by decide +kernel) rfl)⟩
theorem s_X0_74 : jSV RX0 74 yX1_around cX1_around 5 (some .int) 1 := ⟨k_X1_around, (jm 438 (by decide +kernel) rfl), (jm 439 (by decide +kernel) rfl), (jm 440 (by decide +kernel) rfl)⟩
theorem s_X0_78 : jSV RX0 78 yX0_sleeperAt cX0_sleeperAt 2 (some .int) 1 := ⟨k_X0_sleeperAt, (jm 451 (by decide +kernel) rfl), (jm 452 (by decide +kernel) rfl), (jm 453 (by decide +kernel) rfl)⟩
theorem s_X0_81 : jSV RX0 81 yX1_foesOf cX1_foesOf 2 (some .int) 1 := ⟨k_X1_foesOf, (jm 455 (by decide +kernel) rfl), (jm 280 (by decide +kernel) rfl), (jm 281 (by decide +kernel) rfl)⟩
theorem s_X0_84 : jSS RX0 84 yJ6_bitCount_0f7a4 cJ6_bitCount_0f7a4 1 (some .int) 1 := ⟨k_J6_bitCount_0f7a4, (jm 442 (by decide +kernel) rfl), (jm 207 (by decide +kernel) rfl)⟩
theorem f_X0_89 : jF RX0 89 1 4 := ⟨RX1, TX1, 11, rfl, by decide, uw_X1, (jm 73 (by decide +kernel) rfl)⟩
theorem f_X1_9 : jF RX1 9 1 0 := ⟨RX1, TX1, 11, rfl, by decide, uw_X1, (jm 62 (by decide +kernel) rfl)⟩
theorem p_X1_9 : jP RX1 9 1 0 false .int := ⟨RX1, TX1, 11, tyX1, rfl, by decide, uw_X1, (jm 62 (by decide +kernel) rfl), tyX1_ok, nmX1, rfl, by decide +kernel, by first | exact fun _ => rfl | decide⟩
theorem f_X1_15 : jF RX1 15 1 1 := ⟨RX1, TX1, 11, rfl, by decide, uw_X1, (jm 64 (by decide +kernel) rfl)⟩
theorem p_X1_15 : jP RX1 15 1 1 false .int := ⟨RX1, TX1, 11, tyX1, rfl, by decide, uw_X1, (jm 64 (by decide +kernel) rfl), tyX1_ok, nmX1, rfl, by decide +kernel, by first | exact fun _ => rfl | decide⟩
theorem f_X1_18 : jF RX1 18 1 2 := ⟨RX1, TX1, 11, rfl, by decide, uw_X1, (jm 67 (by decide +kernel) rfl)⟩
theorem p_X1_18 : jP RX1 18 1 2 false .int := ⟨RX1, TX1, 11, tyX1, rfl, by decide, uw_X1, (jm 67 (by decide +kernel) rfl), tyX1_ok, nmX1, rfl, by decide +kernel, by first | exact fun _ => rfl | decide⟩
theorem f_X1_21 : jF RX1 21 1 3 := ⟨RX1, TX1, 11, rfl, by decide, uw_X1, (jm 69 (by decide +kernel) rfl)⟩
theorem p_X1_21 : jP RX1 21 1 3 false .int := ⟨RX1, TX1, 11, tyX1, rfl, by decide, uw_X1, (jm 69 (by decide +kernel) rfl), tyX1_ok, nmX1, rfl, by decide +kernel, by first | exact fun _ => rfl | decide⟩
theorem f_X1_24 : jF RX1 24 1 4 := ⟨RX1, TX1, 11, rfl, by decide, uw_X1, (jm 71 (by decide +kernel) rfl)⟩
theorem p_X1_24 : jP RX1 24 1 4 false .int := ⟨RX1, TX1, 11, tyX1, rfl, by decide, uw_X1, (jm 71 (by decide +kernel) rfl), tyX1_ok, nmX1, rfl, by decide +kernel, by first | exact fun _ => rfl | decide⟩
theorem f_X1_27 : jF RX1 27 1 5 := ⟨RX1, TX1, 11, rfl, by decide, uw_X1, (jm 74 (by decide +kernel) rfl)⟩
theorem p_X1_27 : jP RX1 27 1 5 false .int := ⟨RX1, TX1, 11, tyX1, rfl, by decide, uw_X1, (jm 74 (by decide +kernel) rfl), tyX1_ok, nmX1, rfl, by decide +kernel, by first | exact fun _ => rfl | decide⟩
theorem f_X1_30 : jF RX1 30 1 6 := ⟨RX1, TX1, 11, rfl, by decide, uw_X1, (jm 75 (by decide +kernel) rfl)⟩
theorem p_X1_30 : jP RX1 30 1 6 false .int := ⟨RX1, TX1, 11, tyX1, rfl, by decide, uw_X1, (jm 75 (by decide +kernel) rfl), tyX1_ok, nmX1, rfl, by decide +kernel, by first | exact fun _ => rfl | decide⟩
theorem f_X1_33 : jF RX1 33 1 7 := ⟨RX1, TX1, 11, rfl, by decide, uw_X1, (jm 76 (by decide +kernel) rfl)⟩
theorem p_X1_33 : jP RX1 33 1 7 false .int := ⟨RX1, TX1, 11, tyX1, rfl, by decide, uw_X1, (jm 76 (by decide +kernel) rfl), tyX1_ok, nmX1, rfl, by decide +kernel, by first | exact fun _ => rfl | decide⟩
theorem f_X1_36 : jF RX1 36 1 8 := ⟨RX1, TX1, 11, rfl, by decide, uw_X1, (jm 77 (by decide +kernel) rfl)⟩
theorem p_X1_36 : jP RX1 36 1 8 false .int := ⟨RX1, TX1, 11, tyX1, rfl, by decide, uw_X1, (jm 77 (by decide +kernel) rfl), tyX1_ok, nmX1, rfl, by decide +kernel, by first | exact fun _ => rfl | decide⟩
theorem f_X1_39 : jF RX1 39 1 9 := ⟨RX1, TX1, 11, rfl, by decide, uw_X1, (jm 78 (by decide +kernel) rfl)⟩
theorem p_X1_39 : jP RX1 39 1 9 true (.array .int) := ⟨RX1, TX1, 11, tyX1, rfl, by decide, uw_X1, (jm 78 (by decide +kernel) rfl), tyX1_ok, nmX1, rfl, by decide +kernel, by first | exact fun _ => rfl | decide⟩
theorem f_X1_43 : jF RX1 43 1 10 := ⟨RX1, TX1, 11, rfl, by decide, uw_X1, (jm 79 (by decide +kernel) rfl)⟩
theorem p_X1_43 : jP RX1 43 1 10 true (.array .int) := ⟨RX1, TX1, 11, tyX1, rfl, by decide, uw_X1, (jm 79 (by decide +kernel) rfl), tyX1_ok, nmX1, rfl, by decide +kernel, by first | exact fun _ => rfl | decide⟩
theorem s_X1_46 : jSV RX1 46 yX1_strip cX1_strip 1 none 0 := ⟨k_X1_strip, (jm 128 (by decide +kernel) rfl), (jm 129 (by decide +kernel) rfl), (jm 130 (by decide +kernel) rfl)⟩
theorem s_X1_49 : jSS RX1 49 yJ7_fill_53178 cJ7_fill_53178 4 none 2 := ⟨k_J7_fill_53178, (jm 132 (by decide +kernel) rfl), (jm 133 (by decide +kernel) rfl)⟩
theorem s_X1_55 : jSV RX1 55 yX1_loosenAll cX1_loosenAll 1 none 0 := ⟨k_X1_loosenAll, (jm 135 (by decide +kernel) rfl), (jm 136 (by decide +kernel) rfl), (jm 137 (by decide +kernel) rfl)⟩
theorem s_X1_58 : jSV RX1 58 yX1_measure cX1_measure 6 none 2 := ⟨k_X1_measure, (jm 498 (by decide +kernel) rfl), (jm 125 (by decide +kernel) rfl), (jm 126 (by decide +kernel) rfl)⟩
theorem s_X1_62 : jSV RX1 62 yX1_familyAt cX1_familyAt 3 (some .int) 1 := ⟨k_X1_familyAt, (jm 278 (by decide +kernel) rfl), (jm 222 (by decide +kernel) rfl), (jm 223 (by decide +kernel) rfl)⟩
theorem s_X1_66 : jSV RX1 66 yX1_put cX1_put 3 none 2 := ⟨k_X1_put, (jm 305 (by decide +kernel) rfl), (jm 198 (by decide +kernel) rfl), (jm 199 (by decide +kernel) rfl)⟩
theorem s_X1_69 : jSN RX1 69 yX2_has cX2_has 2 (some .boolean) 2 := ⟨k_X2_has, by simp [jN], (jm 226 (by decide +kernel) rfl)⟩
theorem s_X1_73 : jSV RX1 73 yX1_places cX1_places 1 (some .int) 0 := ⟨k_X1_places, (jm 220 (by decide +kernel) rfl), (jm 170 (by decide +kernel) rfl), (jm 171 (by decide +kernel) rfl)⟩
theorem s_X1_77 : jSV RX1 77 yX1_squares cX1_squares 3 (some .int) 0 := ⟨k_X1_squares, (jm 264 (by decide +kernel) rfl), (jm 203 (by decide +kernel) rfl), (jm 204 (by decide +kernel) rfl)⟩
theorem s_X1_80 : jSN RX1 80 yX2_isFamily cX2_isFamily 1 (some .boolean) 1 := ⟨k_X2_isFamily, by simp [jN], (jm 189 (by decide +kernel) rfl)⟩
theorem s_X1_84 : jSV RX1 84 yX1_loosen cX1_loosen 3 none 2 := ⟨k_X1_loosen, (jm 236 (by decide +kernel) rfl), (jm 237 (by decide +kernel) rfl), (jm 238 (by decide +kernel) rfl)⟩
theorem s_X1_87 : jSV RX1 87 yX1_beside cX1_beside 3 (some .int) 2 := ⟨k_X1_beside, (jm 240 (by decide +kernel) rfl), (jm 242 (by decide +kernel) rfl), (jm 0 (by decide +kernel) rfl)⟩
theorem s_X1_91 : jSV RX1 91 yX1_below cX1_below 3 (some .int) 2 := ⟨k_X1_below, (jm 244 (by decide +kernel) rfl), (jm 246 (by decide +kernel) rfl), (jm 1 (by decide +kernel) rfl)⟩
theorem s_X1_94 : jSV RX1 94 yX1_hasSquare cX1_hasSquare 2 (some .boolean) 1 := ⟨k_X1_hasSquare, (jm 260 (by decide +kernel) rfl), (jm 261 (by decide +kernel) rfl), (jm 262 (by decide +kernel) rfl)⟩
theorem s_X1_97 : jSV RX1 97 yX1_countBetween cX1_countBetween 3 (some .int) 2 := ⟨k_X1_countBetween, (jm 269 (by decide +kernel) rfl), (jm 270 (by decide +kernel) rfl), (jm 271 (by decide +kernel) rfl)⟩
theorem s_X1_100 : jSV RX1 100 yX1_foesOf cX1_foesOf 2 (some .int) 1 := ⟨k_X1_foesOf, (jm 279 (by decide +kernel) rfl), (jm 280 (by decide +kernel) rfl), (jm 281 (by decide +kernel) rfl)⟩
theorem s_X1_103 : jSV RX1 103 yX1_joinedTo cX1_joinedTo 4 (some .int) 1 := ⟨k_X1_joinedTo, (jm 306 (by decide +kernel) rfl), (jm 307 (by decide +kernel) rfl), (jm 308 (by decide +kernel) rfl)⟩
theorem s_X1_106 : jSS RX1 106 yJ6_bitCount_0f7a4 cJ6_bitCount_0f7a4 1 (some .int) 1 := ⟨k_J6_bitCount_0f7a4, (jm 273 (by decide +kernel) rfl), (jm 207 (by decide +kernel) rfl)⟩
theorem s_X1_111 : jSV RX1 111 yX1_countSewn cX1_countSewn 1 (some .int) 0 := ⟨k_X1_countSewn, (jm 347 (by decide +kernel) rfl), (jm 348 (by decide +kernel) rfl), (jm 349 (by decide +kernel) rfl)⟩
theorem s_X1_114 : jSV RX1 114 yX1_pieceWith cX1_pieceWith 6 (some .int) 2 := ⟨k_X1_pieceWith, (jm 326 (by decide +kernel) rfl), (jm 327 (by decide +kernel) rfl), (jm 328 (by decide +kernel) rfl)⟩
theorem s_X1_117 : jSV RX1 117 yX1_countPieces cX1_countPieces 5 (some .int) 1 := ⟨k_X1_countPieces, (jm 359 (by decide +kernel) rfl), (jm 323 (by decide +kernel) rfl), (jm 324 (by decide +kernel) rfl)⟩
theorem n_X2_7 : jW RX2 7 1 11 [.int 0, .int 0, .int 0, .int 0, .int 0, .int 0, .int 0, .int 0, .int 0, .null, .null] := ⟨RX1, TX1, tyX1, rfl, uw_X1, tyX1_ok, (jm 56 (by decide +kernel) rfl), (jm 57 (by decide +kernel) rfl), (jm 42 (by decide +kernel) rfl), by decide +kernel⟩
theorem s_X2_9 : jSJ RX2 9 yX1_init cX1_init 1 0 := ⟨k_X1_init, by simp [jN], rfl, (jm 59 (by decide +kernel) rfl)⟩
theorem f_X2_10 : jF RX2 10 2 0 := ⟨RX2, TX2, 7, rfl, by decide, uw_X2, (jm 139 (by decide +kernel) rfl)⟩
theorem p_X2_10 : jP RX2 10 2 0 true (.object "QuiltHouse$Quilt") := ⟨RX2, TX2, 7, tyX2, rfl, by decide, uw_X2, (jm 139 (by decide +kernel) rfl), tyX2_ok, nmX2, rfl, by decide +kernel, by first | exact fun _ => rfl | decide⟩
theorem f_X2_16 : jF RX2 16 2 1 := ⟨RX2, TX2, 7, rfl, by decide, uw_X2, (jm 140 (by decide +kernel) rfl)⟩
theorem p_X2_16 : jP RX2 16 2 1 true (.object "QuiltHouse$Quilt") := ⟨RX2, TX2, 7, tyX2, rfl, by decide, uw_X2, (jm 140 (by decide +kernel) rfl), tyX2_ok, nmX2, rfl, by decide +kernel, by first | exact fun _ => rfl | decide⟩
theorem a_X2_7 : Cond.classLink RX2 7 RX1 ∈ jB := (jm 56 (by decide +kernel) rfl)
theorem f_X2_19 : jF RX2 19 2 2 := ⟨RX2, TX2, 7, rfl, by decide, uw_X2, (jm 141 (by decide +kernel) rfl)⟩
theorem p_X2_19 : jP RX2 19 2 2 true (.array (.object "QuiltHouse$Quilt")) := ⟨RX2, TX2, 7, tyX2, rfl, by decide, uw_X2, (jm 141 (by decide +kernel) rfl), tyX2_ok, nmX2, rfl, by decide +kernel, by first | exact fun _ => rfl | decide⟩
theorem n_X2_23 : jW RX2 23 0 4 [.null, .int 0, .null, .int 0] := ⟨RX0, TX0, tyX0, rfl, uw_X0, tyX0_ok, (jm 105 (by decide +kernel) rfl), (jm 106 (by decide +kernel) rfl), (jm 43 (by decide +kernel) rfl), by decide +kernel⟩
theorem s_X2_25 : jSJ RX2 25 yX0_init cX0_init 1 0 := ⟨k_X0_init, by simp [jN], rfl, (jm 108 (by decide +kernel) rfl)⟩
theorem f_X2_26 : jF RX2 26 2 3 := ⟨RX2, TX2, 7, rfl, by decide, uw_X2, (jm 142 (by decide +kernel) rfl)⟩
theorem p_X2_26 : jP RX2 26 2 3 true (.object "QuiltHouse$Beds") := ⟨RX2, TX2, 7, tyX2, rfl, by decide, uw_X2, (jm 142 (by decide +kernel) rfl), tyX2_ok, nmX2, rfl, by decide +kernel, by first | exact fun _ => rfl | decide⟩
theorem f_X2_30 : jF RX2 30 2 4 := ⟨RX2, TX2, 7, rfl, by decide, uw_X2, (jm 143 (by decide +kernel) rfl)⟩
theorem p_X2_30 : jP RX2 30 2 4 true (.array .char) := ⟨RX2, TX2, 7, tyX2, rfl, by decide, uw_X2, (jm 143 (by decide +kernel) rfl), tyX2_ok, nmX2, rfl, by decide +kernel, by first | exact fun _ => rfl | decide⟩
theorem f_X2_34 : jF RX2 34 2 5 := ⟨RX2, TX2, 7, rfl, by decide, uw_X2, (jm 144 (by decide +kernel) rfl)⟩
theorem p_X2_34 : jP RX2 34 2 5 false .int := ⟨RX2, TX2, 7, tyX2, rfl, by decide, uw_X2, (jm 144 (by decide +kernel) rfl), tyX2_ok, nmX2, rfl, by decide +kernel, by first | exact fun _ => rfl | decide⟩
theorem f_X2_38 : jF RX2 38 2 6 := ⟨RX2, TX2, 7, rfl, by decide, uw_X2, (jm 145 (by decide +kernel) rfl)⟩
theorem p_X2_38 : jP RX2 38 2 6 false (.array .long) := ⟨RX2, TX2, 7, tyX2, rfl, by decide, uw_X2, (jm 145 (by decide +kernel) rfl), tyX2_ok, nmX2, rfl, by decide +kernel, by first | exact fun _ => rfl | decide⟩
theorem s_X2_42 : jSV RX2 42 yX1_measure cX1_measure 6 none 2 := ⟨k_X1_measure, (jm 124 (by decide +kernel) rfl), (jm 125 (by decide +kernel) rfl), (jm 126 (by decide +kernel) rfl)⟩
theorem s_X2_46 : jSS RX2 46 yX2_isWithin cX2_isWithin 3 (some .boolean) 3 := ⟨k_X2_isWithin, (jm 166 (by decide +kernel) rfl), (jm 167 (by decide +kernel) rfl)⟩
theorem s_X2_50 : jSV RX2 50 yX1_places cX1_places 1 (some .int) 0 := ⟨k_X1_places, (jm 169 (by decide +kernel) rfl), (jm 170 (by decide +kernel) rfl), (jm 171 (by decide +kernel) rfl)⟩
theorem s_X2_54 : jSS RX2 54 yX2_canStand cX2_canStand 1 (some .boolean) 1 := ⟨k_X2_canStand, (jm 185 (by decide +kernel) rfl), (jm 186 (by decide +kernel) rfl)⟩
theorem s_X2_58 : jSV RX2 58 yX2_fault cX2_fault 2 (some .int) 0 := ⟨k_X2_fault, (jm 195 (by decide +kernel) rfl), (jm 182 (by decide +kernel) rfl), (jm 183 (by decide +kernel) rfl)⟩
theorem s_X2_61 : jSV RX2 61 yX1_strip cX1_strip 1 none 0 := ⟨k_X1_strip, (jm 196 (by decide +kernel) rfl), (jm 129 (by decide +kernel) rfl), (jm 130 (by decide +kernel) rfl)⟩
theorem s_X2_64 : jSV RX2 64 yX1_put cX1_put 3 none 2 := ⟨k_X1_put, (jm 197 (by decide +kernel) rfl), (jm 198 (by decide +kernel) rfl), (jm 199 (by decide +kernel) rfl)⟩
theorem s_X2_67 : jSV RX2 67 yX1_squares cX1_squares 3 (some .int) 0 := ⟨k_X1_squares, (jm 202 (by decide +kernel) rfl), (jm 203 (by decide +kernel) rfl), (jm 204 (by decide +kernel) rfl)⟩
theorem s_X2_70 : jSS RX2 70 yJ6_bitCount_0f7a4 cJ6_bitCount_0f7a4 1 (some .int) 1 := ⟨k_J6_bitCount_0f7a4, (jm 206 (by decide +kernel) rfl), (jm 207 (by decide +kernel) rfl)⟩
theorem s_X2_76 : jSV RX2 76 yX1_isPlace cX1_isPlace 2 (some .boolean) 1 := ⟨k_X1_isPlace, (jm 216 (by decide +kernel) rfl), (jm 217 (by decide +kernel) rfl), (jm 218 (by decide +kernel) rfl)⟩
theorem s_X2_80 : jSV RX2 80 yX1_familyAt cX1_familyAt 3 (some .int) 1 := ⟨k_X1_familyAt, (jm 221 (by decide +kernel) rfl), (jm 222 (by decide +kernel) rfl), (jm 223 (by decide +kernel) rfl)⟩
theorem s_X2_83 : jSS RX2 83 yX2_isFamily cX2_isFamily 1 (some .boolean) 1 := ⟨k_X2_isFamily, (jm 188 (by decide +kernel) rfl), (jm 189 (by decide +kernel) rfl)⟩
theorem s_X2_86 : jSV RX2 86 yX1_setFoes cX1_setFoes 4 none 3 := ⟨k_X1_setFoes, (jm 232 (by decide +kernel) rfl), (jm 233 (by decide +kernel) rfl), (jm 234 (by decide +kernel) rfl)⟩
theorem f_X2_90 : jF RX2 90 1 2 := ⟨RX1, TX1, 11, rfl, by decide, uw_X1, (jm 68 (by decide +kernel) rfl)⟩
theorem p_X2_90 : jP RX2 90 1 2 false .int := ⟨RX1, TX1, 11, tyX1, rfl, by decide, uw_X1, (jm 68 (by decide +kernel) rfl), tyX1_ok, nmX1, rfl, by decide +kernel, by first | exact fun _ => rfl | decide⟩
theorem f_X2_93 : jF RX2 93 1 3 := ⟨RX1, TX1, 11, rfl, by decide, uw_X1, (jm 70 (by decide +kernel) rfl)⟩
theorem p_X2_93 : jP RX2 93 1 3 false .int := ⟨RX1, TX1, 11, tyX1, rfl, by decide, uw_X1, (jm 70 (by decide +kernel) rfl), tyX1_ok, nmX1, rfl, by decide +kernel, by first | exact fun _ => rfl | decide⟩
theorem f_X2_96 : jF RX2 96 1 4 := ⟨RX1, TX1, 11, rfl, by decide, uw_X1, (jm 72 (by decide +kernel) rfl)⟩
theorem p_X2_96 : jP RX2 96 1 4 false .int := ⟨RX1, TX1, 11, tyX1, rfl, by decide, uw_X1, (jm 72 (by decide +kernel) rfl), tyX1_ok, nmX1, rfl, by decide +kernel, by first | exact fun _ => rfl | decide⟩
theorem s_X2_99 : jSV RX2 99 yX1_isSeam cX1_isSeam 4 (some .boolean) 2 := ⟨k_X1_isSeam, (jm 256 (by decide +kernel) rfl), (jm 257 (by decide +kernel) rfl), (jm 258 (by decide +kernel) rfl)⟩
theorem s_X2_103 : jSV RX2 103 yX1_isSewn cX1_isSewn 3 (some .boolean) 2 := ⟨k_X1_isSewn, (jm 265 (by decide +kernel) rfl), (jm 266 (by decide +kernel) rfl), (jm 267 (by decide +kernel) rfl)⟩
theorem s_X2_106 : jSV RX2 106 yX1_isSeamOfFoes cX1_isSeamOfFoes 4 (some .boolean) 2 := ⟨k_X1_isSeamOfFoes, (jm 274 (by decide +kernel) rfl), (jm 275 (by decide +kernel) rfl), (jm 276 (by decide +kernel) rfl)⟩
theorem s_X2_109 : jSV RX2 109 yX1_join cX1_join 3 none 2 := ⟨k_X1_join, (jm 283 (by decide +kernel) rfl), (jm 284 (by decide +kernel) rfl), (jm 285 (by decide +kernel) rfl)⟩
theorem s_X2_112 : jSV RX2 112 yX1_threadOf cX1_threadOf 3 (some .int) 2 := ⟨k_X1_threadOf, (jm 287 (by decide +kernel) rfl), (jm 288 (by decide +kernel) rfl), (jm 289 (by decide +kernel) rfl)⟩
theorem s_X2_116 : jSV RX2 116 yX1_loosen cX1_loosen 3 none 2 := ⟨k_X1_loosen, (jm 295 (by decide +kernel) rfl), (jm 237 (by decide +kernel) rfl), (jm 238 (by decide +kernel) rfl)⟩
theorem s_X2_119 : jSV RX2 119 yX1_hasSquare cX1_hasSquare 2 (some .boolean) 1 := ⟨k_X1_hasSquare, (jm 300 (by decide +kernel) rfl), (jm 261 (by decide +kernel) rfl), (jm 262 (by decide +kernel) rfl)⟩
theorem s_X2_122 : jSV RX2 122 yX1_bear cX1_bear 5 (some .int) 2 := ⟨k_X1_bear, (jm 301 (by decide +kernel) rfl), (jm 302 (by decide +kernel) rfl), (jm 303 (by decide +kernel) rfl)⟩
theorem s_X2_125 : jSV RX2 125 yX1_bury cX1_bury 4 (some .int) 1 := ⟨k_X1_bury, (jm 314 (by decide +kernel) rfl), (jm 315 (by decide +kernel) rfl), (jm 316 (by decide +kernel) rfl)⟩
theorem s_X2_128 : jSV RX2 128 yX1_countPieces cX1_countPieces 5 (some .int) 1 := ⟨k_X1_countPieces, (jm 322 (by decide +kernel) rfl), (jm 323 (by decide +kernel) rfl), (jm 324 (by decide +kernel) rfl)⟩
theorem s_X2_131 : jSV RX2 131 yX1_pieceWith cX1_pieceWith 6 (some .int) 2 := ⟨k_X1_pieceWith, (jm 330 (by decide +kernel) rfl), (jm 327 (by decide +kernel) rfl), (jm 328 (by decide +kernel) rfl)⟩
theorem s_X2_134 : jSV RX2 134 yX1_coldSquares cX1_coldSquares 4 (some .int) 0 := ⟨k_X1_coldSquares, (jm 335 (by decide +kernel) rfl), (jm 336 (by decide +kernel) rfl), (jm 337 (by decide +kernel) rfl)⟩
theorem s_X2_137 : jSV RX2 137 yX1_threadOfAll cX1_threadOfAll 3 (some .int) 0 := ⟨k_X1_threadOfAll, (jm 343 (by decide +kernel) rfl), (jm 344 (by decide +kernel) rfl), (jm 345 (by decide +kernel) rfl)⟩
theorem s_X2_140 : jSV RX2 140 yX1_partingSquares cX1_partingSquares 5 (some .int) 0 := ⟨k_X1_partingSquares, (jm 355 (by decide +kernel) rfl), (jm 356 (by decide +kernel) rfl), (jm 357 (by decide +kernel) rfl)⟩
theorem s_X2_143 : jSV RX2 143 yX1_become cX1_become 3 none 1 := ⟨k_X1_become, (jm 364 (by decide +kernel) rfl), (jm 365 (by decide +kernel) rfl), (jm 366 (by decide +kernel) rfl)⟩
theorem s_X2_147 : jSV RX2 147 yX1_loosenAll cX1_loosenAll 1 none 0 := ⟨k_X1_loosenAll, (jm 368 (by decide +kernel) rfl), (jm 136 (by decide +kernel) rfl), (jm 137 (by decide +kernel) rfl)⟩
theorem s_X2_158 : jSV RX2 158 yX2_joinAll cX2_joinAll 9 (some .int) 3 := ⟨k_X2_joinAll, (jm 375 (by decide +kernel) rfl), (jm 377 (by decide +kernel) rfl), (jm 2 (by decide +kernel) rfl)⟩
theorem s_X2_162 : jSV RX2 162 yX1_countSewn cX1_countSewn 1 (some .int) 0 := ⟨k_X1_countSewn, (jm 384 (by decide +kernel) rfl), (jm 348 (by decide +kernel) rfl), (jm 349 (by decide +kernel) rfl)⟩
theorem s_X2_165 : jSS RX2 165 yX2_isPart cX2_isPart 3 (some .boolean) 3 := ⟨k_X2_isPart, (jm 393 (by decide +kernel) rfl), (jm 394 (by decide +kernel) rfl)⟩
theorem s_X2_168 : jSS RX2 168 yX2_unlikeness cX2_unlikeness 2 (some .int) 2 := ⟨k_X2_unlikeness, (jm 396 (by decide +kernel) rfl), (jm 397 (by decide +kernel) rfl)⟩
theorem s_X2_171 : jSV RX2 171 yX1_countBetween cX1_countBetween 3 (some .int) 2 := ⟨k_X1_countBetween, (jm 402 (by decide +kernel) rfl), (jm 270 (by decide +kernel) rfl), (jm 271 (by decide +kernel) rfl)⟩
theorem s_X2_174 : jSV RX2 174 yX2_refusalOfSleepers cX2_refusalOfSleepers 5 (some .int) 4 := ⟨k_X2_refusalOfSleepers, (jm 407 (by decide +kernel) rfl), (jm 409 (by decide +kernel) rfl), (jm 4 (by decide +kernel) rfl)⟩
theorem s_X2_178 : jSV RX2 178 yX0_gather cX0_gather 5 none 4 := ⟨k_X0_gather, (jm 414 (by decide +kernel) rfl), (jm 415 (by decide +kernel) rfl), (jm 416 (by decide +kernel) rfl)⟩
theorem q_X2_182 : Cond.constant RX2 182 (1000000000) ∈ jB := (jm 419 (by decide +kernel) rfl)
theorem s_X2_183 : jSV RX2 183 yX0_count cX0_count 3 (some .int) 2 := ⟨k_X0_count, (jm 420 (by decide +kernel) rfl), (jm 421 (by decide +kernel) rfl), (jm 422 (by decide +kernel) rfl)⟩
theorem s_X2_187 : jSV RX2 187 yX0_sleeperAt cX0_sleeperAt 2 (some .int) 1 := ⟨k_X0_sleeperAt, (jm 472 (by decide +kernel) rfl), (jm 452 (by decide +kernel) rfl), (jm 453 (by decide +kernel) rfl)⟩
theorem s_X2_190 : jSV RX2 190 yX2_clearedOrders cX2_clearedOrders 3 (some (.array .long)) 0 := ⟨k_X2_clearedOrders, (jm 477 (by decide +kernel) rfl), (jm 479 (by decide +kernel) rfl), (jm 13 (by decide +kernel) rfl)⟩
theorem s_X2_194 : jSS RX2 194 yX2_has cX2_has 2 (some .boolean) 2 := ⟨k_X2_has, (jm 383 (by decide +kernel) rfl), (jm 226 (by decide +kernel) rfl)⟩
theorem s_X2_197 : jSV RX2 197 yX1_joinedTo cX1_joinedTo 4 (some .int) 1 := ⟨k_X1_joinedTo, (jm 484 (by decide +kernel) rfl), (jm 307 (by decide +kernel) rfl), (jm 308 (by decide +kernel) rfl)⟩
theorem s_X2_200 : jSV RX2 200 yX1_becomeTurned cX1_becomeTurned 6 none 1 := ⟨k_X1_becomeTurned, (jm 494 (by decide +kernel) rfl), (jm 495 (by decide +kernel) rfl), (jm 496 (by decide +kernel) rfl)⟩
theorem q_X2_203 : Cond.constant RX2 203 (65537) ∈ jB := (jm 503 (by decide +kernel) rfl)
theorem f_X2_204 : jF RX2 204 1 0 := ⟨RX1, TX1, 11, rfl, by decide, uw_X1, (jm 63 (by decide +kernel) rfl)⟩
theorem f_X2_207 : jF RX2 207 1 1 := ⟨RX1, TX1, 11, rfl, by decide, uw_X1, (jm 66 (by decide +kernel) rfl)⟩
theorem s_X2_210 : jSV RX2 210 yX2_joinsPieces cX2_joinsPieces 3 (some .boolean) 2 := ⟨k_X2_joinsPieces, (jm 379 (by decide +kernel) rfl), (jm 381 (by decide +kernel) rfl), (jm 3 (by decide +kernel) rfl)⟩
theorem s_X2_216 : jSS RX2 216 yX2_isCrowd cX2_isCrowd 1 (some .boolean) 1 := ⟨k_X2_isCrowd, (jm 411 (by decide +kernel) rfl), (jm 412 (by decide +kernel) rfl)⟩
theorem s_X2_219 : jSS RX2 219 yJ7_fill_d0a16 cJ7_fill_d0a16 5 none 2 := ⟨k_J7_fill_d0a16, (jm 481 (by decide +kernel) rfl), (jm 482 (by decide +kernel) rfl)⟩
theorem q_J6_265 : Cond.constant RJ6 265 (1431655765) ∈ jB := (jm 209 (by decide +kernel) rfl)
theorem q_J6_266 : Cond.constant RJ6 266 (858993459) ∈ jB := (jm 210 (by decide +kernel) rfl)
theorem q_J6_267 : Cond.constant RJ6 267 (252645135) ∈ jB := (jm 211 (by decide +kernel) rfl)
theorem f_X3_7 : jF RX3 7 3 5 := ⟨RX3, TX3, 24, rfl, by decide, uw_X3, (jm 532 (by decide +kernel) rfl)⟩
theorem p_X3_7 : jP RX3 7 3 5 true (.array .int) := ⟨RX3, TX3, 24, tyX3, rfl, by decide, uw_X3, (jm 532 (by decide +kernel) rfl), tyX3_ok, nmX3, rfl, by decide +kernel, by first | exact fun _ => rfl | decide⟩
theorem f_X3_13 : jF RX3 13 3 6 := ⟨RX3, TX3, 24, rfl, by decide, uw_X3, (jm 533 (by decide +kernel) rfl)⟩
theorem p_X3_13 : jP RX3 13 3 6 true (.array .int) := ⟨RX3, TX3, 24, tyX3, rfl, by decide, uw_X3, (jm 533 (by decide +kernel) rfl), tyX3_ok, nmX3, rfl, by decide +kernel, by first | exact fun _ => rfl | decide⟩
theorem f_X3_16 : jF RX3 16 3 7 := ⟨RX3, TX3, 24, rfl, by decide, uw_X3, (jm 534 (by decide +kernel) rfl)⟩
theorem p_X3_16 : jP RX3 16 3 7 true (.array .int) := ⟨RX3, TX3, 24, tyX3, rfl, by decide, uw_X3, (jm 534 (by decide +kernel) rfl), tyX3_ok, nmX3, rfl, by decide +kernel, by first | exact fun _ => rfl | decide⟩
theorem f_X3_19 : jF RX3 19 3 8 := ⟨RX3, TX3, 24, rfl, by decide, uw_X3, (jm 535 (by decide +kernel) rfl)⟩
theorem p_X3_19 : jP RX3 19 3 8 true (.array .int) := ⟨RX3, TX3, 24, tyX3, rfl, by decide, uw_X3, (jm 535 (by decide +kernel) rfl), tyX3_ok, nmX3, rfl, by decide +kernel, by first | exact fun _ => rfl | decide⟩
theorem f_X3_22 : jF RX3 22 3 10 := ⟨RX3, TX3, 24, rfl, by decide, uw_X3, (jm 537 (by decide +kernel) rfl)⟩
theorem p_X3_22 : jP RX3 22 3 10 true (.array .int) := ⟨RX3, TX3, 24, tyX3, rfl, by decide, uw_X3, (jm 537 (by decide +kernel) rfl), tyX3_ok, nmX3, rfl, by decide +kernel, by first | exact fun _ => rfl | decide⟩
theorem f_X3_25 : jF RX3 25 3 11 := ⟨RX3, TX3, 24, rfl, by decide, uw_X3, (jm 538 (by decide +kernel) rfl)⟩
theorem p_X3_25 : jP RX3 25 3 11 true (.array .int) := ⟨RX3, TX3, 24, tyX3, rfl, by decide, uw_X3, (jm 538 (by decide +kernel) rfl), tyX3_ok, nmX3, rfl, by decide +kernel, by first | exact fun _ => rfl | decide⟩
theorem f_X3_28 : jF RX3 28 3 14 := ⟨RX3, TX3, 24, rfl, by decide, uw_X3, (jm 541 (by decide +kernel) rfl)⟩
theorem p_X3_28 : jP RX3 28 3 14 true (.array .int) := ⟨RX3, TX3, 24, tyX3, rfl, by decide, uw_X3, (jm 541 (by decide +kernel) rfl), tyX3_ok, nmX3, rfl, by decide +kernel, by first | exact fun _ => rfl | decide⟩
theorem f_X3_31 : jF RX3 31 3 15 := ⟨RX3, TX3, 24, rfl, by decide, uw_X3, (jm 542 (by decide +kernel) rfl)⟩
theorem p_X3_31 : jP RX3 31 3 15 true (.array .int) := ⟨RX3, TX3, 24, tyX3, rfl, by decide, uw_X3, (jm 542 (by decide +kernel) rfl), tyX3_ok, nmX3, rfl, by decide +kernel, by first | exact fun _ => rfl | decide⟩
theorem f_X3_34 : jF RX3 34 3 16 := ⟨RX3, TX3, 24, rfl, by decide, uw_X3, (jm 543 (by decide +kernel) rfl)⟩
theorem p_X3_34 : jP RX3 34 3 16 true (.array .int) := ⟨RX3, TX3, 24, tyX3, rfl, by decide, uw_X3, (jm 543 (by decide +kernel) rfl), tyX3_ok, nmX3, rfl, by decide +kernel, by first | exact fun _ => rfl | decide⟩
theorem q_X3_37 : Cond.constant RX3 37 (65536) ∈ jB := (jm 522 (by decide +kernel) rfl)
theorem f_X3_38 : jF RX3 38 3 17 := ⟨RX3, TX3, 24, rfl, by decide, uw_X3, (jm 544 (by decide +kernel) rfl)⟩
theorem p_X3_38 : jP RX3 38 3 17 true (.array .long) := ⟨RX3, TX3, 24, tyX3, rfl, by decide, uw_X3, (jm 544 (by decide +kernel) rfl), tyX3_ok, nmX3, rfl, by decide +kernel, by first | exact fun _ => rfl | decide⟩
theorem f_X3_42 : jF RX3 42 3 18 := ⟨RX3, TX3, 24, rfl, by decide, uw_X3, (jm 545 (by decide +kernel) rfl)⟩
theorem p_X3_42 : jP RX3 42 3 18 true (.array .int) := ⟨RX3, TX3, 24, tyX3, rfl, by decide, uw_X3, (jm 545 (by decide +kernel) rfl), tyX3_ok, nmX3, rfl, by decide +kernel, by first | exact fun _ => rfl | decide⟩
theorem f_X3_45 : jF RX3 45 3 19 := ⟨RX3, TX3, 24, rfl, by decide, uw_X3, (jm 546 (by decide +kernel) rfl)⟩
theorem p_X3_45 : jP RX3 45 3 19 true (.array .int) := ⟨RX3, TX3, 24, tyX3, rfl, by decide, uw_X3, (jm 546 (by decide +kernel) rfl), tyX3_ok, nmX3, rfl, by decide +kernel, by first | exact fun _ => rfl | decide⟩
theorem f_X3_48 : jF RX3 48 3 20 := ⟨RX3, TX3, 24, rfl, by decide, uw_X3, (jm 547 (by decide +kernel) rfl)⟩
theorem p_X3_48 : jP RX3 48 3 20 true (.array .int) := ⟨RX3, TX3, 24, tyX3, rfl, by decide, uw_X3, (jm 547 (by decide +kernel) rfl), tyX3_ok, nmX3, rfl, by decide +kernel, by first | exact fun _ => rfl | decide⟩
theorem f_X3_51 : jF RX3 51 3 21 := ⟨RX3, TX3, 24, rfl, by decide, uw_X3, (jm 548 (by decide +kernel) rfl)⟩
theorem p_X3_51 : jP RX3 51 3 21 true (.array .boolean) := ⟨RX3, TX3, 24, tyX3, rfl, by decide, uw_X3, (jm 548 (by decide +kernel) rfl), tyX3_ok, nmX3, rfl, by decide +kernel, by first | exact fun _ => rfl | decide⟩
theorem f_X3_55 : jF RX3 55 3 2 := ⟨RX3, TX3, 24, rfl, by decide, uw_X3, (jm 529 (by decide +kernel) rfl)⟩
theorem p_X3_55 : jP RX3 55 3 2 false .int := ⟨RX3, TX3, 24, tyX3, rfl, by decide, uw_X3, (jm 529 (by decide +kernel) rfl), tyX3_ok, nmX3, rfl, by decide +kernel, by first | exact fun _ => rfl | decide⟩
theorem f_X3_59 : jF RX3 59 3 3 := ⟨RX3, TX3, 24, rfl, by decide, uw_X3, (jm 530 (by decide +kernel) rfl)⟩
theorem p_X3_59 : jP RX3 59 3 3 false .int := ⟨RX3, TX3, 24, tyX3, rfl, by decide, uw_X3, (jm 530 (by decide +kernel) rfl), tyX3_ok, nmX3, rfl, by decide +kernel, by first | exact fun _ => rfl | decide⟩
theorem f_X3_62 : jF RX3 62 3 4 := ⟨RX3, TX3, 24, rfl, by decide, uw_X3, (jm 531 (by decide +kernel) rfl)⟩
theorem p_X3_62 : jP RX3 62 3 4 false .int := ⟨RX3, TX3, 24, tyX3, rfl, by decide, uw_X3, (jm 531 (by decide +kernel) rfl), tyX3_ok, nmX3, rfl, by decide +kernel, by first | exact fun _ => rfl | decide⟩
theorem s_X3_65 : jSV RX3 65 yX3_spread cX3_spread 4 none 2 := ⟨k_X3_spread, (jm 523 (by decide +kernel) rfl), (jm 525 (by decide +kernel) rfl), (jm 14 (by decide +kernel) rfl)⟩
theorem f_X3_69 : jF RX3 69 3 0 := ⟨RX3, TX3, 24, rfl, by decide, uw_X3, (jm 527 (by decide +kernel) rfl)⟩
theorem p_X3_69 : jP RX3 69 3 0 false .int := ⟨RX3, TX3, 24, tyX3, rfl, by decide, uw_X3, (jm 527 (by decide +kernel) rfl), tyX3_ok, nmX3, rfl, by decide +kernel, by first | exact fun _ => rfl | decide⟩
theorem f_X3_72 : jF RX3 72 3 1 := ⟨RX3, TX3, 24, rfl, by decide, uw_X3, (jm 528 (by decide +kernel) rfl)⟩
theorem p_X3_72 : jP RX3 72 3 1 false .int := ⟨RX3, TX3, 24, tyX3, rfl, by decide, uw_X3, (jm 528 (by decide +kernel) rfl), tyX3_ok, nmX3, rfl, by decide +kernel, by first | exact fun _ => rfl | decide⟩
theorem s_X3_75 : jSV RX3 75 yX3_places cX3_places 1 (some .int) 0 := ⟨k_X3_places, (jm 609 (by decide +kernel) rfl), (jm 611 (by decide +kernel) rfl), (jm 15 (by decide +kernel) rfl)⟩
theorem s_X3_79 : jSS RX3 79 yX3_in cX3_in 6 (some .boolean) 3 := ⟨k_X3_in, (jm 606 (by decide +kernel) rfl), (jm 607 (by decide +kernel) rfl)⟩
theorem q_X3_83 : Cond.constantLong RX3 83 (3) ∈ jB := (jm 660 (by decide +kernel) rfl)
theorem q_X3_85 : Cond.constantLong RX3 85 (4) ∈ jB := (jm 605 (by decide +kernel) rfl)
theorem q_X3_87 : Cond.constantLong RX3 87 (33) ∈ jB := (jm 617 (by decide +kernel) rfl)
theorem q_X3_89 : Cond.constantLong RX3 89 (126) ∈ jB := (jm 618 (by decide +kernel) rfl)
theorem f_X3_91 : jF RX3 91 3 9 := ⟨RX3, TX3, 24, rfl, by decide, uw_X3, (jm 536 (by decide +kernel) rfl)⟩
theorem p_X3_91 : jP RX3 91 3 9 false .int := ⟨RX3, TX3, 24, tyX3, rfl, by decide, uw_X3, (jm 536 (by decide +kernel) rfl), tyX3_ok, nmX3, rfl, by decide +kernel, by first | exact fun _ => rfl | decide⟩
theorem q_X3_94 : Cond.constantLong RX3 94 (97) ∈ jB := (jm 627 (by decide +kernel) rfl)
theorem q_X3_96 : Cond.constantLong RX3 96 (100) ∈ jB := (jm 628 (by decide +kernel) rfl)
theorem s_X3_98 : jSV RX3 98 yX3_fault cX3_fault 2 (some .int) 0 := ⟨k_X3_fault, (jm 633 (by decide +kernel) rfl), (jm 624 (by decide +kernel) rfl), (jm 625 (by decide +kernel) rfl)⟩
theorem s_X3_101 : jSV RX3 101 yX3_squares cX3_squares 3 (some .int) 0 := ⟨k_X3_squares, (jm 634 (by decide +kernel) rfl), (jm 636 (by decide +kernel) rfl), (jm 16 (by decide +kernel) rfl)⟩
theorem s_X3_104 : jSS RX3 104 yX3_ones cX3_ones 3 (some .int) 1 := ⟨k_X3_ones, (jm 642 (by decide +kernel) rfl), (jm 643 (by decide +kernel) rfl)⟩
theorem s_X3_108 : jSV RX3 108 yX3_isSquare cX3_isSquare 2 (some .boolean) 1 := ⟨k_X3_isSquare, (jm 638 (by decide +kernel) rfl), (jm 640 (by decide +kernel) rfl), (jm 17 (by decide +kernel) rfl)⟩
theorem s_X3_112 : jSV RX3 112 yX3_isPlace cX3_isPlace 2 (some .boolean) 1 := ⟨k_X3_isPlace, (jm 649 (by decide +kernel) rfl), (jm 651 (by decide +kernel) rfl), (jm 18 (by decide +kernel) rfl)⟩
theorem s_X3_115 : jSS RX3 115 yX3_isFamily cX3_isFamily 1 (some .boolean) 1 := ⟨k_X3_isFamily, (jm 657 (by decide +kernel) rfl), (jm 658 (by decide +kernel) rfl)⟩
theorem s_X3_118 : jSV RX3 118 yX3_areFoes cX3_areFoes 3 (some .boolean) 2 := ⟨k_X3_areFoes, (jm 661 (by decide +kernel) rfl), (jm 663 (by decide +kernel) rfl), (jm 19 (by decide +kernel) rfl)⟩
theorem q_X3_122 : Cond.constantLong RX3 122 (2) ∈ jB := (jm 669 (by decide +kernel) rfl)
theorem q_X3_124 : Cond.constantLong RX3 124 (99) ∈ jB := (jm 670 (by decide +kernel) rfl)
theorem s_X3_126 : jSV RX3 126 yX3_areNeighbours cX3_areNeighbours 5 (some .boolean) 2 := ⟨k_X3_areNeighbours, (jm 675 (by decide +kernel) rfl), (jm 677 (by decide +kernel) rfl), (jm 20 (by decide +kernel) rfl)⟩
theorem s_X3_129 : jSV RX3 129 yX3_isSewn cX3_isSewn 3 (some .boolean) 2 := ⟨k_X3_isSewn, (jm 679 (by decide +kernel) rfl), (jm 681 (by decide +kernel) rfl), (jm 21 (by decide +kernel) rfl)⟩
theorem s_X3_132 : jSV RX3 132 yX3_threadOf cX3_threadOf 3 (some .int) 2 := ⟨k_X3_threadOf, (jm 683 (by decide +kernel) rfl), (jm 685 (by decide +kernel) rfl), (jm 22 (by decide +kernel) rfl)⟩
theorem s_X3_136 : jSV RX3 136 yX3_bear cX3_bear 4 (some .int) 2 := ⟨k_X3_bear, (jm 695 (by decide +kernel) rfl), (jm 697 (by decide +kernel) rfl), (jm 23 (by decide +kernel) rfl)⟩
theorem s_X3_139 : jSV RX3 139 yX3_die cX3_die 4 (some .int) 1 := ⟨k_X3_die, (jm 703 (by decide +kernel) rfl), (jm 705 (by decide +kernel) rfl), (jm 24 (by decide +kernel) rfl)⟩
theorem s_X3_142 : jSV RX3 142 yX3_pieceOf cX3_pieceOf 6 (some .int) 2 := ⟨k_X3_pieceOf, (jm 715 (by decide +kernel) rfl), (jm 717 (by decide +kernel) rfl), (jm 26 (by decide +kernel) rfl)⟩
theorem s_X3_145 : jSV RX3 145 yX3_piecesOf cX3_piecesOf 5 (some .int) 1 := ⟨k_X3_piecesOf, (jm 711 (by decide +kernel) rfl), (jm 713 (by decide +kernel) rfl), (jm 25 (by decide +kernel) rfl)⟩
theorem q_X3_148 : Cond.constant RX3 148 (1000000) ∈ jB := (jm 739 (by decide +kernel) rfl)
theorem s_X3_149 : jSV RX3 149 yX3_canSew cX3_canSew 3 (some .boolean) 2 := ⟨k_X3_canSew, (jm 740 (by decide +kernel) rfl), (jm 742 (by decide +kernel) rfl), (jm 28 (by decide +kernel) rfl)⟩
theorem f_X3_152 : jF RX3 152 3 12 := ⟨RX3, TX3, 24, rfl, by decide, uw_X3, (jm 539 (by decide +kernel) rfl)⟩
theorem p_X3_152 : jP RX3 152 3 12 false .int := ⟨RX3, TX3, 24, tyX3, rfl, by decide, uw_X3, (jm 539 (by decide +kernel) rfl), tyX3_ok, nmX3, rfl, by decide +kernel, by first | exact fun _ => rfl | decide⟩
theorem f_X3_155 : jF RX3 155 3 13 := ⟨RX3, TX3, 24, rfl, by decide, uw_X3, (jm 540 (by decide +kernel) rfl)⟩
theorem p_X3_155 : jP RX3 155 3 13 false .int := ⟨RX3, TX3, 24, tyX3, rfl, by decide, uw_X3, (jm 540 (by decide +kernel) rfl), tyX3_ok, nmX3, rfl, by decide +kernel, by first | exact fun _ => rfl | decide⟩
theorem s_X3_158 : jSV RX3 158 yX3_takeSeam cX3_takeSeam 6 (some .boolean) 0 := ⟨k_X3_takeSeam, (jm 735 (by decide +kernel) rfl), (jm 737 (by decide +kernel) rfl), (jm 27 (by decide +kernel) rfl)⟩
theorem s_X3_162 : jSV RX3 162 yX3_cold cX3_cold 3 (some .int) 0 := ⟨k_X3_cold, (jm 748 (by decide +kernel) rfl), (jm 720 (by decide +kernel) rfl), (jm 721 (by decide +kernel) rfl)⟩
theorem q_X3_165 : Cond.constantLong RX3 165 (15) ∈ jB := (jm 753 (by decide +kernel) rfl)
theorem s_X3_167 : jSV RX3 167 yX3_between cX3_between 5 (some .int) 2 := ⟨k_X3_between, (jm 754 (by decide +kernel) rfl), (jm 756 (by decide +kernel) rfl), (jm 29 (by decide +kernel) rfl)⟩
theorem s_X3_170 : jSV RX3 170 yX3_goesWith cX3_goesWith 4 (some .boolean) 1 := ⟨k_X3_goesWith, (jm 774 (by decide +kernel) rfl), (jm 776 (by decide +kernel) rfl), (jm 32 (by decide +kernel) rfl)⟩
theorem s_X3_173 : jSV RX3 173 yX3_areWarm cX3_areWarm 5 (some .boolean) 0 := ⟨k_X3_areWarm, (jm 778 (by decide +kernel) rfl), (jm 780 (by decide +kernel) rfl), (jm 33 (by decide +kernel) rfl)⟩
theorem q_X3_176 : Cond.constantLong RX3 176 (8) ∈ jB := (jm 765 (by decide +kernel) rfl)
theorem s_X3_178 : jSV RX3 178 yX3_findPlacings cX3_findPlacings 8 (some .int) 4 := ⟨k_X3_findPlacings, (jm 770 (by decide +kernel) rfl), (jm 772 (by decide +kernel) rfl), (jm 31 (by decide +kernel) rfl)⟩
theorem s_X3_182 : jSS RX3 182 yX3_areSleepers cX3_areSleepers 5 (some .boolean) 4 := ⟨k_X3_areSleepers, (jm 762 (by decide +kernel) rfl), (jm 763 (by decide +kernel) rfl)⟩
theorem s_X3_186 : jSV RX3 186 yX3_placingsOf cX3_placingsOf 5 (some .int) 4 := ⟨k_X3_placingsOf, (jm 766 (by decide +kernel) rfl), (jm 768 (by decide +kernel) rfl), (jm 30 (by decide +kernel) rfl)⟩
theorem s_X3_189 : jSV RX3 189 yX3_findOrders cX3_findOrders 7 none 0 := ⟨k_X3_findOrders, (jm 790 (by decide +kernel) rfl), (jm 792 (by decide +kernel) rfl), (jm 34 (by decide +kernel) rfl)⟩
theorem s_X3_192 : jSV RX3 192 yX3_keep cX3_keep 2 none 0 := ⟨k_X3_keep, (jm 802 (by decide +kernel) rfl), (jm 804 (by decide +kernel) rfl), (jm 35 (by decide +kernel) rfl)⟩
theorem s_X3_195 : jSV RX3 195 yX3_turned cX3_turned 2 (some .int) 1 := ⟨k_X3_turned, (jm 806 (by decide +kernel) rfl), (jm 808 (by decide +kernel) rfl), (jm 36 (by decide +kernel) rfl)⟩
theorem q_X3_198 : Cond.constantLong RX3 198 (9999) ∈ jB := (jm 814 (by decide +kernel) rfl)
theorem q_X3_200 : Cond.constantLong RX3 200 (75) ∈ jB := (jm 815 (by decide +kernel) rfl)
theorem q_X3_202 : Cond.constantLong RX3 202 (74) ∈ jB := (jm 816 (by decide +kernel) rfl)
theorem q_X3_204 : Cond.constantLong RX3 204 (65537) ∈ jB := (jm 817 (by decide +kernel) rfl)
theorem f_X3_206 : jF RX3 206 3 23 := ⟨RX3, TX3, 24, rfl, by decide, uw_X3, (jm 550 (by decide +kernel) rfl)⟩
theorem f_X3_210 : jF RX3 210 3 22 := ⟨RX3, TX3, 24, rfl, by decide, uw_X3, (jm 549 (by decide +kernel) rfl)⟩
theorem p_X3_210 : jP RX3 210 3 22 false .int := ⟨RX3, TX3, 24, tyX3, rfl, by decide, uw_X3, (jm 549 (by decide +kernel) rfl), tyX3_ok, nmX3, rfl, by decide +kernel, by first | exact fun _ => rfl | decide⟩
theorem s_X3_213 : jSV RX3 213 yX3_pass cX3_pass 3 (some .int) 1 := ⟨k_X3_pass, (jm 826 (by decide +kernel) rfl), (jm 828 (by decide +kernel) rfl), (jm 38 (by decide +kernel) rfl)⟩
theorem p_X3_206 : jP RX3 206 3 23 false .boolean := ⟨RX3, TX3, 24, tyX3, rfl, by decide, uw_X3, (jm 550 (by decide +kernel) rfl), tyX3_ok, nmX3, rfl, by decide +kernel, by first | exact fun _ => rfl | decide⟩
theorem s_X3_216 : jSV RX3 216 yX3_passAll cX3_passAll 2 none 0 := ⟨k_X3_passAll, (jm 822 (by decide +kernel) rfl), (jm 824 (by decide +kernel) rfl), (jm 37 (by decide +kernel) rfl)⟩
theorem s_X3_219 : jSV RX3 219 yX3_sewnSeams cX3_sewnSeams 3 (some .int) 0 := ⟨k_X3_sewnSeams, (jm 838 (by decide +kernel) rfl), (jm 840 (by decide +kernel) rfl), (jm 39 (by decide +kernel) rfl)⟩
theorem n_L_7 : jW RL 7 2 7 [.null, .null, .null, .null, .null, .int 0, .null] := ⟨RX2, TX2, tyX2, rfl, uw_X2, tyX2_ok, (jm 48 (by decide +kernel) rfl), (jm 49 (by decide +kernel) rfl), (jm 41 (by decide +kernel) rfl), by decide +kernel⟩
theorem s_L_9 : jSI RL 9 yX2_init cX2_init 1 0 := ⟨k_X2_init, (jm 50 (by decide +kernel) rfl), rfl, (jm 51 (by decide +kernel) rfl)⟩
theorem n_L_10 : jW RL 10 3 24 [.int 0, .int 0, .int 0, .int 0, .int 0, .null, .null, .null, .null, .int 0, .null, .null, .int 0, .int 0, .null, .null, .null, .null, .null, .null, .null, .null, .int 0, .int 0] := ⟨RX3, TX3, tyX3, rfl, uw_X3, tyX3_ok, (jm 516 (by decide +kernel) rfl), (jm 517 (by decide +kernel) rfl), (jm 45 (by decide +kernel) rfl), by decide +kernel⟩
theorem s_L_12 : jSI RL 12 yX3_init cX3_init 1 0 := ⟨k_X3_init, (jm 518 (by decide +kernel) rfl), rfl, (jm 519 (by decide +kernel) rfl)⟩
theorem s_L_13 : jSV RL 13 yX2_quilt cX2_quilt 3 (some .int) 2 := ⟨k_X2_quilt, (jm 162 (by decide +kernel) rfl), (jm 163 (by decide +kernel) rfl), (jm 164 (by decide +kernel) rfl)⟩
theorem s_L_17 : jSV RL 17 yX3_quilt cX3_quilt 3 (some .int) 2 := ⟨k_X3_quilt, (jm 601 (by decide +kernel) rfl), (jm 602 (by decide +kernel) rfl), (jm 603 (by decide +kernel) rfl)⟩
theorem s_L_18 : jSV RL 18 yX2_say cX2_say 2 (some .int) 1 := ⟨k_X2_say, (jm 173 (by decide +kernel) rfl), (jm 174 (by decide +kernel) rfl), (jm 175 (by decide +kernel) rfl)⟩
theorem s_L_22 : jSV RL 22 yX3_say cX3_say 2 (some .int) 1 := ⟨k_X3_say, (jm 613 (by decide +kernel) rfl), (jm 614 (by decide +kernel) rfl), (jm 615 (by decide +kernel) rfl)⟩
theorem s_L_23 : jSV RL 23 yX2_wipe cX2_wipe 2 (some .int) 0 := ⟨k_X2_wipe, (jm 177 (by decide +kernel) rfl), (jm 178 (by decide +kernel) rfl), (jm 179 (by decide +kernel) rfl)⟩
theorem s_L_27 : jSV RL 27 yX3_wipe cX3_wipe 2 (some .int) 0 := ⟨k_X3_wipe, (jm 619 (by decide +kernel) rfl), (jm 620 (by decide +kernel) rfl), (jm 621 (by decide +kernel) rfl)⟩
theorem s_L_28 : jSV RL 28 yX2_fault cX2_fault 2 (some .int) 0 := ⟨k_X2_fault, (jm 181 (by decide +kernel) rfl), (jm 182 (by decide +kernel) rfl), (jm 183 (by decide +kernel) rfl)⟩
theorem s_L_31 : jSV RL 31 yX3_fault cX3_fault 2 (some .int) 0 := ⟨k_X3_fault, (jm 623 (by decide +kernel) rfl), (jm 624 (by decide +kernel) rfl), (jm 625 (by decide +kernel) rfl)⟩
theorem s_L_32 : jSV RL 32 yX2_lay cX2_lay 2 (some .int) 0 := ⟨k_X2_lay, (jm 191 (by decide +kernel) rfl), (jm 192 (by decide +kernel) rfl), (jm 193 (by decide +kernel) rfl)⟩
theorem s_L_35 : jSV RL 35 yX3_lay cX3_lay 2 (some .int) 0 := ⟨k_X3_lay, (jm 629 (by decide +kernel) rfl), (jm 630 (by decide +kernel) rfl), (jm 631 (by decide +kernel) rfl)⟩
theorem s_L_36 : jSV RL 36 yX2_family cX2_family 2 (some .int) 1 := ⟨k_X2_family, (jm 212 (by decide +kernel) rfl), (jm 213 (by decide +kernel) rfl), (jm 214 (by decide +kernel) rfl)⟩
theorem s_L_39 : jSV RL 39 yX3_family cX3_family 2 (some .int) 1 := ⟨k_X3_family, (jm 645 (by decide +kernel) rfl), (jm 646 (by decide +kernel) rfl), (jm 647 (by decide +kernel) rfl)⟩
theorem s_L_40 : jSV RL 40 yX2_foes cX2_foes 4 (some .int) 3 := ⟨k_X2_foes, (jm 228 (by decide +kernel) rfl), (jm 229 (by decide +kernel) rfl), (jm 230 (by decide +kernel) rfl)⟩
theorem s_L_44 : jSV RL 44 yX3_foes cX3_foes 6 (some .int) 3 := ⟨k_X3_foes, (jm 653 (by decide +kernel) rfl), (jm 654 (by decide +kernel) rfl), (jm 655 (by decide +kernel) rfl)⟩
theorem s_L_45 : jSV RL 45 yX2_set cX2_set 4 (some .int) 2 := ⟨k_X2_set, (jm 248 (by decide +kernel) rfl), (jm 249 (by decide +kernel) rfl), (jm 250 (by decide +kernel) rfl)⟩
theorem s_L_48 : jSV RL 48 yX3_set cX3_set 4 (some .int) 2 := ⟨k_X3_set, (jm 665 (by decide +kernel) rfl), (jm 666 (by decide +kernel) rfl), (jm 667 (by decide +kernel) rfl)⟩
theorem s_L_49 : jSV RL 49 yX2_sew cX2_sew 3 (some .int) 2 := ⟨k_X2_sew, (jm 252 (by decide +kernel) rfl), (jm 253 (by decide +kernel) rfl), (jm 254 (by decide +kernel) rfl)⟩
theorem s_L_52 : jSV RL 52 yX3_sew cX3_sew 3 (some .int) 2 := ⟨k_X3_sew, (jm 671 (by decide +kernel) rfl), (jm 672 (by decide +kernel) rfl), (jm 673 (by decide +kernel) rfl)⟩
theorem s_L_53 : jSV RL 53 yX2_unpick cX2_unpick 3 (some .int) 2 := ⟨k_X2_unpick, (jm 291 (by decide +kernel) rfl), (jm 292 (by decide +kernel) rfl), (jm 293 (by decide +kernel) rfl)⟩
theorem s_L_56 : jSV RL 56 yX3_unpick cX3_unpick 3 (some .int) 2 := ⟨k_X3_unpick, (jm 687 (by decide +kernel) rfl), (jm 688 (by decide +kernel) rfl), (jm 689 (by decide +kernel) rfl)⟩
theorem s_L_57 : jSV RL 57 yX2_birth cX2_birth 3 (some .int) 2 := ⟨k_X2_birth, (jm 296 (by decide +kernel) rfl), (jm 297 (by decide +kernel) rfl), (jm 298 (by decide +kernel) rfl)⟩
theorem s_L_60 : jSV RL 60 yX3_birth cX3_birth 3 (some .int) 2 := ⟨k_X3_birth, (jm 691 (by decide +kernel) rfl), (jm 692 (by decide +kernel) rfl), (jm 693 (by decide +kernel) rfl)⟩
theorem s_L_61 : jSV RL 61 yX2_death cX2_death 2 (some .int) 1 := ⟨k_X2_death, (jm 310 (by decide +kernel) rfl), (jm 311 (by decide +kernel) rfl), (jm 312 (by decide +kernel) rfl)⟩
theorem s_L_64 : jSV RL 64 yX3_death cX3_death 2 (some .int) 1 := ⟨k_X3_death, (jm 699 (by decide +kernel) rfl), (jm 700 (by decide +kernel) rfl), (jm 701 (by decide +kernel) rfl)⟩
theorem s_L_65 : jSV RL 65 yX2_pieces cX2_pieces 2 (some .int) 1 := ⟨k_X2_pieces, (jm 318 (by decide +kernel) rfl), (jm 319 (by decide +kernel) rfl), (jm 320 (by decide +kernel) rfl)⟩
theorem s_L_68 : jSV RL 68 yX3_pieces cX3_pieces 2 (some .int) 1 := ⟨k_X3_pieces, (jm 707 (by decide +kernel) rfl), (jm 708 (by decide +kernel) rfl), (jm 709 (by decide +kernel) rfl)⟩
theorem s_L_69 : jSV RL 69 yX2_cold cX2_cold 1 (some .int) 0 := ⟨k_X2_cold, (jm 331 (by decide +kernel) rfl), (jm 332 (by decide +kernel) rfl), (jm 333 (by decide +kernel) rfl)⟩
theorem s_L_72 : jSV RL 72 yX3_cold cX3_cold 3 (some .int) 0 := ⟨k_X3_cold, (jm 719 (by decide +kernel) rfl), (jm 720 (by decide +kernel) rfl), (jm 721 (by decide +kernel) rfl)⟩
theorem s_L_73 : jSV RL 73 yX2_spent cX2_spent 1 (some .int) 0 := ⟨k_X2_spent, (jm 339 (by decide +kernel) rfl), (jm 340 (by decide +kernel) rfl), (jm 341 (by decide +kernel) rfl)⟩
theorem s_L_76 : jSV RL 76 yX3_spent cX3_spent 4 (some .int) 0 := ⟨k_X3_spent, (jm 723 (by decide +kernel) rfl), (jm 724 (by decide +kernel) rfl), (jm 725 (by decide +kernel) rfl)⟩
theorem s_L_77 : jSV RL 77 yX2_parts cX2_parts 1 (some .int) 0 := ⟨k_X2_parts, (jm 351 (by decide +kernel) rfl), (jm 352 (by decide +kernel) rfl), (jm 353 (by decide +kernel) rfl)⟩
theorem s_L_80 : jSV RL 80 yX3_parts cX3_parts 5 (some .int) 0 := ⟨k_X3_parts, (jm 727 (by decide +kernel) rfl), (jm 728 (by decide +kernel) rfl), (jm 729 (by decide +kernel) rfl)⟩
theorem s_L_81 : jSV RL 81 yX2_whole cX2_whole 7 (some .int) 1 := ⟨k_X2_whole, (jm 360 (by decide +kernel) rfl), (jm 361 (by decide +kernel) rfl), (jm 362 (by decide +kernel) rfl)⟩
theorem s_L_84 : jSV RL 84 yX3_whole cX3_whole 4 (some .int) 1 := ⟨k_X3_whole, (jm 731 (by decide +kernel) rfl), (jm 732 (by decide +kernel) rfl), (jm 733 (by decide +kernel) rfl)⟩
theorem s_L_85 : jSV RL 85 yX2_patch cX2_patch 7 (some .int) 2 := ⟨k_X2_patch, (jm 385 (by decide +kernel) rfl), (jm 386 (by decide +kernel) rfl), (jm 387 (by decide +kernel) rfl)⟩
theorem s_L_88 : jSV RL 88 yX3_patch cX3_patch 7 (some .int) 2 := ⟨k_X3_patch, (jm 744 (by decide +kernel) rfl), (jm 745 (by decide +kernel) rfl), (jm 746 (by decide +kernel) rfl)⟩
theorem s_L_89 : jSV RL 89 yX2_wash cX2_wash 9 (some .int) 2 := ⟨k_X2_wash, (jm 389 (by decide +kernel) rfl), (jm 390 (by decide +kernel) rfl), (jm 391 (by decide +kernel) rfl)⟩
theorem s_L_92 : jSV RL 92 yX3_wash cX3_wash 11 (some .int) 2 := ⟨k_X3_wash, (jm 749 (by decide +kernel) rfl), (jm 750 (by decide +kernel) rfl), (jm 751 (by decide +kernel) rfl)⟩
theorem s_L_93 : jSV RL 93 yX2_placings cX2_placings 6 (some .int) 4 := ⟨k_X2_placings, (jm 403 (by decide +kernel) rfl), (jm 404 (by decide +kernel) rfl), (jm 405 (by decide +kernel) rfl)⟩
theorem s_L_97 : jSV RL 97 yX3_placings cX3_placings 5 (some .int) 4 := ⟨k_X3_placings, (jm 758 (by decide +kernel) rfl), (jm 759 (by decide +kernel) rfl), (jm 760 (by decide +kernel) rfl)⟩
theorem s_L_98 : jSV RL 98 yX2_placed cX2_placed 7 (some .int) 5 := ⟨k_X2_placed, (jm 468 (by decide +kernel) rfl), (jm 469 (by decide +kernel) rfl), (jm 470 (by decide +kernel) rfl)⟩
theorem s_L_102 : jSV RL 102 yX3_placed cX3_placed 6 (some .int) 5 := ⟨k_X3_placed, (jm 782 (by decide +kernel) rfl), (jm 783 (by decide +kernel) rfl), (jm 784 (by decide +kernel) rfl)⟩
theorem s_L_103 : jSV RL 103 yX2_grown cX2_grown 6 (some .long) 0 := ⟨k_X2_grown, (jm 473 (by decide +kernel) rfl), (jm 474 (by decide +kernel) rfl), (jm 475 (by decide +kernel) rfl)⟩
theorem s_L_107 : jSV RL 107 yX3_grown cX3_grown 2 (some .long) 0 := ⟨k_X3_grown, (jm 786 (by decide +kernel) rfl), (jm 787 (by decide +kernel) rfl), (jm 788 (by decide +kernel) rfl)⟩
theorem s_L_108 : jSV RL 108 yX2_could cX2_could 2 (some .int) 1 := ⟨k_X2_could, (jm 486 (by decide +kernel) rfl), (jm 487 (by decide +kernel) rfl), (jm 488 (by decide +kernel) rfl)⟩
theorem s_L_111 : jSV RL 111 yX3_could cX3_could 7 (some .int) 1 := ⟨k_X3_could, (jm 794 (by decide +kernel) rfl), (jm 795 (by decide +kernel) rfl), (jm 796 (by decide +kernel) rfl)⟩
theorem s_L_112 : jSV RL 112 yX2_turn cX2_turn 1 (some .int) 0 := ⟨k_X2_turn, (jm 490 (by decide +kernel) rfl), (jm 491 (by decide +kernel) rfl), (jm 492 (by decide +kernel) rfl)⟩
theorem s_L_115 : jSV RL 115 yX3_turn cX3_turn 4 (some .int) 0 := ⟨k_X3_turn, (jm 798 (by decide +kernel) rfl), (jm 799 (by decide +kernel) rfl), (jm 800 (by decide +kernel) rfl)⟩
theorem s_L_116 : jSV RL 116 yX2_years cX2_years 9 (some .int) 3 := ⟨k_X2_years, (jm 499 (by decide +kernel) rfl), (jm 500 (by decide +kernel) rfl), (jm 501 (by decide +kernel) rfl)⟩
theorem s_L_120 : jSV RL 120 yX3_years cX3_years 10 (some .int) 3 := ⟨k_X3_years, (jm 810 (by decide +kernel) rfl), (jm 811 (by decide +kernel) rfl), (jm 812 (by decide +kernel) rfl)⟩
theorem s_L_121 : jSV RL 121 yX2_image cX2_image 3 (some .int) 1 := ⟨k_X2_image, (jm 504 (by decide +kernel) rfl), (jm 505 (by decide +kernel) rfl), (jm 506 (by decide +kernel) rfl)⟩
theorem s_L_124 : jSV RL 124 yX3_image cX3_image 2 (some .int) 1 := ⟨k_X3_image, (jm 818 (by decide +kernel) rfl), (jm 819 (by decide +kernel) rfl), (jm 820 (by decide +kernel) rfl)⟩
theorem s_L_125 : jSV RL 125 yX2_restore cX2_restore 3 (some .int) 1 := ⟨k_X2_restore, (jm 508 (by decide +kernel) rfl), (jm 509 (by decide +kernel) rfl), (jm 510 (by decide +kernel) rfl)⟩
theorem s_L_128 : jSV RL 128 yX3_restore cX3_restore 2 (some .int) 1 := ⟨k_X3_restore, (jm 830 (by decide +kernel) rfl), (jm 831 (by decide +kernel) rfl), (jm 832 (by decide +kernel) rfl)⟩
theorem s_L_129 : jSV RL 129 yX2_told cX2_told 2 (some .int) 1 := ⟨k_X2_told, (jm 512 (by decide +kernel) rfl), (jm 513 (by decide +kernel) rfl), (jm 514 (by decide +kernel) rfl)⟩
theorem s_L_132 : jSV RL 132 yX3_told cX3_told 2 (some .int) 1 := ⟨k_X3_told, (jm 834 (by decide +kernel) rfl), (jm 835 (by decide +kernel) rfl), (jm 836 (by decide +kernel) rfl)⟩
theorem ac_int : Cond.arrayClass .int ∈ jB := (jm 103 (by decide +kernel) rfl)
theorem ac_long : Cond.arrayClass .long ∈ jB := (jm 485 (by decide +kernel) rfl)
theorem ac_char : Cond.arrayClass .char ∈ jB := (jm 161 (by decide +kernel) rfl)
theorem ac_boolean : Cond.arrayClass .boolean ∈ jB := (jm 600 (by decide +kernel) rfl)
theorem oi_X0_3 : Cond.methodLink RX0 3 Lib.objectInit ∈ jB := (jm 110 (by decide +kernel) rfl)
theorem oi_X1_3 : Cond.methodLink RX1 3 Lib.objectInit ∈ jB := (jm 61 (by decide +kernel) rfl)
theorem oi_X2_1 : Cond.methodLink RX2 1 Lib.objectInit ∈ jB := (jm 53 (by decide +kernel) rfl)
theorem oi_X3_1 : Cond.methodLink RX3 1 Lib.objectInit ∈ jB := (jm 521 (by decide +kernel) rfl)
theorem oi_i : Cond.instanceMethod Lib.objectInit ∈ jB := (jm 54 (by decide +kernel) rfl)
theorem oi_c : Cond.code Lib.objectInit ⟨#[0xb1]⟩ 1 none ∈ jB := (jm 55 (by decide +kernel) rfl)
theorem s_X2_150 : jMmin RX2 150 := ⟨(jm 369 (by decide +kernel) rfl), (jm 370 (by decide +kernel) rfl), (jm 47 (by decide +kernel) rfl), (jm 371 (by decide +kernel) rfl)⟩
theorem s_X2_155 : jMmax RX2 155 := ⟨(jm 372 (by decide +kernel) rfl), (jm 373 (by decide +kernel) rfl), (jm 47 (by decide +kernel) rfl), (jm 374 (by decide +kernel) rfl)⟩
theorem s_X2_213 : jMabs RX2 213 := ⟨(jm 399 (by decide +kernel) rfl), (jm 400 (by decide +kernel) rfl), (jm 47 (by decide +kernel) rfl), (jm 401 (by decide +kernel) rfl)⟩
