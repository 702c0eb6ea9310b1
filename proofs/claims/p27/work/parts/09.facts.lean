/-! what the tables say of each method, each call, each field; by program -/
theorem q_w (i : Nat) {w : Cond} (h : lw_tbl[i]? = some w) (hg : goodWord w = true) : w ∈ q_words := List.mem_filter.mpr ⟨List.mem_of_getElem? h, hg⟩
theorem q_wn (i : Nat) {w : Cond} (h : lw_tbl[i]? = some w) : w ∈ lw_tbl := List.mem_of_getElem? h
theorem q_wall {ws : List Cond} (h : ws.all (fun w => decide (w ∈ lw_tbl) && goodWord w) = true) : ∀ w ∈ ws, w ∈ q_words := fun w hw => by
  have h1 := List.all_eq_true.mp h w hw
  simp only [Bool.and_eq_true, decide_eq_true_eq] at h1
  exact List.mem_filter.mpr h1
abbrev mX0_init : q_M := (yX0_init, cX0_init, 1, none)
theorem iX0_init : q_MI mX0_init 0 := ⟨⟨q_w 37 (by decide +kernel) rfl, q_w 15 (by decide +kernel) rfl, ⟨by decide +kernel, by decide +kernel, by decide +kernel⟩, by decide +kernel, by decide +kernel⟩, q_w 36 (by decide +kernel) rfl, rfl, rfl⟩
abbrev mX0_copyFrom : q_M := (yX0_copyFrom, cX0_copyFrom, 2, none)
theorem iX0_copyFrom : q_MV mX0_copyFrom 1 := ⟨⟨q_w 277 (by decide +kernel) rfl, q_w 15 (by decide +kernel) rfl, ⟨by decide +kernel, by decide +kernel, by decide +kernel⟩, by decide +kernel, by decide +kernel⟩, q_w 275 (by decide +kernel) rfl, q_w 276 (by decide +kernel) rfl⟩
abbrev mX0_hasRow : q_M := (yX0_hasRow, cX0_hasRow, 2, (some .boolean))
theorem iX0_hasRow : q_MV mX0_hasRow 1 := ⟨⟨q_w 316 (by decide +kernel) rfl, q_w 15 (by decide +kernel) rfl, ⟨by decide +kernel, by decide +kernel, by decide +kernel⟩, by decide +kernel, by decide +kernel⟩, q_w 314 (by decide +kernel) rfl, q_w 315 (by decide +kernel) rfl⟩
abbrev mX0_rightAt : q_M := (yX0_rightAt, cX0_rightAt, 3, (some .int))
theorem iX0_rightAt : q_MS mX0_rightAt 3 := ⟨⟨q_w 343 (by decide +kernel) rfl, q_w 15 (by decide +kernel) rfl, ⟨by decide +kernel, by decide +kernel, by decide +kernel⟩, by decide +kernel, by decide +kernel⟩, q_w 342 (by decide +kernel) rfl⟩
abbrev mX0_offersOf : q_M := (yX0_offersOf, cX0_offersOf, 2, (some (.object "ShadowRows$Offers")))
theorem iX0_offersOf : q_MV mX0_offersOf 1 := ⟨⟨q_w 552 (by decide +kernel) rfl, q_w 15 (by decide +kernel) rfl, ⟨by decide +kernel, by decide +kernel, by decide +kernel⟩, by decide +kernel, by decide +kernel⟩, q_w 550 (by decide +kernel) rfl, q_w 551 (by decide +kernel) rfl⟩
abbrev mX0_build : q_M := (yX0_build, cX0_build, 5, (some .int))
theorem iX0_build : q_MV mX0_build 3 := ⟨⟨q_w 289 (by decide +kernel) rfl, q_w 15 (by decide +kernel) rfl, ⟨by decide +kernel, by decide +kernel, by decide +kernel⟩, by decide +kernel, by decide +kernel⟩, q_w 287 (by decide +kernel) rfl, q_w 288 (by decide +kernel) rfl⟩
abbrev mX0_isTaken : q_M := (yX0_isTaken, cX0_isTaken, 3, (some .boolean))
theorem iX0_isTaken : q_MV mX0_isTaken 1 := ⟨⟨q_w 296 (by decide +kernel) rfl, q_w 15 (by decide +kernel) rfl, ⟨by decide +kernel, by decide +kernel, by decide +kernel⟩, by decide +kernel, by decide +kernel⟩, q_w 295 (by decide +kernel) rfl, q_w 0 (by decide +kernel) rfl⟩
abbrev mX0_changeTilt : q_M := (yX0_changeTilt, cX0_changeTilt, 4, (some .int))
theorem iX0_changeTilt : q_MV mX0_changeTilt 2 := ⟨⟨q_w 312 (by decide +kernel) rfl, q_w 15 (by decide +kernel) rfl, ⟨by decide +kernel, by decide +kernel, by decide +kernel⟩, by decide +kernel, by decide +kernel⟩, q_w 310 (by decide +kernel) rfl, q_w 311 (by decide +kernel) rfl⟩
abbrev mX0_changeWind : q_M := (yX0_changeWind, cX0_changeWind, 4, (some .int))
theorem iX0_changeWind : q_MV mX0_changeWind 2 := ⟨⟨q_w 324 (by decide +kernel) rfl, q_w 15 (by decide +kernel) rfl, ⟨by decide +kernel, by decide +kernel, by decide +kernel⟩, by decide +kernel, by decide +kernel⟩, q_w 322 (by decide +kernel) rfl, q_w 323 (by decide +kernel) rfl⟩
abbrev mX0_rightError : q_M := (yX0_rightError, cX0_rightError, 5, (some .int))
theorem iX0_rightError : q_MV mX0_rightError 4 := ⟨⟨q_w 340 (by decide +kernel) rfl, q_w 15 (by decide +kernel) rfl, ⟨by decide +kernel, by decide +kernel, by decide +kernel⟩, by decide +kernel, by decide +kernel⟩, q_w 338 (by decide +kernel) rfl, q_w 339 (by decide +kernel) rfl⟩
abbrev mX0_changeRight : q_M := (yX0_changeRight, cX0_changeRight, 8, (some .int))
theorem iX0_changeRight : q_MV mX0_changeRight 4 := ⟨⟨q_w 336 (by decide +kernel) rfl, q_w 15 (by decide +kernel) rfl, ⟨by decide +kernel, by decide +kernel, by decide +kernel⟩, by decide +kernel, by decide +kernel⟩, q_w 334 (by decide +kernel) rfl, q_w 335 (by decide +kernel) rfl⟩
abbrev mX1_init : q_M := (yX1_init, cX1_init, 2, none)
theorem iX1_init : q_MI mX1_init 0 := ⟨⟨q_w 224 (by decide +kernel) rfl, q_w 22 (by decide +kernel) rfl, ⟨by decide +kernel, by decide +kernel, by decide +kernel⟩, by decide +kernel, by decide +kernel⟩, q_w 223 (by decide +kernel) rfl, rfl, rfl⟩
abbrev mX1_mark : q_M := (yX1_mark, cX1_mark, 2, none)
theorem iX1_mark : q_MV mX1_mark 1 := ⟨⟨q_w 273 (by decide +kernel) rfl, q_w 22 (by decide +kernel) rfl, ⟨by decide +kernel, by decide +kernel, by decide +kernel⟩, by decide +kernel, by decide +kernel⟩, q_w 271 (by decide +kernel) rfl, q_w 272 (by decide +kernel) rfl⟩
abbrev mX1_keep : q_M := (yX1_keep, cX1_keep, 2, (some .int))
theorem iX1_keep : q_MV mX1_keep 1 := ⟨⟨q_w 300 (by decide +kernel) rfl, q_w 22 (by decide +kernel) rfl, ⟨by decide +kernel, by decide +kernel, by decide +kernel⟩, by decide +kernel, by decide +kernel⟩, q_w 298 (by decide +kernel) rfl, q_w 299 (by decide +kernel) rfl⟩
abbrev mX1_dropOldest : q_M := (yX1_dropOldest, cX1_dropOldest, 3, none)
theorem iX1_dropOldest : q_MV mX1_dropOldest 0 := ⟨⟨q_w 304 (by decide +kernel) rfl, q_w 22 (by decide +kernel) rfl, ⟨by decide +kernel, by decide +kernel, by decide +kernel⟩, by decide +kernel, by decide +kernel⟩, q_w 303 (by decide +kernel) rfl, q_w 1 (by decide +kernel) rfl⟩
abbrev mX1_goBack : q_M := (yX1_goBack, cX1_goBack, 2, (some .int))
theorem iX1_goBack : q_MV mX1_goBack 1 := ⟨⟨q_w 588 (by decide +kernel) rfl, q_w 22 (by decide +kernel) rfl, ⟨by decide +kernel, by decide +kernel, by decide +kernel⟩, by decide +kernel, by decide +kernel⟩, q_w 586 (by decide +kernel) rfl, q_w 587 (by decide +kernel) rfl⟩
abbrev mX2_init : q_M := (yX2_init, cX2_init, 2, none)
theorem iX2_init : q_MI mX2_init 1 := ⟨⟨q_w 122 (by decide +kernel) rfl, q_w 17 (by decide +kernel) rfl, ⟨by decide +kernel, by decide +kernel, by decide +kernel⟩, by decide +kernel, by decide +kernel⟩, q_w 121 (by decide +kernel) rfl, rfl, rfl⟩
abbrev mX2_look : q_M := (yX2_look, cX2_look, 4, none)
theorem iX2_look : q_MV mX2_look 1 := ⟨⟨q_w 446 (by decide +kernel) rfl, q_w 17 (by decide +kernel) rfl, ⟨by decide +kernel, by decide +kernel, by decide +kernel⟩, by decide +kernel, by decide +kernel⟩, q_w 444 (by decide +kernel) rfl, q_w 445 (by decide +kernel) rfl⟩
abbrev mX2_isFlat : q_M := (yX2_isFlat, cX2_isFlat, 1, (some .boolean))
theorem iX2_isFlat : q_MV mX2_isFlat 0 := ⟨⟨q_w 464 (by decide +kernel) rfl, q_w 17 (by decide +kernel) rfl, ⟨by decide +kernel, by decide +kernel, by decide +kernel⟩, by decide +kernel, by decide +kernel⟩, q_w 462 (by decide +kernel) rfl, q_w 463 (by decide +kernel) rfl⟩
abbrev mX2_sun : q_M := (yX2_sun, cX2_sun, 1, (some .int))
theorem iX2_sun : q_MV mX2_sun 0 := ⟨⟨q_w 482 (by decide +kernel) rfl, q_w 17 (by decide +kernel) rfl, ⟨by decide +kernel, by decide +kernel, by decide +kernel⟩, by decide +kernel, by decide +kernel⟩, q_w 480 (by decide +kernel) rfl, q_w 481 (by decide +kernel) rfl⟩
abbrev mX2_ahead : q_M := (yX2_ahead, cX2_ahead, 4, (some .int))
theorem iX2_ahead : q_MV mX2_ahead 2 := ⟨⟨q_w 454 (by decide +kernel) rfl, q_w 17 (by decide +kernel) rfl, ⟨by decide +kernel, by decide +kernel, by decide +kernel⟩, by decide +kernel, by decide +kernel⟩, q_w 452 (by decide +kernel) rfl, q_w 453 (by decide +kernel) rfl⟩
abbrev mX2_lossBetween : q_M := (yX2_lossBetween, cX2_lossBetween, 5, (some .int))
theorem iX2_lossBetween : q_MV mX2_lossBetween 2 := ⟨⟨q_w 450 (by decide +kernel) rfl, q_w 17 (by decide +kernel) rfl, ⟨by decide +kernel, by decide +kernel, by decide +kernel⟩, by decide +kernel, by decide +kernel⟩, q_w 449 (by decide +kernel) rfl, q_w 6 (by decide +kernel) rfl⟩
abbrev mX2_limitOf : q_M := (yX2_limitOf, cX2_limitOf, 5, (some .int))
theorem iX2_limitOf : q_MV mX2_limitOf 1 := ⟨⟨q_w 460 (by decide +kernel) rfl, q_w 17 (by decide +kernel) rfl, ⟨by decide +kernel, by decide +kernel, by decide +kernel⟩, by decide +kernel, by decide +kernel⟩, q_w 459 (by decide +kernel) rfl, q_w 7 (by decide +kernel) rfl⟩
abbrev mX2_tiltOf : q_M := (yX2_tiltOf, cX2_tiltOf, 2, (some .int))
theorem iX2_tiltOf : q_MV mX2_tiltOf 1 := ⟨⟨q_w 470 (by decide +kernel) rfl, q_w 17 (by decide +kernel) rfl, ⟨by decide +kernel, by decide +kernel, by decide +kernel⟩, by decide +kernel, by decide +kernel⟩, q_w 468 (by decide +kernel) rfl, q_w 469 (by decide +kernel) rfl⟩
abbrev mX2_shadow : q_M := (yX2_shadow, cX2_shadow, 4, (some .int))
theorem iX2_shadow : q_MV mX2_shadow 3 := ⟨⟨q_w 496 (by decide +kernel) rfl, q_w 17 (by decide +kernel) rfl, ⟨by decide +kernel, by decide +kernel, by decide +kernel⟩, by decide +kernel, by decide +kernel⟩, q_w 494 (by decide +kernel) rfl, q_w 495 (by decide +kernel) rfl⟩
abbrev mX2_toBlame : q_M := (yX2_toBlame, cX2_toBlame, 8, (some .int))
theorem iX2_toBlame : q_MV mX2_toBlame 1 := ⟨⟨q_w 492 (by decide +kernel) rfl, q_w 17 (by decide +kernel) rfl, ⟨by decide +kernel, by decide +kernel, by decide +kernel⟩, by decide +kernel, by decide +kernel⟩, q_w 490 (by decide +kernel) rfl, q_w 491 (by decide +kernel) rfl⟩
abbrev mX2_shade : q_M := (yX2_shade, cX2_shade, 3, (some .int))
theorem iX2_shade : q_MV mX2_shade 1 := ⟨⟨q_w 488 (by decide +kernel) rfl, q_w 17 (by decide +kernel) rfl, ⟨by decide +kernel, by decide +kernel, by decide +kernel⟩, by decide +kernel, by decide +kernel⟩, q_w 486 (by decide +kernel) rfl, q_w 487 (by decide +kernel) rfl⟩
abbrev mX2_unshadedYield : q_M := (yX2_unshadedYield, cX2_unshadedYield, 2, (some .int))
theorem iX2_unshadedYield : q_MV mX2_unshadedYield 1 := ⟨⟨q_w 478 (by decide +kernel) rfl, q_w 17 (by decide +kernel) rfl, ⟨by decide +kernel, by decide +kernel, by decide +kernel⟩, by decide +kernel, by decide +kernel⟩, q_w 476 (by decide +kernel) rfl, q_w 477 (by decide +kernel) rfl⟩
abbrev mX2_yieldNow : q_M := (yX2_yieldNow, cX2_yieldNow, 2, (some .int))
theorem iX2_yieldNow : q_MV mX2_yieldNow 1 := ⟨⟨q_w 474 (by decide +kernel) rfl, q_w 17 (by decide +kernel) rfl, ⟨by decide +kernel, by decide +kernel, by decide +kernel⟩, by decide +kernel, by decide +kernel⟩, q_w 472 (by decide +kernel) rfl, q_w 473 (by decide +kernel) rfl⟩
abbrev mX2_yieldOfDay : q_M := (yX2_yieldOfDay, cX2_yieldOfDay, 4, (some .int))
theorem iX2_yieldOfDay : q_MV mX2_yieldOfDay 1 := ⟨⟨q_w 442 (by decide +kernel) rfl, q_w 17 (by decide +kernel) rfl, ⟨by decide +kernel, by decide +kernel, by decide +kernel⟩, by decide +kernel, by decide +kernel⟩, q_w 440 (by decide +kernel) rfl, q_w 441 (by decide +kernel) rfl⟩
abbrev mX2_unshadedYieldOfDay : q_M := (yX2_unshadedYieldOfDay, cX2_unshadedYieldOfDay, 4, (some .int))
theorem iX2_unshadedYieldOfDay : q_MV mX2_unshadedYieldOfDay 1 := ⟨⟨q_w 503 (by decide +kernel) rfl, q_w 17 (by decide +kernel) rfl, ⟨by decide +kernel, by decide +kernel, by decide +kernel⟩, by decide +kernel, by decide +kernel⟩, q_w 501 (by decide +kernel) rfl, q_w 502 (by decide +kernel) rfl⟩
abbrev mX2_yieldOfAll : q_M := (yX2_yieldOfAll, cX2_yieldOfAll, 4, (some .int))
theorem iX2_yieldOfAll : q_MV mX2_yieldOfAll 0 := ⟨⟨q_w 566 (by decide +kernel) rfl, q_w 17 (by decide +kernel) rfl, ⟨by decide +kernel, by decide +kernel, by decide +kernel⟩, by decide +kernel, by decide +kernel⟩, q_w 564 (by decide +kernel) rfl, q_w 565 (by decide +kernel) rfl⟩
abbrev mX2_hoursLowered : q_M := (yX2_hoursLowered, cX2_hoursLowered, 4, (some .int))
theorem iX2_hoursLowered : q_MV mX2_hoursLowered 1 := ⟨⟨q_w 507 (by decide +kernel) rfl, q_w 17 (by decide +kernel) rfl, ⟨by decide +kernel, by decide +kernel, by decide +kernel⟩, by decide +kernel, by decide +kernel⟩, q_w 505 (by decide +kernel) rfl, q_w 506 (by decide +kernel) rfl⟩
abbrev mX2_hoursShaded : q_M := (yX2_hoursShaded, cX2_hoursShaded, 4, (some .int))
theorem iX2_hoursShaded : q_MV mX2_hoursShaded 1 := ⟨⟨q_w 511 (by decide +kernel) rfl, q_w 17 (by decide +kernel) rfl, ⟨by decide +kernel, by decide +kernel, by decide +kernel⟩, by decide +kernel, by decide +kernel⟩, q_w 509 (by decide +kernel) rfl, q_w 510 (by decide +kernel) rfl⟩
abbrev mX2_mostToBlame : q_M := (yX2_mostToBlame, cX2_mostToBlame, 4, (some .int))
theorem iX2_mostToBlame : q_MV mX2_mostToBlame 1 := ⟨⟨q_w 515 (by decide +kernel) rfl, q_w 17 (by decide +kernel) rfl, ⟨by decide +kernel, by decide +kernel, by decide +kernel⟩, by decide +kernel, by decide +kernel⟩, q_w 513 (by decide +kernel) rfl, q_w 514 (by decide +kernel) rfl⟩
abbrev mX3_init : q_M := (yX3_init, cX3_init, 2, none)
theorem iX3_init : q_MI mX3_init 1 := ⟨⟨q_w 149 (by decide +kernel) rfl, q_w 18 (by decide +kernel) rfl, ⟨by decide +kernel, by decide +kernel, by decide +kernel⟩, by decide +kernel, by decide +kernel⟩, q_w 148 (by decide +kernel) rfl, rfl, rfl⟩
abbrev mX3_addAsk : q_M := (yX3_addAsk, cX3_addAsk, 5, (some .int))
theorem iX3_addAsk : q_MV mX3_addAsk 4 := ⟨⟨q_w 351 (by decide +kernel) rfl, q_w 18 (by decide +kernel) rfl, ⟨by decide +kernel, by decide +kernel, by decide +kernel⟩, by decide +kernel, by decide +kernel⟩, q_w 349 (by decide +kernel) rfl, q_w 350 (by decide +kernel) rfl⟩
abbrev mX3_addBid : q_M := (yX3_addBid, cX3_addBid, 6, (some .int))
theorem iX3_addBid : q_MV mX3_addBid 5 := ⟨⟨q_w 369 (by decide +kernel) rfl, q_w 18 (by decide +kernel) rfl, ⟨by decide +kernel, by decide +kernel, by decide +kernel⟩, by decide +kernel, by decide +kernel⟩, q_w 367 (by decide +kernel) rfl, q_w 368 (by decide +kernel) rfl⟩
abbrev mX3_isBadOffer : q_M := (yX3_isBadOffer, cX3_isBadOffer, 2, (some .boolean))
theorem iX3_isBadOffer : q_MS mX3_isBadOffer 2 := ⟨⟨q_w 356 (by decide +kernel) rfl, q_w 18 (by decide +kernel) rfl, ⟨by decide +kernel, by decide +kernel, by decide +kernel⟩, by decide +kernel, by decide +kernel⟩, q_w 355 (by decide +kernel) rfl⟩
abbrev mX3_tradeAll : q_M := (yX3_tradeAll, cX3_tradeAll, 4, (some .int))
theorem iX3_tradeAll : q_MV mX3_tradeAll 0 := ⟨⟨q_w 377 (by decide +kernel) rfl, q_w 18 (by decide +kernel) rfl, ⟨by decide +kernel, by decide +kernel, by decide +kernel⟩, by decide +kernel, by decide +kernel⟩, q_w 375 (by decide +kernel) rfl, q_w 376 (by decide +kernel) rfl⟩
abbrev mX3_serve : q_M := (yX3_serve, cX3_serve, 5, (some .int))
theorem iX3_serve : q_MV mX3_serve 1 := ⟨⟨q_w 389 (by decide +kernel) rfl, q_w 18 (by decide +kernel) rfl, ⟨by decide +kernel, by decide +kernel, by decide +kernel⟩, by decide +kernel, by decide +kernel⟩, q_w 388 (by decide +kernel) rfl, q_w 2 (by decide +kernel) rfl⟩
abbrev mX3_suits : q_M := (yX3_suits, cX3_suits, 5, (some .boolean))
theorem iX3_suits : q_MV mX3_suits 2 := ⟨⟨q_w 393 (by decide +kernel) rfl, q_w 18 (by decide +kernel) rfl, ⟨by decide +kernel, by decide +kernel, by decide +kernel⟩, by decide +kernel, by decide +kernel⟩, q_w 392 (by decide +kernel) rfl, q_w 3 (by decide +kernel) rfl⟩
abbrev mX3_trade : q_M := (yX3_trade, cX3_trade, 9, (some .int))
theorem iX3_trade : q_MV mX3_trade 2 := ⟨⟨q_w 398 (by decide +kernel) rfl, q_w 18 (by decide +kernel) rfl, ⟨by decide +kernel, by decide +kernel, by decide +kernel⟩, by decide +kernel, by decide +kernel⟩, q_w 397 (by decide +kernel) rfl, q_w 4 (by decide +kernel) rfl⟩
abbrev mX4_init : q_M := (yX4_init, cX4_init, 1, none)
theorem iX4_init : q_MI mX4_init 0 := ⟨⟨q_w 43 (by decide +kernel) rfl, q_w 16 (by decide +kernel) rfl, ⟨by decide +kernel, by decide +kernel, by decide +kernel⟩, by decide +kernel, by decide +kernel⟩, q_w 42 (by decide +kernel) rfl, rfl, rfl⟩
abbrev mX4_copyFrom : q_M := (yX4_copyFrom, cX4_copyFrom, 2, none)
theorem iX4_copyFrom : q_MV mX4_copyFrom 1 := ⟨⟨q_w 284 (by decide +kernel) rfl, q_w 16 (by decide +kernel) rfl, ⟨by decide +kernel, by decide +kernel, by decide +kernel⟩, by decide +kernel, by decide +kernel⟩, q_w 282 (by decide +kernel) rfl, q_w 283 (by decide +kernel) rfl⟩
abbrev mX4_has : q_M := (yX4_has, cX4_has, 2, (some .boolean))
theorem iX4_has : q_MV mX4_has 1 := ⟨⟨q_w 556 (by decide +kernel) rfl, q_w 16 (by decide +kernel) rfl, ⟨by decide +kernel, by decide +kernel, by decide +kernel⟩, by decide +kernel, by decide +kernel⟩, q_w 554 (by decide +kernel) rfl, q_w 555 (by decide +kernel) rfl⟩
abbrev mX4_get : q_M := (yX4_get, cX4_get, 3, (some .int))
theorem iX4_get : q_MV mX4_get 2 := ⟨⟨q_w 385 (by decide +kernel) rfl, q_w 16 (by decide +kernel) rfl, ⟨by decide +kernel, by decide +kernel, by decide +kernel⟩, by decide +kernel, by decide +kernel⟩, q_w 383 (by decide +kernel) rfl, q_w 384 (by decide +kernel) rfl⟩
abbrev mX4_add : q_M := (yX4_add, cX4_add, 7, (some .int))
theorem iX4_add : q_MV mX4_add 5 := ⟨⟨q_w 361 (by decide +kernel) rfl, q_w 16 (by decide +kernel) rfl, ⟨by decide +kernel, by decide +kernel, by decide +kernel⟩, by decide +kernel, by decide +kernel⟩, q_w 359 (by decide +kernel) rfl, q_w 360 (by decide +kernel) rfl⟩
abbrev mX4_close : q_M := (yX4_close, cX4_close, 3, none)
theorem iX4_close : q_MV mX4_close 1 := ⟨⟨q_w 414 (by decide +kernel) rfl, q_w 16 (by decide +kernel) rfl, ⟨by decide +kernel, by decide +kernel, by decide +kernel⟩, by decide +kernel, by decide +kernel⟩, q_w 413 (by decide +kernel) rfl, q_w 5 (by decide +kernel) rfl⟩
abbrev mX4_take : q_M := (yX4_take, cX4_take, 3, none)
theorem iX4_take : q_MV mX4_take 2 := ⟨⟨q_w 406 (by decide +kernel) rfl, q_w 16 (by decide +kernel) rfl, ⟨by decide +kernel, by decide +kernel, by decide +kernel⟩, by decide +kernel, by decide +kernel⟩, q_w 404 (by decide +kernel) rfl, q_w 405 (by decide +kernel) rfl⟩
abbrev mX4_removeEmpty : q_M := (yX4_removeEmpty, cX4_removeEmpty, 2, none)
theorem iX4_removeEmpty : q_MV mX4_removeEmpty 0 := ⟨⟨q_w 410 (by decide +kernel) rfl, q_w 16 (by decide +kernel) rfl, ⟨by decide +kernel, by decide +kernel, by decide +kernel⟩, by decide +kernel, by decide +kernel⟩, q_w 408 (by decide +kernel) rfl, q_w 409 (by decide +kernel) rfl⟩
abbrev mX4_sortByPrice : q_M := (yX4_sortByPrice, cX4_sortByPrice, 5, none)
theorem iX4_sortByPrice : q_MV mX4_sortByPrice 1 := ⟨⟨q_w 381 (by decide +kernel) rfl, q_w 16 (by decide +kernel) rfl, ⟨by decide +kernel, by decide +kernel, by decide +kernel⟩, by decide +kernel, by decide +kernel⟩, q_w 379 (by decide +kernel) rfl, q_w 380 (by decide +kernel) rfl⟩
abbrev mX5_init : q_M := (yX5_init, cX5_init, 2, none)
theorem iX5_init : q_MI mX5_init 1 := ⟨⟨q_w 202 (by decide +kernel) rfl, q_w 21 (by decide +kernel) rfl, ⟨by decide +kernel, by decide +kernel, by decide +kernel⟩, by decide +kernel, by decide +kernel⟩, q_w 201 (by decide +kernel) rfl, rfl, rfl⟩
abbrev mX6_init : q_M := (yX6_init, cX6_init, 1, none)
theorem iX6_init : q_MI mX6_init 0 := ⟨⟨q_w 187 (by decide +kernel) rfl, q_w 20 (by decide +kernel) rfl, ⟨by decide +kernel, by decide +kernel, by decide +kernel⟩, by decide +kernel, by decide +kernel⟩, q_w 186 (by decide +kernel) rfl, rfl, rfl⟩
abbrev mX7_init : q_M := (yX7_init, cX7_init, 3, none)
theorem iX7_init : q_MI mX7_init 2 := ⟨⟨q_w 159 (by decide +kernel) rfl, q_w 19 (by decide +kernel) rfl, ⟨by decide +kernel, by decide +kernel, by decide +kernel⟩, by decide +kernel, by decide +kernel⟩, q_w 158 (by decide +kernel) rfl, rfl, rfl⟩
abbrev mX7_run : q_M := (yX7_run, cX7_run, 3, none)
theorem iX7_run : q_MV mX7_run 0 := ⟨⟨q_w 600 (by decide +kernel) rfl, q_w 19 (by decide +kernel) rfl, ⟨by decide +kernel, by decide +kernel, by decide +kernel⟩, by decide +kernel, by decide +kernel⟩, q_w 598 (by decide +kernel) rfl, q_w 599 (by decide +kernel) rfl⟩
abbrev mX7_bestTiltOf : q_M := (yX7_bestTiltOf, cX7_bestTiltOf, 2, (some .int))
theorem iX7_bestTiltOf : q_MV mX7_bestTiltOf 1 := ⟨⟨q_w 636 (by decide +kernel) rfl, q_w 19 (by decide +kernel) rfl, ⟨by decide +kernel, by decide +kernel, by decide +kernel⟩, by decide +kernel, by decide +kernel⟩, q_w 634 (by decide +kernel) rfl, q_w 635 (by decide +kernel) rfl⟩
abbrev mX7_bestYields : q_M := (yX7_bestYields, cX7_bestYields, 3, (some .int))
theorem iX7_bestYields : q_MV mX7_bestYields 0 := ⟨⟨q_w 632 (by decide +kernel) rfl, q_w 19 (by decide +kernel) rfl, ⟨by decide +kernel, by decide +kernel, by decide +kernel⟩, by decide +kernel, by decide +kernel⟩, q_w 630 (by decide +kernel) rfl, q_w 631 (by decide +kernel) rfl⟩
abbrev mX7_stepOf : q_M := (yX7_stepOf, cX7_stepOf, 2, (some .int))
theorem iX7_stepOf : q_MV mX7_stepOf 1 := ⟨⟨q_w 626 (by decide +kernel) rfl, q_w 19 (by decide +kernel) rfl, ⟨by decide +kernel, by decide +kernel, by decide +kernel⟩, by decide +kernel, by decide +kernel⟩, q_w 625 (by decide +kernel) rfl, q_w 12 (by decide +kernel) rfl⟩
abbrev mX7_findTops : q_M := (yX7_findTops, cX7_findTops, 3, none)
theorem iX7_findTops : q_MV mX7_findTops 0 := ⟨⟨q_w 606 (by decide +kernel) rfl, q_w 19 (by decide +kernel) rfl, ⟨by decide +kernel, by decide +kernel, by decide +kernel⟩, by decide +kernel, by decide +kernel⟩, q_w 605 (by decide +kernel) rfl, q_w 9 (by decide +kernel) rfl⟩
abbrev mX7_sortRows : q_M := (yX7_sortRows, cX7_sortRows, 3, none)
theorem iX7_sortRows : q_MV mX7_sortRows 0 := ⟨⟨q_w 613 (by decide +kernel) rfl, q_w 19 (by decide +kernel) rfl, ⟨by decide +kernel, by decide +kernel, by decide +kernel⟩, by decide +kernel, by decide +kernel⟩, q_w 612 (by decide +kernel) rfl, q_w 10 (by decide +kernel) rfl⟩
abbrev mX7_layRows : q_M := (yX7_layRows, cX7_layRows, 13, none)
theorem iX7_layRows : q_MS mX7_layRows 4 := ⟨⟨q_w 617 (by decide +kernel) rfl, q_w 19 (by decide +kernel) rfl, ⟨by decide +kernel, by decide +kernel, by decide +kernel⟩, by decide +kernel, by decide +kernel⟩, q_w 616 (by decide +kernel) rfl⟩
abbrev mX7_shadeOn : q_M := (yX7_shadeOn, cX7_shadeOn, 6, (some .int))
theorem iX7_shadeOn : q_MV mX7_shadeOn 2 := ⟨⟨q_w 621 (by decide +kernel) rfl, q_w 19 (by decide +kernel) rfl, ⟨by decide +kernel, by decide +kernel, by decide +kernel⟩, by decide +kernel, by decide +kernel⟩, q_w 620 (by decide +kernel) rfl, q_w 11 (by decide +kernel) rfl⟩
abbrev mX8_init : q_M := (yX8_init, cX8_init, 1, none)
theorem iX8_init : q_MI mX8_init 0 := ⟨⟨q_w 29 (by decide +kernel) rfl, q_w 14 (by decide +kernel) rfl, ⟨by decide +kernel, by decide +kernel, by decide +kernel⟩, by decide +kernel, by decide +kernel⟩, q_w 28 (by decide +kernel) rfl, rfl, rfl⟩
abbrev mX8_row : q_M := (yX8_row, cX8_row, 4, (some .int))
theorem iX8_row : q_MV mX8_row 3 := ⟨⟨q_w 269 (by decide +kernel) rfl, q_w 14 (by decide +kernel) rfl, ⟨by decide +kernel, by decide +kernel, by decide +kernel⟩, by decide +kernel, by decide +kernel⟩, q_w 267 (by decide +kernel) rfl, q_w 268 (by decide +kernel) rfl⟩
abbrev mX8_tilt : q_M := (yX8_tilt, cX8_tilt, 3, (some .int))
theorem iX8_tilt : q_MV mX8_tilt 2 := ⟨⟨q_w 308 (by decide +kernel) rfl, q_w 14 (by decide +kernel) rfl, ⟨by decide +kernel, by decide +kernel, by decide +kernel⟩, by decide +kernel, by decide +kernel⟩, q_w 306 (by decide +kernel) rfl, q_w 307 (by decide +kernel) rfl⟩
abbrev mX8_wind : q_M := (yX8_wind, cX8_wind, 3, (some .int))
theorem iX8_wind : q_MV mX8_wind 2 := ⟨⟨q_w 320 (by decide +kernel) rfl, q_w 14 (by decide +kernel) rfl, ⟨by decide +kernel, by decide +kernel, by decide +kernel⟩, by decide +kernel, by decide +kernel⟩, q_w 318 (by decide +kernel) rfl, q_w 319 (by decide +kernel) rfl⟩
abbrev mX8_grant : q_M := (yX8_grant, cX8_grant, 5, (some .int))
theorem iX8_grant : q_MV mX8_grant 4 := ⟨⟨q_w 332 (by decide +kernel) rfl, q_w 14 (by decide +kernel) rfl, ⟨by decide +kernel, by decide +kernel, by decide +kernel⟩, by decide +kernel, by decide +kernel⟩, q_w 330 (by decide +kernel) rfl, q_w 331 (by decide +kernel) rfl⟩
abbrev mX8_ask : q_M := (yX8_ask, cX8_ask, 5, (some .int))
theorem iX8_ask : q_MV mX8_ask 4 := ⟨⟨q_w 347 (by decide +kernel) rfl, q_w 14 (by decide +kernel) rfl, ⟨by decide +kernel, by decide +kernel, by decide +kernel⟩, by decide +kernel, by decide +kernel⟩, q_w 345 (by decide +kernel) rfl, q_w 346 (by decide +kernel) rfl⟩
abbrev mX8_bid : q_M := (yX8_bid, cX8_bid, 6, (some .int))
theorem iX8_bid : q_MV mX8_bid 5 := ⟨⟨q_w 365 (by decide +kernel) rfl, q_w 14 (by decide +kernel) rfl, ⟨by decide +kernel, by decide +kernel, by decide +kernel⟩, by decide +kernel, by decide +kernel⟩, q_w 363 (by decide +kernel) rfl, q_w 364 (by decide +kernel) rfl⟩
abbrev mX8_match : q_M := (yX8_match, cX8_match, 1, (some .int))
theorem iX8_match : q_MV mX8_match 0 := ⟨⟨q_w 373 (by decide +kernel) rfl, q_w 14 (by decide +kernel) rfl, ⟨by decide +kernel, by decide +kernel, by decide +kernel⟩, by decide +kernel, by decide +kernel⟩, q_w 371 (by decide +kernel) rfl, q_w 372 (by decide +kernel) rfl⟩
abbrev mX8_ofRow : q_M := (yX8_ofRow, cX8_ofRow, 3, (some .int))
theorem iX8_ofRow : q_MV mX8_ofRow 2 := ⟨⟨q_w 436 (by decide +kernel) rfl, q_w 14 (by decide +kernel) rfl, ⟨by decide +kernel, by decide +kernel, by decide +kernel⟩, by decide +kernel, by decide +kernel⟩, q_w 434 (by decide +kernel) rfl, q_w 435 (by decide +kernel) rfl⟩
abbrev mX8_inHour : q_M := (yX8_inHour, cX8_inHour, 4, (some .int))
theorem iX8_inHour : q_MV mX8_inHour 3 := ⟨⟨q_w 532 (by decide +kernel) rfl, q_w 14 (by decide +kernel) rfl, ⟨by decide +kernel, by decide +kernel, by decide +kernel⟩, by decide +kernel, by decide +kernel⟩, q_w 530 (by decide +kernel) rfl, q_w 531 (by decide +kernel) rfl⟩
abbrev mX8_over : q_M := (yX8_over, cX8_over, 5, (some .int))
theorem iX8_over : q_MV mX8_over 4 := ⟨⟨q_w 542 (by decide +kernel) rfl, q_w 14 (by decide +kernel) rfl, ⟨by decide +kernel, by decide +kernel, by decide +kernel⟩, by decide +kernel, by decide +kernel⟩, q_w 540 (by decide +kernel) rfl, q_w 541 (by decide +kernel) rfl⟩
abbrev mX8_offer : q_M := (yX8_offer, cX8_offer, 5, (some .int))
theorem iX8_offer : q_MV mX8_offer 3 := ⟨⟨q_w 548 (by decide +kernel) rfl, q_w 14 (by decide +kernel) rfl, ⟨by decide +kernel, by decide +kernel, by decide +kernel⟩, by decide +kernel, by decide +kernel⟩, q_w 546 (by decide +kernel) rfl, q_w 547 (by decide +kernel) rfl⟩
abbrev mX8_count : q_M := (yX8_count, cX8_count, 2, (some .int))
theorem iX8_count : q_MV mX8_count 1 := ⟨⟨q_w 562 (by decide +kernel) rfl, q_w 14 (by decide +kernel) rfl, ⟨by decide +kernel, by decide +kernel, by decide +kernel⟩, by decide +kernel, by decide +kernel⟩, q_w 560 (by decide +kernel) rfl, q_w 561 (by decide +kernel) rfl⟩
abbrev mX8_worth : q_M := (yX8_worth, cX8_worth, 10, (some .int))
theorem iX8_worth : q_MV mX8_worth 5 := ⟨⟨q_w 573 (by decide +kernel) rfl, q_w 14 (by decide +kernel) rfl, ⟨by decide +kernel, by decide +kernel, by decide +kernel⟩, by decide +kernel, by decide +kernel⟩, q_w 571 (by decide +kernel) rfl, q_w 572 (by decide +kernel) rfl⟩
abbrev mX8_gainMeasure : q_M := (yX8_gainMeasure, cX8_gainMeasure, 4, (some .int))
theorem iX8_gainMeasure : q_MV mX8_gainMeasure 3 := ⟨⟨q_w 578 (by decide +kernel) rfl, q_w 14 (by decide +kernel) rfl, ⟨by decide +kernel, by decide +kernel, by decide +kernel⟩, by decide +kernel, by decide +kernel⟩, q_w 577 (by decide +kernel) rfl, q_w 8 (by decide +kernel) rfl⟩
abbrev mX8_bestTilt : q_M := (yX8_bestTilt, cX8_bestTilt, 8, (some .int))
theorem iX8_bestTilt : q_MV mX8_bestTilt 2 := ⟨⟨q_w 592 (by decide +kernel) rfl, q_w 14 (by decide +kernel) rfl, ⟨by decide +kernel, by decide +kernel, by decide +kernel⟩, by decide +kernel, by decide +kernel⟩, q_w 590 (by decide +kernel) rfl, q_w 591 (by decide +kernel) rfl⟩
abbrev mX8_bestTilts : q_M := (yX8_bestTilts, cX8_bestTilts, 2, (some .int))
theorem iX8_bestTilts : q_MV mX8_bestTilts 1 := ⟨⟨q_w 596 (by decide +kernel) rfl, q_w 14 (by decide +kernel) rfl, ⟨by decide +kernel, by decide +kernel, by decide +kernel⟩, by decide +kernel, by decide +kernel⟩, q_w 594 (by decide +kernel) rfl, q_w 595 (by decide +kernel) rfl⟩
abbrev mX8_undo : q_M := (yX8_undo, cX8_undo, 1, (some .int))
theorem iX8_undo : q_MV mX8_undo 0 := ⟨⟨q_w 584 (by decide +kernel) rfl, q_w 14 (by decide +kernel) rfl, ⟨by decide +kernel, by decide +kernel, by decide +kernel⟩, by decide +kernel, by decide +kernel⟩, q_w 582 (by decide +kernel) rfl, q_w 583 (by decide +kernel) rfl⟩
abbrev mX8_outside : q_M := (yX8_outside, cX8_outside, 3, (some .boolean))
theorem iX8_outside : q_MS mX8_outside 3 := ⟨⟨q_w 292 (by decide +kernel) rfl, q_w 14 (by decide +kernel) rfl, ⟨by decide +kernel, by decide +kernel, by decide +kernel⟩, by decide +kernel, by decide +kernel⟩, q_w 291 (by decide +kernel) rfl⟩
abbrev mX8_isHour : q_M := (yX8_isHour, cX8_isHour, 1, (some .boolean))
theorem iX8_isHour : q_MS mX8_isHour 1 := ⟨⟨q_w 327 (by decide +kernel) rfl, q_w 14 (by decide +kernel) rfl, ⟨by decide +kernel, by decide +kernel, by decide +kernel⟩, by decide +kernel, by decide +kernel⟩, q_w 326 (by decide +kernel) rfl⟩
abbrev mJ9_max_7cf53 : q_M := (yJ9_max_7cf53, cJ9_max_7cf53, 2, (some .int))
abbrev mJ9_min_7cf53 : q_M := (yJ9_min_7cf53, cJ9_min_7cf53, 2, (some .int))
abbrev mL_cell : q_M := (yL_cell, cL_cell, 2, (some .int))
theorem iL_cell : q_MS mL_cell 2 := ⟨⟨q_w 417 (by decide +kernel) rfl, q_w 13 (by decide +kernel) rfl, ⟨by decide +kernel, by decide +kernel, by decide +kernel⟩, by decide +kernel, by decide +kernel⟩, q_w 416 (by decide +kernel) rfl⟩
abbrev mL_low : q_M := (yL_low, cL_low, 2, (some .int))
theorem iL_low : q_MS mL_low 2 := ⟨⟨q_w 422 (by decide +kernel) rfl, q_w 13 (by decide +kernel) rfl, ⟨by decide +kernel, by decide +kernel, by decide +kernel⟩, by decide +kernel, by decide +kernel⟩, q_w 421 (by decide +kernel) rfl⟩
abbrev mL_hour : q_M := (yL_hour, cL_hour, 1, (some .int))
theorem iL_hour : q_MS mL_hour 1 := ⟨⟨q_w 426 (by decide +kernel) rfl, q_w 13 (by decide +kernel) rfl, ⟨by decide +kernel, by decide +kernel, by decide +kernel⟩, by decide +kernel, by decide +kernel⟩, q_w 425 (by decide +kernel) rfl⟩
abbrev mL_shadow : q_M := (yL_shadow, cL_shadow, 9, (some .int))
theorem iL_shadow : q_MS mL_shadow 5 := ⟨⟨q_w 522 (by decide +kernel) rfl, q_w 13 (by decide +kernel) rfl, ⟨by decide +kernel, by decide +kernel, by decide +kernel⟩, by decide +kernel, by decide +kernel⟩, q_w 521 (by decide +kernel) rfl⟩
abbrev mL_lies : q_M := (yL_lies, cL_lies, 10, (some .int))
theorem iL_lies : q_MS mL_lies 6 := ⟨⟨q_w 519 (by decide +kernel) rfl, q_w 13 (by decide +kernel) rfl, ⟨by decide +kernel, by decide +kernel, by decide +kernel⟩, by decide +kernel, by decide +kernel⟩, q_w 518 (by decide +kernel) rfl⟩
abbrev mL_blamed : q_M := (yL_blamed, cL_blamed, 11, (some .int))
theorem iL_blamed : q_MS mL_blamed 5 := ⟨⟨q_w 528 (by decide +kernel) rfl, q_w 13 (by decide +kernel) rfl, ⟨by decide +kernel, by decide +kernel, by decide +kernel⟩, by decide +kernel, by decide +kernel⟩, q_w 527 (by decide +kernel) rfl⟩
abbrev mL_shade : q_M := (yL_shade, cL_shade, 8, (some .int))
theorem iL_shade : q_MS mL_shade 5 := ⟨⟨q_w 525 (by decide +kernel) rfl, q_w 13 (by decide +kernel) rfl, ⟨by decide +kernel, by decide +kernel, by decide +kernel⟩, by decide +kernel, by decide +kernel⟩, q_w 524 (by decide +kernel) rfl⟩
abbrev mL_match : q_M := (yL_match, cL_match, 13, (some .int))
theorem iL_match : q_MS mL_match 5 := ⟨⟨q_w 429 (by decide +kernel) rfl, q_w 13 (by decide +kernel) rfl, ⟨by decide +kernel, by decide +kernel, by decide +kernel⟩, by decide +kernel, by decide +kernel⟩, q_w 428 (by decide +kernel) rfl⟩
abbrev mL_same : q_M := (yL_same, cL_same, 15, (some .boolean))
theorem iL_same : q_MS mL_same 7 := ⟨⟨q_w 432 (by decide +kernel) rfl, q_w 13 (by decide +kernel) rfl, ⟨by decide +kernel, by decide +kernel, by decide +kernel⟩, by decide +kernel, by decide +kernel⟩, q_w 431 (by decide +kernel) rfl⟩
abbrev mL_would : q_M := (yL_would, cL_would, 15, (some .boolean))
theorem iL_would : q_MS mL_would 5 := ⟨⟨q_w 569 (by decide +kernel) rfl, q_w 13 (by decide +kernel) rfl, ⟨by decide +kernel, by decide +kernel, by decide +kernel⟩, by decide +kernel, by decide +kernel⟩, q_w 568 (by decide +kernel) rfl⟩
abbrev mL_law : q_M := (yL_law, cL_law, 17, some .boolean)
theorem lX8_9 : q_Lk RX8 9 mX0_init := Or.inr ⟨_, q_wn 35 (by decide +kernel : _ = some (Cond.methodLinkNest RX8 9 mX0_init.1 "ShadowRows"))⟩
theorem lX8_18 : q_Lk RX8 18 mX2_init := Or.inl (q_w 120 (by decide +kernel) rfl)
theorem lX8_27 : q_Lk RX8 27 mX3_init := Or.inl (q_w 147 (by decide +kernel) rfl)
theorem lX8_34 : q_Lk RX8 34 mX7_init := Or.inl (q_w 157 (by decide +kernel) rfl)
theorem lX8_43 : q_Lk RX8 43 mX6_init := Or.inr ⟨_, q_wn 185 (by decide +kernel : _ = some (Cond.methodLinkNest RX8 43 mX6_init.1 "ShadowRows"))⟩
theorem lX8_50 : q_Lk RX8 50 mX5_init := Or.inl (q_w 200 (by decide +kernel) rfl)
theorem lX8_59 : q_Lk RX8 59 mX1_init := Or.inl (q_w 222 (by decide +kernel) rfl)
theorem lX8_72 : q_Lk RX8 72 mX1_mark := Or.inl (q_w 270 (by decide +kernel) rfl)
theorem lX8_75 : q_Lk RX8 75 mX0_build := Or.inl (q_w 286 (by decide +kernel) rfl)
theorem lX8_79 : q_Lk RX8 79 mX1_keep := Or.inl (q_w 297 (by decide +kernel) rfl)
theorem lX8_83 : q_Lk RX8 83 mX0_changeTilt := Or.inl (q_w 309 (by decide +kernel) rfl)
theorem lX8_87 : q_Lk RX8 87 mX0_changeWind := Or.inl (q_w 321 (by decide +kernel) rfl)
theorem lX8_93 : q_Lk RX8 93 mX0_changeRight := Or.inl (q_w 333 (by decide +kernel) rfl)
theorem lX8_97 : q_Lk RX8 97 mX3_addAsk := Or.inl (q_w 348 (by decide +kernel) rfl)
theorem lX8_100 : q_Lk RX8 100 mX3_addBid := Or.inl (q_w 366 (by decide +kernel) rfl)
theorem lX8_104 : q_Lk RX8 104 mX8_outside := Or.inl (q_w 328 (by decide +kernel) rfl)
theorem lX8_108 : q_Lk RX8 108 mX0_offersOf := Or.inl (q_w 549 (by decide +kernel) rfl)
theorem lX8_117 : q_Lk RX8 117 mX3_tradeAll := Or.inl (q_w 374 (by decide +kernel) rfl)
theorem lX8_121 : q_Lk RX8 121 mX0_hasRow := Or.inl (q_w 437 (by decide +kernel) rfl)
theorem lX8_139 : q_Lk RX8 139 mX2_yieldOfDay := Or.inl (q_w 439 (by decide +kernel) rfl)
theorem lX8_142 : q_Lk RX8 142 mX2_unshadedYieldOfDay := Or.inl (q_w 500 (by decide +kernel) rfl)
theorem lX8_145 : q_Lk RX8 145 mX2_hoursLowered := Or.inl (q_w 504 (by decide +kernel) rfl)
theorem lX8_148 : q_Lk RX8 148 mX2_hoursShaded := Or.inl (q_w 508 (by decide +kernel) rfl)
theorem lX8_151 : q_Lk RX8 151 mX2_mostToBlame := Or.inl (q_w 512 (by decide +kernel) rfl)
theorem lX8_154 : q_Lk RX8 154 mX8_isHour := Or.inl (q_w 533 (by decide +kernel) rfl)
theorem lX8_157 : q_Lk RX8 157 mX2_look := Or.inl (q_w 534 (by decide +kernel) rfl)
theorem lX8_161 : q_Lk RX8 161 mX2_tiltOf := Or.inl (q_w 535 (by decide +kernel) rfl)
theorem lX8_167 : q_Lk RX8 167 mX2_shade := Or.inl (q_w 536 (by decide +kernel) rfl)
theorem lX8_170 : q_Lk RX8 170 mX2_toBlame := Or.inl (q_w 537 (by decide +kernel) rfl)
theorem lX8_173 : q_Lk RX8 173 mX2_yieldNow := Or.inl (q_w 538 (by decide +kernel) rfl)
theorem lX8_179 : q_Lk RX8 179 mX0_rightAt := Or.inl (q_w 543 (by decide +kernel) rfl)
theorem lX8_182 : q_Lk RX8 182 mX2_shadow := Or.inl (q_w 544 (by decide +kernel) rfl)
theorem lX8_185 : q_Lk RX8 185 mX4_has := Or.inl (q_w 553 (by decide +kernel) rfl)
theorem lX8_188 : q_Lk RX8 188 mX4_get := Or.inl (q_w 558 (by decide +kernel) rfl)
theorem lX8_205 : q_Lk RX8 205 mX2_yieldOfAll := Or.inl (q_w 563 (by decide +kernel) rfl)
theorem lX8_220 : q_Lk RX8 220 mX0_rightError := Or.inl (q_w 574 (by decide +kernel) rfl)
theorem lX8_223 : q_Lk RX8 223 mX8_gainMeasure := Or.inl (q_w 575 (by decide +kernel) rfl)
theorem lX8_227 : q_Lk RX8 227 mX7_run := Or.inl (q_w 597 (by decide +kernel) rfl)
theorem lX8_230 : q_Lk RX8 230 mX7_bestYields := Or.inl (q_w 629 (by decide +kernel) rfl)
theorem lX8_233 : q_Lk RX8 233 mX7_bestTiltOf := Or.inl (q_w 633 (by decide +kernel) rfl)
theorem lX8_270 : q_Lk RX8 270 mX1_goBack := Or.inl (q_w 585 (by decide +kernel) rfl)
theorem lX0_39 : q_Lk RX0 39 mX4_init := Or.inr ⟨_, q_wn 41 (by decide +kernel : _ = some (Cond.methodLinkNest RX0 39 mX4_init.1 "ShadowRows"))⟩
theorem lX0_56 : q_Lk RX0 56 mX4_copyFrom := Or.inl (q_w 281 (by decide +kernel) rfl)
theorem lX0_60 : q_Lk RX0 60 mX8_outside := Or.inr ⟨_, q_wn 290 (by decide +kernel : _ = some (Cond.methodLinkNest RX0 60 mX8_outside.1 "ShadowRows"))⟩
theorem lX0_64 : q_Lk RX0 64 mX0_isTaken := Or.inl (q_w 293 (by decide +kernel) rfl)
theorem lX0_68 : q_Lk RX0 68 mX0_hasRow := Or.inl (q_w 313 (by decide +kernel) rfl)
theorem lX0_71 : q_Lk RX0 71 mX8_isHour := Or.inr ⟨_, q_wn 325 (by decide +kernel : _ = some (Cond.methodLinkNest RX0 71 mX8_isHour.1 "ShadowRows"))⟩
theorem lX0_74 : q_Lk RX0 74 mX0_rightError := Or.inl (q_w 337 (by decide +kernel) rfl)
theorem lX0_78 : q_Lk RX0 78 mX0_rightAt := Or.inl (q_w 341 (by decide +kernel) rfl)
theorem lX1_21 : q_Lk RX1 21 mX0_init := Or.inr ⟨_, q_wn 228 (by decide +kernel : _ = some (Cond.methodLinkNest RX1 21 mX0_init.1 "ShadowRows"))⟩
theorem lX1_22 : q_Lk RX1 22 mX0_copyFrom := Or.inl (q_w 274 (by decide +kernel) rfl)
theorem lX1_26 : q_Lk RX1 26 mX1_dropOldest := Or.inl (q_w 301 (by decide +kernel) rfl)
theorem lX2_37 : q_Lk RX2 37 mX2_lossBetween := Or.inl (q_w 447 (by decide +kernel) rfl)
theorem lX2_41 : q_Lk RX2 41 mX2_limitOf := Or.inl (q_w 457 (by decide +kernel) rfl)
theorem lX2_48 : q_Lk RX2 48 mX2_tiltOf := Or.inl (q_w 467 (by decide +kernel) rfl)
theorem lX2_63 : q_Lk RX2 63 mX2_ahead := Or.inl (q_w 451 (by decide +kernel) rfl)
theorem lX2_69 : q_Lk RX2 69 mX2_isFlat := Or.inl (q_w 461 (by decide +kernel) rfl)
theorem lX2_76 : q_Lk RX2 76 mX0_rightAt := Or.inl (q_w 465 (by decide +kernel) rfl)
theorem lX2_80 : q_Lk RX2 80 mJ9_min_7cf53 := Or.inl (q_w 466 (by decide +kernel) rfl)
theorem lX2_88 : q_Lk RX2 88 mJ9_max_7cf53 := Or.inl (q_w 497 (by decide +kernel) rfl)
theorem lX2_91 : q_Lk RX2 91 mX2_shadow := Or.inl (q_w 493 (by decide +kernel) rfl)
theorem lX2_94 : q_Lk RX2 94 mX2_toBlame := Or.inl (q_w 489 (by decide +kernel) rfl)
theorem lX2_97 : q_Lk RX2 97 mX2_sun := Or.inl (q_w 479 (by decide +kernel) rfl)
theorem lX2_101 : q_Lk RX2 101 mX2_unshadedYield := Or.inl (q_w 475 (by decide +kernel) rfl)
theorem lX2_104 : q_Lk RX2 104 mX2_shade := Or.inl (q_w 485 (by decide +kernel) rfl)
theorem lX2_107 : q_Lk RX2 107 mX2_look := Or.inl (q_w 443 (by decide +kernel) rfl)
theorem lX2_111 : q_Lk RX2 111 mX2_yieldNow := Or.inl (q_w 471 (by decide +kernel) rfl)
theorem lX3_15 : q_Lk RX3 15 mX0_hasRow := Or.inl (q_w 352 (by decide +kernel) rfl)
theorem lX3_21 : q_Lk RX3 21 mX8_isHour := Or.inr ⟨_, q_wn 353 (by decide +kernel : _ = some (Cond.methodLinkNest RX3 21 mX8_isHour.1 "ShadowRows"))⟩
theorem lX3_24 : q_Lk RX3 24 mX3_isBadOffer := Or.inl (q_w 354 (by decide +kernel) rfl)
theorem lX3_32 : q_Lk RX3 32 mX4_add := Or.inl (q_w 358 (by decide +kernel) rfl)
theorem lX3_41 : q_Lk RX3 41 mX8_outside := Or.inr ⟨_, q_wn 357 (by decide +kernel : _ = some (Cond.methodLinkNest RX3 41 mX8_outside.1 "ShadowRows"))⟩
theorem lX3_45 : q_Lk RX3 45 mX4_sortByPrice := Or.inl (q_w 378 (by decide +kernel) rfl)
theorem lX3_57 : q_Lk RX3 57 mX3_serve := Or.inl (q_w 386 (by decide +kernel) rfl)
theorem lX3_61 : q_Lk RX3 61 mX4_removeEmpty := Or.inl (q_w 407 (by decide +kernel) rfl)
theorem lX3_67 : q_Lk RX3 67 mX3_suits := Or.inl (q_w 390 (by decide +kernel) rfl)
theorem lX3_70 : q_Lk RX3 70 mX3_trade := Or.inl (q_w 395 (by decide +kernel) rfl)
theorem lX3_74 : q_Lk RX3 74 mX4_get := Or.inl (q_w 394 (by decide +kernel) rfl)
theorem lX3_77 : q_Lk RX3 77 mX0_rightAt := Or.inl (q_w 399 (by decide +kernel) rfl)
theorem lX3_81 : q_Lk RX3 81 mJ9_min_7cf53 := Or.inl (q_w 400 (by decide +kernel) rfl)
theorem lX3_92 : q_Lk RX3 92 mX4_take := Or.inl (q_w 403 (by decide +kernel) rfl)
theorem lX4_28 : q_Lk RX4 28 mX8_outside := Or.inr ⟨_, q_wn 557 (by decide +kernel : _ = some (Cond.methodLinkNest RX4 28 mX8_outside.1 "ShadowRows"))⟩
theorem lX4_36 : q_Lk RX4 36 mX4_close := Or.inl (q_w 411 (by decide +kernel) rfl)
theorem lX4_40 : q_Lk RX4 40 mX4_get := Or.inl (q_w 382 (by decide +kernel) rfl)
theorem lX7_44 : q_Lk RX7 44 mX7_findTops := Or.inl (q_w 603 (by decide +kernel) rfl)
theorem lX7_47 : q_Lk RX7 47 mX2_look := Or.inl (q_w 607 (by decide +kernel) rfl)
theorem lX7_53 : q_Lk RX7 53 mX2_isFlat := Or.inl (q_w 609 (by decide +kernel) rfl)
theorem lX7_57 : q_Lk RX7 57 mX7_sortRows := Or.inl (q_w 610 (by decide +kernel) rfl)
theorem lX7_60 : q_Lk RX7 60 mX7_layRows := Or.inl (q_w 615 (by decide +kernel) rfl)
theorem lX7_64 : q_Lk RX7 64 mX7_stepOf := Or.inl (q_w 623 (by decide +kernel) rfl)
theorem lX7_74 : q_Lk RX7 74 mJ9_max_7cf53 := Or.inl (q_w 608 (by decide +kernel) rfl)
theorem lX7_80 : q_Lk RX7 80 mX2_ahead := Or.inl (q_w 614 (by decide +kernel) rfl)
theorem lX7_83 : q_Lk RX7 83 mX7_shadeOn := Or.inl (q_w 618 (by decide +kernel) rfl)
theorem lX7_86 : q_Lk RX7 86 mX2_sun := Or.inl (q_w 627 (by decide +kernel) rfl)
theorem lX7_90 : q_Lk RX7 90 mJ9_min_7cf53 := Or.inl (q_w 628 (by decide +kernel) rfl)
theorem lX7_93 : q_Lk RX7 93 mX2_shadow := Or.inl (q_w 622 (by decide +kernel) rfl)
theorem lL_10 : q_Lk RL 10 mL_shadow := Or.inl (q_w 520 (by decide +kernel) rfl)
theorem lL_16 : q_Lk RL 16 mL_lies := Or.inl (q_w 517 (by decide +kernel) rfl)
theorem lL_20 : q_Lk RL 20 mL_blamed := Or.inl (q_w 526 (by decide +kernel) rfl)
theorem lL_24 : q_Lk RL 24 mX8_ofRow := Or.inl (q_w 433 (by decide +kernel) rfl)
theorem lL_31 : q_Lk RL 31 mL_hour := Or.inl (q_w 424 (by decide +kernel) rfl)
theorem lL_35 : q_Lk RL 35 mL_shade := Or.inl (q_w 523 (by decide +kernel) rfl)
theorem lL_38 : q_Lk RL 38 mX8_inHour := Or.inl (q_w 529 (by decide +kernel) rfl)
theorem lL_42 : q_Lk RL 42 mX8_over := Or.inl (q_w 539 (by decide +kernel) rfl)
theorem lL_46 : q_Lk RL 46 mX8_offer := Or.inl (q_w 545 (by decide +kernel) rfl)
theorem lL_49 : q_Lk RL 49 mX8_count := Or.inl (q_w 559 (by decide +kernel) rfl)
theorem lL_52 : q_Lk RL 52 mX8_worth := Or.inl (q_w 570 (by decide +kernel) rfl)
theorem lL_57 : q_Lk RL 57 mX8_grant := Or.inl (q_w 329 (by decide +kernel) rfl)
theorem lL_60 : q_Lk RL 60 mX8_undo := Or.inl (q_w 581 (by decide +kernel) rfl)
theorem lL_64 : q_Lk RL 64 mX8_bestTilt := Or.inl (q_w 589 (by decide +kernel) rfl)
theorem lL_67 : q_Lk RL 67 mX8_tilt := Or.inl (q_w 305 (by decide +kernel) rfl)
theorem lL_70 : q_Lk RL 70 mX8_bestTilts := Or.inl (q_w 593 (by decide +kernel) rfl)
theorem lL_73 : q_Lk RL 73 mX8_init := Or.inl (q_w 27 (by decide +kernel) rfl)
theorem lL_74 : q_Lk RL 74 mL_cell := Or.inl (q_w 415 (by decide +kernel) rfl)
theorem lL_78 : q_Lk RL 78 mL_low := Or.inl (q_w 420 (by decide +kernel) rfl)
theorem lL_81 : q_Lk RL 81 mX8_row := Or.inl (q_w 266 (by decide +kernel) rfl)
theorem lL_84 : q_Lk RL 84 mX8_wind := Or.inl (q_w 317 (by decide +kernel) rfl)
theorem lL_87 : q_Lk RL 87 mX8_ask := Or.inl (q_w 344 (by decide +kernel) rfl)
theorem lL_90 : q_Lk RL 90 mX8_bid := Or.inl (q_w 362 (by decide +kernel) rfl)
theorem lL_93 : q_Lk RL 93 mX8_match := Or.inl (q_w 370 (by decide +kernel) rfl)
theorem lL_96 : q_Lk RL 96 mL_match := Or.inl (q_w 427 (by decide +kernel) rfl)
theorem lL_99 : q_Lk RL 99 mL_same := Or.inl (q_w 430 (by decide +kernel) rfl)
theorem lL_103 : q_Lk RL 103 mL_would := Or.inl (q_w 567 (by decide +kernel) rfl)
theorem kX0 : q_Cl 0 RX0 TX0 11 := ⟨rfl, q_wall (by decide +kernel), ⟨tyX0, tyX0_ok⟩, nmX0⟩
theorem kX1 : q_Cl 1 RX1 TX1 2 := ⟨rfl, q_wall (by decide +kernel), ⟨tyX1, tyX1_ok⟩, nmX1⟩
theorem kX2 : q_Cl 2 RX2 TX2 6 := ⟨rfl, q_wall (by decide +kernel), ⟨tyX2, tyX2_ok⟩, nmX2⟩
theorem kX3 : q_Cl 3 RX3 TX3 1 := ⟨rfl, q_wall (by decide +kernel), ⟨tyX3, tyX3_ok⟩, nmX3⟩
theorem kX4 : q_Cl 4 RX4 TX4 3 := ⟨rfl, q_wall (by decide +kernel), ⟨tyX4, tyX4_ok⟩, nmX4⟩
theorem kX5 : q_Cl 5 RX5 TX5 5 := ⟨rfl, q_wall (by decide +kernel), ⟨tyX5, tyX5_ok⟩, nmX5⟩
theorem kX6 : q_Cl 6 RX6 TX6 2 := ⟨rfl, q_wall (by decide +kernel), ⟨tyX6, tyX6_ok⟩, nmX6⟩
theorem kX7 : q_Cl 7 RX7 TX7 7 := ⟨rfl, q_wall (by decide +kernel), ⟨tyX7, tyX7_ok⟩, nmX7⟩
theorem kX8 : q_Cl 8 RX8 TX8 9 := ⟨rfl, q_wall (by decide +kernel), ⟨tyX8, tyX8_ok⟩, nmX8⟩
theorem fX8_10 : q_F RX8 10 8 0 (.object "ShadowRows$Field") true := ⟨RX8, TX8, 9, kX8, by decide, rfl, tyX8_ok 0 (by decide), Or.inl (q_w 237 (by decide +kernel) rfl)⟩
theorem oX8_10 : q_FO RX8 10 8 0 (.object "ShadowRows$Field") true := ⟨RX8, TX8, 9, kX8, by decide, rfl, tyX8_ok 0 (by decide), rfl, q_w 237 (by decide +kernel) rfl⟩
theorem fX8_21 : q_F RX8 21 8 1 (.object "ShadowRows$Light") true := ⟨RX8, TX8, 9, kX8, by decide, rfl, tyX8_ok 1 (by decide), Or.inl (q_w 238 (by decide +kernel) rfl)⟩
theorem oX8_21 : q_FO RX8 21 8 1 (.object "ShadowRows$Light") true := ⟨RX8, TX8, 9, kX8, by decide, rfl, tyX8_ok 1 (by decide), rfl, q_w 238 (by decide +kernel) rfl⟩
theorem fX8_28 : q_F RX8 28 8 2 (.object "ShadowRows$Market") true := ⟨RX8, TX8, 9, kX8, by decide, rfl, tyX8_ok 2 (by decide), Or.inl (q_w 239 (by decide +kernel) rfl)⟩
theorem oX8_28 : q_FO RX8 28 8 2 (.object "ShadowRows$Market") true := ⟨RX8, TX8, 9, kX8, by decide, rfl, tyX8_ok 2 (by decide), rfl, q_w 239 (by decide +kernel) rfl⟩
theorem fX8_37 : q_F RX8 37 8 3 (.object "ShadowRows$TiltSearch") true := ⟨RX8, TX8, 9, kX8, by decide, rfl, tyX8_ok 3 (by decide), Or.inl (q_w 240 (by decide +kernel) rfl)⟩
theorem oX8_37 : q_FO RX8 37 8 3 (.object "ShadowRows$TiltSearch") true := ⟨RX8, TX8, 9, kX8, by decide, rfl, tyX8_ok 3 (by decide), rfl, q_w 240 (by decide +kernel) rfl⟩
theorem fX8_44 : q_F RX8 44 8 4 (.object "ShadowRows$Pad") true := ⟨RX8, TX8, 9, kX8, by decide, rfl, tyX8_ok 4 (by decide), Or.inl (q_w 241 (by decide +kernel) rfl)⟩
theorem oX8_44 : q_FO RX8 44 8 4 (.object "ShadowRows$Pad") true := ⟨RX8, TX8, 9, kX8, by decide, rfl, tyX8_ok 4 (by decide), rfl, q_w 241 (by decide +kernel) rfl⟩
theorem fX8_53 : q_F RX8 53 8 5 (.object "ShadowRows$OrderReader") true := ⟨RX8, TX8, 9, kX8, by decide, rfl, tyX8_ok 5 (by decide), Or.inl (q_w 242 (by decide +kernel) rfl)⟩
theorem oX8_53 : q_FO RX8 53 8 5 (.object "ShadowRows$OrderReader") true := ⟨RX8, TX8, 9, kX8, by decide, rfl, tyX8_ok 5 (by decide), rfl, q_w 242 (by decide +kernel) rfl⟩
theorem fX8_60 : q_F RX8 60 8 6 (.object "ShadowRows$History") true := ⟨RX8, TX8, 9, kX8, by decide, rfl, tyX8_ok 6 (by decide), Or.inl (q_w 243 (by decide +kernel) rfl)⟩
theorem oX8_60 : q_FO RX8 60 8 6 (.object "ShadowRows$History") true := ⟨RX8, TX8, 9, kX8, by decide, rfl, tyX8_ok 6 (by decide), rfl, q_w 243 (by decide +kernel) rfl⟩
theorem fX8_64 : q_F RX8 64 8 7 (.array (.object "ShadowRows$Field")) true := ⟨RX8, TX8, 9, kX8, by decide, rfl, tyX8_ok 7 (by decide), Or.inl (q_w 244 (by decide +kernel) rfl)⟩
theorem oX8_64 : q_FO RX8 64 8 7 (.array (.object "ShadowRows$Field")) true := ⟨RX8, TX8, 9, kX8, by decide, rfl, tyX8_ok 7 (by decide), rfl, q_w 244 (by decide +kernel) rfl⟩
theorem fX8_68 : q_F RX8 68 8 8 (.array .boolean) true := ⟨RX8, TX8, 9, kX8, by decide, rfl, tyX8_ok 8 (by decide), Or.inl (q_w 245 (by decide +kernel) rfl)⟩
theorem oX8_68 : q_FO RX8 68 8 8 (.array .boolean) true := ⟨RX8, TX8, 9, kX8, by decide, rfl, tyX8_ok 8 (by decide), rfl, q_w 245 (by decide +kernel) rfl⟩
theorem fX8_125 : q_F RX8 125 0 1 (.array .int) true := ⟨RX0, TX0, 11, kX0, by decide, rfl, tyX0_ok 1 (by decide), Or.inr ⟨"ShadowRows", q_wn 65 (by decide +kernel)⟩⟩
theorem fX8_129 : q_F RX8 129 0 2 (.array .int) true := ⟨RX0, TX0, 11, kX0, by decide, rfl, tyX0_ok 2 (by decide), Or.inr ⟨"ShadowRows", q_wn 69 (by decide +kernel)⟩⟩
theorem fX8_132 : q_F RX8 132 0 3 (.array .int) true := ⟨RX0, TX0, 11, kX0, by decide, rfl, tyX0_ok 3 (by decide), Or.inr ⟨"ShadowRows", q_wn 72 (by decide +kernel)⟩⟩
theorem fX8_135 : q_F RX8 135 0 4 (.array .int) true := ⟨RX0, TX0, 11, kX0, by decide, rfl, tyX0_ok 4 (by decide), Or.inr ⟨"ShadowRows", q_wn 75 (by decide +kernel)⟩⟩
theorem fX8_164 : q_F RX8 164 2 4 (.array .int) true := ⟨RX2, TX2, 6, kX2, by decide, rfl, tyX2_ok 4 (by decide), Or.inr ⟨"ShadowRows", q_wn 130 (by decide +kernel)⟩⟩
theorem fX8_176 : q_F RX8 176 0 7 (.array .int) true := ⟨RX0, TX0, 11, kX0, by decide, rfl, tyX0_ok 7 (by decide), Or.inr ⟨"ShadowRows", q_wn 85 (by decide +kernel)⟩⟩
theorem fX8_191 : q_F RX8 191 0 0 .int false := ⟨RX0, TX0, 11, kX0, by decide, rfl, tyX0_ok 0 (by decide), Or.inr ⟨"ShadowRows", q_wn 62 (by decide +kernel)⟩⟩
theorem fX8_195 : q_F RX8 195 0 8 (.object "ShadowRows$Offers") true := ⟨RX0, TX0, 11, kX0, by decide, rfl, tyX0_ok 8 (by decide), Or.inr ⟨"ShadowRows", q_wn 88 (by decide +kernel)⟩⟩
theorem fX8_199 : q_F RX8 199 4 0 .int false := ⟨RX4, TX4, 3, kX4, by decide, rfl, tyX4_ok 0 (by decide), Or.inr ⟨"ShadowRows", q_wn 47 (by decide +kernel)⟩⟩
theorem fX8_202 : q_F RX8 202 0 9 (.object "ShadowRows$Offers") true := ⟨RX0, TX0, 11, kX0, by decide, rfl, tyX0_ok 9 (by decide), Or.inr ⟨"ShadowRows", q_wn 91 (by decide +kernel)⟩⟩
theorem fX8_208 : q_F RX8 208 0 10 .int false := ⟨RX0, TX0, 11, kX0, by decide, rfl, tyX0_ok 10 (by decide), Or.inr ⟨"ShadowRows", q_wn 94 (by decide +kernel)⟩⟩
theorem fX8_211 : q_F RX8 211 0 6 .int false := ⟨RX0, TX0, 11, kX0, by decide, rfl, tyX0_ok 6 (by decide), Or.inr ⟨"ShadowRows", q_wn 81 (by decide +kernel)⟩⟩
theorem fX8_214 : q_F RX8 214 6 1 .int false := ⟨RX6, TX6, 2, kX6, by decide, rfl, tyX6_ok 1 (by decide), Or.inr ⟨"ShadowRows", q_wn 191 (by decide +kernel)⟩⟩
theorem fX8_216 : q_F RX8 216 1 0 .int false := ⟨RX1, TX1, 2, kX1, by decide, rfl, tyX1_ok 0 (by decide), Or.inr ⟨"ShadowRows", q_wn 230 (by decide +kernel)⟩⟩
theorem fX8_217 : q_F RX8 217 0 5 (.array .int) true := ⟨RX0, TX0, 11, kX0, by decide, rfl, tyX0_ok 5 (by decide), Or.inr ⟨"ShadowRows", q_wn 78 (by decide +kernel)⟩⟩
theorem fX0_9 : q_F RX0 9 0 0 .int false := ⟨RX0, TX0, 11, kX0, by decide, rfl, tyX0_ok 0 (by decide), Or.inl (q_w 59 (by decide +kernel) rfl)⟩
theorem fX0_15 : q_F RX0 15 0 1 (.array .int) true := ⟨RX0, TX0, 11, kX0, by decide, rfl, tyX0_ok 1 (by decide), Or.inl (q_w 63 (by decide +kernel) rfl)⟩
theorem oX0_15 : q_FO RX0 15 0 1 (.array .int) true := ⟨RX0, TX0, 11, kX0, by decide, rfl, tyX0_ok 1 (by decide), rfl, q_w 63 (by decide +kernel) rfl⟩
theorem fX0_19 : q_F RX0 19 0 2 (.array .int) true := ⟨RX0, TX0, 11, kX0, by decide, rfl, tyX0_ok 2 (by decide), Or.inl (q_w 66 (by decide +kernel) rfl)⟩
theorem oX0_19 : q_FO RX0 19 0 2 (.array .int) true := ⟨RX0, TX0, 11, kX0, by decide, rfl, tyX0_ok 2 (by decide), rfl, q_w 66 (by decide +kernel) rfl⟩
theorem fX0_22 : q_F RX0 22 0 3 (.array .int) true := ⟨RX0, TX0, 11, kX0, by decide, rfl, tyX0_ok 3 (by decide), Or.inl (q_w 70 (by decide +kernel) rfl)⟩
theorem oX0_22 : q_FO RX0 22 0 3 (.array .int) true := ⟨RX0, TX0, 11, kX0, by decide, rfl, tyX0_ok 3 (by decide), rfl, q_w 70 (by decide +kernel) rfl⟩
theorem fX0_25 : q_F RX0 25 0 4 (.array .int) true := ⟨RX0, TX0, 11, kX0, by decide, rfl, tyX0_ok 4 (by decide), Or.inl (q_w 73 (by decide +kernel) rfl)⟩
theorem oX0_25 : q_FO RX0 25 0 4 (.array .int) true := ⟨RX0, TX0, 11, kX0, by decide, rfl, tyX0_ok 4 (by decide), rfl, q_w 73 (by decide +kernel) rfl⟩
theorem fX0_28 : q_F RX0 28 0 5 (.array .int) true := ⟨RX0, TX0, 11, kX0, by decide, rfl, tyX0_ok 5 (by decide), Or.inl (q_w 76 (by decide +kernel) rfl)⟩
theorem oX0_28 : q_FO RX0 28 0 5 (.array .int) true := ⟨RX0, TX0, 11, kX0, by decide, rfl, tyX0_ok 5 (by decide), rfl, q_w 76 (by decide +kernel) rfl⟩
theorem fX0_31 : q_F RX0 31 0 6 .int false := ⟨RX0, TX0, 11, kX0, by decide, rfl, tyX0_ok 6 (by decide), Or.inl (q_w 79 (by decide +kernel) rfl)⟩
theorem fX0_34 : q_F RX0 34 0 7 (.array .int) true := ⟨RX0, TX0, 11, kX0, by decide, rfl, tyX0_ok 7 (by decide), Or.inl (q_w 82 (by decide +kernel) rfl)⟩
theorem oX0_34 : q_FO RX0 34 0 7 (.array .int) true := ⟨RX0, TX0, 11, kX0, by decide, rfl, tyX0_ok 7 (by decide), rfl, q_w 82 (by decide +kernel) rfl⟩
theorem fX0_40 : q_F RX0 40 0 8 (.object "ShadowRows$Offers") true := ⟨RX0, TX0, 11, kX0, by decide, rfl, tyX0_ok 8 (by decide), Or.inl (q_w 86 (by decide +kernel) rfl)⟩
theorem oX0_40 : q_FO RX0 40 0 8 (.object "ShadowRows$Offers") true := ⟨RX0, TX0, 11, kX0, by decide, rfl, tyX0_ok 8 (by decide), rfl, q_w 86 (by decide +kernel) rfl⟩
theorem fX0_44 : q_F RX0 44 0 9 (.object "ShadowRows$Offers") true := ⟨RX0, TX0, 11, kX0, by decide, rfl, tyX0_ok 9 (by decide), Or.inl (q_w 89 (by decide +kernel) rfl)⟩
theorem oX0_44 : q_FO RX0 44 0 9 (.object "ShadowRows$Offers") true := ⟨RX0, TX0, 11, kX0, by decide, rfl, tyX0_ok 9 (by decide), rfl, q_w 89 (by decide +kernel) rfl⟩
theorem fX0_47 : q_F RX0 47 0 10 .int false := ⟨RX0, TX0, 11, kX0, by decide, rfl, tyX0_ok 10 (by decide), Or.inl (q_w 92 (by decide +kernel) rfl)⟩
theorem fX1_9 : q_F RX1 9 1 0 .int false := ⟨RX1, TX1, 2, kX1, by decide, rfl, tyX1_ok 0 (by decide), Or.inl (q_w 229 (by decide +kernel) rfl)⟩
theorem fX1_17 : q_F RX1 17 1 1 (.array (.object "ShadowRows$Field")) true := ⟨RX1, TX1, 2, kX1, by decide, rfl, tyX1_ok 1 (by decide), Or.inl (q_w 231 (by decide +kernel) rfl)⟩
theorem oX1_17 : q_FO RX1 17 1 1 (.array (.object "ShadowRows$Field")) true := ⟨RX1, TX1, 2, kX1, by decide, rfl, tyX1_ok 1 (by decide), rfl, q_w 231 (by decide +kernel) rfl⟩
theorem fX2_9 : q_F RX2 9 2 1 .int false := ⟨RX2, TX2, 6, kX2, by decide, rfl, tyX2_ok 1 (by decide), Or.inl (q_w 125 (by decide +kernel) rfl)⟩
theorem fX2_15 : q_F RX2 15 2 2 (.array .int) true := ⟨RX2, TX2, 6, kX2, by decide, rfl, tyX2_ok 2 (by decide), Or.inl (q_w 126 (by decide +kernel) rfl)⟩
theorem oX2_15 : q_FO RX2 15 2 2 (.array .int) true := ⟨RX2, TX2, 6, kX2, by decide, rfl, tyX2_ok 2 (by decide), rfl, q_w 126 (by decide +kernel) rfl⟩
theorem fX2_19 : q_F RX2 19 2 3 (.array .int) true := ⟨RX2, TX2, 6, kX2, by decide, rfl, tyX2_ok 3 (by decide), Or.inl (q_w 127 (by decide +kernel) rfl)⟩
theorem oX2_19 : q_FO RX2 19 2 3 (.array .int) true := ⟨RX2, TX2, 6, kX2, by decide, rfl, tyX2_ok 3 (by decide), rfl, q_w 127 (by decide +kernel) rfl⟩
theorem fX2_22 : q_F RX2 22 2 4 (.array .int) true := ⟨RX2, TX2, 6, kX2, by decide, rfl, tyX2_ok 4 (by decide), Or.inl (q_w 129 (by decide +kernel) rfl)⟩
theorem oX2_22 : q_FO RX2 22 2 4 (.array .int) true := ⟨RX2, TX2, 6, kX2, by decide, rfl, tyX2_ok 4 (by decide), rfl, q_w 129 (by decide +kernel) rfl⟩
theorem fX2_25 : q_F RX2 25 2 5 (.array .int) true := ⟨RX2, TX2, 6, kX2, by decide, rfl, tyX2_ok 5 (by decide), Or.inl (q_w 131 (by decide +kernel) rfl)⟩
theorem oX2_25 : q_FO RX2 25 2 5 (.array .int) true := ⟨RX2, TX2, 6, kX2, by decide, rfl, tyX2_ok 5 (by decide), rfl, q_w 131 (by decide +kernel) rfl⟩
theorem fX2_28 : q_F RX2 28 2 0 (.object "ShadowRows$Field") true := ⟨RX2, TX2, 6, kX2, by decide, rfl, tyX2_ok 0 (by decide), Or.inl (q_w 124 (by decide +kernel) rfl)⟩
theorem oX2_28 : q_FO RX2 28 2 0 (.object "ShadowRows$Field") true := ⟨RX2, TX2, 6, kX2, by decide, rfl, tyX2_ok 0 (by decide), rfl, q_w 124 (by decide +kernel) rfl⟩
theorem fX2_32 : q_F RX2 32 0 0 .int false := ⟨RX0, TX0, 11, kX0, by decide, rfl, tyX0_ok 0 (by decide), Or.inr ⟨"ShadowRows", q_wn 61 (by decide +kernel)⟩⟩
theorem fX2_45 : q_F RX2 45 0 2 (.array .int) true := ⟨RX0, TX0, 11, kX0, by decide, rfl, tyX0_ok 2 (by decide), Or.inr ⟨"ShadowRows", q_wn 67 (by decide +kernel)⟩⟩
theorem fX2_51 : q_F RX2 51 0 5 (.array .int) true := ⟨RX0, TX0, 11, kX0, by decide, rfl, tyX0_ok 5 (by decide), Or.inr ⟨"ShadowRows", q_wn 77 (by decide +kernel)⟩⟩
theorem fX2_54 : q_F RX2 54 0 6 .int false := ⟨RX0, TX0, 11, kX0, by decide, rfl, tyX0_ok 6 (by decide), Or.inr ⟨"ShadowRows", q_wn 80 (by decide +kernel)⟩⟩
theorem fX2_60 : q_F RX2 60 0 1 (.array .int) true := ⟨RX0, TX0, 11, kX0, by decide, rfl, tyX0_ok 1 (by decide), Or.inr ⟨"ShadowRows", q_wn 64 (by decide +kernel)⟩⟩
theorem fX2_73 : q_F RX2 73 0 7 (.array .int) true := ⟨RX0, TX0, 11, kX0, by decide, rfl, tyX0_ok 7 (by decide), Or.inr ⟨"ShadowRows", q_wn 83 (by decide +kernel)⟩⟩
theorem fX2_85 : q_F RX2 85 0 3 (.array .int) true := ⟨RX0, TX0, 11, kX0, by decide, rfl, tyX0_ok 3 (by decide), Or.inr ⟨"ShadowRows", q_wn 71 (by decide +kernel)⟩⟩
theorem fX3_9 : q_F RX3 9 3 0 (.object "ShadowRows$Field") true := ⟨RX3, TX3, 1, kX3, by decide, rfl, tyX3_ok 0 (by decide), Or.inl (q_w 151 (by decide +kernel) rfl)⟩
theorem oX3_9 : q_FO RX3 9 3 0 (.object "ShadowRows$Field") true := ⟨RX3, TX3, 1, kX3, by decide, rfl, tyX3_ok 0 (by decide), rfl, q_w 151 (by decide +kernel) rfl⟩
theorem fX3_28 : q_F RX3 28 0 8 (.object "ShadowRows$Offers") true := ⟨RX0, TX0, 11, kX0, by decide, rfl, tyX0_ok 8 (by decide), Or.inr ⟨"ShadowRows", q_wn 87 (by decide +kernel)⟩⟩
theorem fX3_38 : q_F RX3 38 0 9 (.object "ShadowRows$Offers") true := ⟨RX0, TX0, 11, kX0, by decide, rfl, tyX0_ok 9 (by decide), Or.inr ⟨"ShadowRows", q_wn 90 (by decide +kernel)⟩⟩
theorem fX3_49 : q_F RX3 49 4 0 .int false := ⟨RX4, TX4, 3, kX4, by decide, rfl, tyX4_ok 0 (by decide), Or.inr ⟨"ShadowRows", q_wn 46 (by decide +kernel)⟩⟩
theorem fX3_53 : q_F RX3 53 4 2 (.array .int) true := ⟨RX4, TX4, 3, kX4, by decide, rfl, tyX4_ok 2 (by decide), Or.inr ⟨"ShadowRows", q_wn 50 (by decide +kernel)⟩⟩
theorem fX3_64 : q_F RX3 64 0 10 .int false := ⟨RX0, TX0, 11, kX0, by decide, rfl, tyX0_ok 10 (by decide), Or.inr ⟨"ShadowRows", q_wn 93 (by decide +kernel)⟩⟩
theorem fX3_86 : q_F RX3 86 0 7 (.array .int) true := ⟨RX0, TX0, 11, kX0, by decide, rfl, tyX0_ok 7 (by decide), Or.inr ⟨"ShadowRows", q_wn 84 (by decide +kernel)⟩⟩
theorem fX3_89 : q_F RX3 89 0 4 (.array .int) true := ⟨RX0, TX0, 11, kX0, by decide, rfl, tyX0_ok 4 (by decide), Or.inr ⟨"ShadowRows", q_wn 74 (by decide +kernel)⟩⟩
theorem fX4_9 : q_F RX4 9 4 0 .int false := ⟨RX4, TX4, 3, kX4, by decide, rfl, tyX4_ok 0 (by decide), Or.inl (q_w 45 (by decide +kernel) rfl)⟩
theorem fX4_15 : q_F RX4 15 4 1 (.array .int) true := ⟨RX4, TX4, 3, kX4, by decide, rfl, tyX4_ok 1 (by decide), Or.inl (q_w 48 (by decide +kernel) rfl)⟩
theorem oX4_15 : q_FO RX4 15 4 1 (.array .int) true := ⟨RX4, TX4, 3, kX4, by decide, rfl, tyX4_ok 1 (by decide), rfl, q_w 48 (by decide +kernel) rfl⟩
theorem fX4_19 : q_F RX4 19 4 2 (.array .int) true := ⟨RX4, TX4, 3, kX4, by decide, rfl, tyX4_ok 2 (by decide), Or.inl (q_w 49 (by decide +kernel) rfl)⟩
theorem oX4_19 : q_FO RX4 19 4 2 (.array .int) true := ⟨RX4, TX4, 3, kX4, by decide, rfl, tyX4_ok 2 (by decide), rfl, q_w 49 (by decide +kernel) rfl⟩
theorem fX5_9 : q_F RX5 9 5 1 .int false := ⟨RX5, TX5, 5, kX5, by decide, rfl, tyX5_ok 1 (by decide), Or.inl (q_w 205 (by decide +kernel) rfl)⟩
theorem fX5_15 : q_F RX5 15 5 2 .char false := ⟨RX5, TX5, 5, kX5, by decide, rfl, tyX5_ok 2 (by decide), Or.inl (q_w 206 (by decide +kernel) rfl)⟩
theorem fX5_19 : q_F RX5 19 5 3 (.array .int) true := ⟨RX5, TX5, 5, kX5, by decide, rfl, tyX5_ok 3 (by decide), Or.inl (q_w 207 (by decide +kernel) rfl)⟩
theorem oX5_19 : q_FO RX5 19 5 3 (.array .int) true := ⟨RX5, TX5, 5, kX5, by decide, rfl, tyX5_ok 3 (by decide), rfl, q_w 207 (by decide +kernel) rfl⟩
theorem fX5_23 : q_F RX5 23 5 4 .int false := ⟨RX5, TX5, 5, kX5, by decide, rfl, tyX5_ok 4 (by decide), Or.inl (q_w 208 (by decide +kernel) rfl)⟩
theorem fX5_26 : q_F RX5 26 5 0 (.object "ShadowRows$Pad") true := ⟨RX5, TX5, 5, kX5, by decide, rfl, tyX5_ok 0 (by decide), Or.inl (q_w 204 (by decide +kernel) rfl)⟩
theorem oX5_26 : q_FO RX5 26 5 0 (.object "ShadowRows$Pad") true := ⟨RX5, TX5, 5, kX5, by decide, rfl, tyX5_ok 0 (by decide), rfl, q_w 204 (by decide +kernel) rfl⟩
theorem fX6_9 : q_F RX6 9 6 0 (.array .char) true := ⟨RX6, TX6, 2, kX6, by decide, rfl, tyX6_ok 0 (by decide), Or.inl (q_w 189 (by decide +kernel) rfl)⟩
theorem oX6_9 : q_FO RX6 9 6 0 (.array .char) true := ⟨RX6, TX6, 2, kX6, by decide, rfl, tyX6_ok 0 (by decide), rfl, q_w 189 (by decide +kernel) rfl⟩
theorem fX6_15 : q_F RX6 15 6 1 .int false := ⟨RX6, TX6, 2, kX6, by decide, rfl, tyX6_ok 1 (by decide), Or.inl (q_w 190 (by decide +kernel) rfl)⟩
theorem fX7_9 : q_F RX7 9 7 2 (.array .int) true := ⟨RX7, TX7, 7, kX7, by decide, rfl, tyX7_ok 2 (by decide), Or.inl (q_w 163 (by decide +kernel) rfl)⟩
theorem oX7_9 : q_FO RX7 9 7 2 (.array .int) true := ⟨RX7, TX7, 7, kX7, by decide, rfl, tyX7_ok 2 (by decide), rfl, q_w 163 (by decide +kernel) rfl⟩
theorem fX7_15 : q_F RX7 15 7 3 .int false := ⟨RX7, TX7, 7, kX7, by decide, rfl, tyX7_ok 3 (by decide), Or.inl (q_w 164 (by decide +kernel) rfl)⟩
theorem fX7_19 : q_F RX7 19 7 4 (.array .int) true := ⟨RX7, TX7, 7, kX7, by decide, rfl, tyX7_ok 4 (by decide), Or.inl (q_w 165 (by decide +kernel) rfl)⟩
theorem oX7_19 : q_FO RX7 19 7 4 (.array .int) true := ⟨RX7, TX7, 7, kX7, by decide, rfl, tyX7_ok 4 (by decide), rfl, q_w 165 (by decide +kernel) rfl⟩
theorem fX7_22 : q_F RX7 22 7 5 (.array .int) true := ⟨RX7, TX7, 7, kX7, by decide, rfl, tyX7_ok 5 (by decide), Or.inl (q_w 166 (by decide +kernel) rfl)⟩
theorem oX7_22 : q_FO RX7 22 7 5 (.array .int) true := ⟨RX7, TX7, 7, kX7, by decide, rfl, tyX7_ok 5 (by decide), rfl, q_w 166 (by decide +kernel) rfl⟩
theorem fX7_25 : q_F RX7 25 7 6 (.array .int) true := ⟨RX7, TX7, 7, kX7, by decide, rfl, tyX7_ok 6 (by decide), Or.inl (q_w 167 (by decide +kernel) rfl)⟩
theorem oX7_25 : q_FO RX7 25 7 6 (.array .int) true := ⟨RX7, TX7, 7, kX7, by decide, rfl, tyX7_ok 6 (by decide), rfl, q_w 167 (by decide +kernel) rfl⟩
theorem fX7_28 : q_F RX7 28 7 0 (.object "ShadowRows$Field") true := ⟨RX7, TX7, 7, kX7, by decide, rfl, tyX7_ok 0 (by decide), Or.inl (q_w 161 (by decide +kernel) rfl)⟩
theorem oX7_28 : q_FO RX7 28 7 0 (.object "ShadowRows$Field") true := ⟨RX7, TX7, 7, kX7, by decide, rfl, tyX7_ok 0 (by decide), rfl, q_w 161 (by decide +kernel) rfl⟩
theorem fX7_32 : q_F RX7 32 7 1 (.object "ShadowRows$Light") true := ⟨RX7, TX7, 7, kX7, by decide, rfl, tyX7_ok 1 (by decide), Or.inl (q_w 162 (by decide +kernel) rfl)⟩
theorem oX7_32 : q_FO RX7 32 7 1 (.object "ShadowRows$Light") true := ⟨RX7, TX7, 7, kX7, by decide, rfl, tyX7_ok 1 (by decide), rfl, q_w 162 (by decide +kernel) rfl⟩
theorem fX7_39 : q_F RX7 39 0 0 .int false := ⟨RX0, TX0, 11, kX0, by decide, rfl, tyX0_ok 0 (by decide), Or.inr ⟨"ShadowRows", q_wn 60 (by decide +kernel)⟩⟩
theorem fX7_68 : q_F RX7 68 0 2 (.array .int) true := ⟨RX0, TX0, 11, kX0, by decide, rfl, tyX0_ok 2 (by decide), Or.inr ⟨"ShadowRows", q_wn 68 (by decide +kernel)⟩⟩
theorem fX7_71 : q_F RX7 71 2 3 (.array .int) true := ⟨RX2, TX2, 6, kX2, by decide, rfl, tyX2_ok 3 (by decide), Or.inr ⟨"ShadowRows", q_wn 128 (by decide +kernel)⟩⟩
theorem wX8_1 : Cond.methodLink RX8 1 Lib.objectInit ∈ q_words := q_w 30 (by decide +kernel) rfl
theorem wX0_3 : Cond.methodLink RX0 3 Lib.objectInit ∈ q_words := q_w 38 (by decide +kernel) rfl
theorem wX0_50 : Cond.methodLink RX0 50 arraycopyName ∈ q_words := q_w 278 (by decide +kernel) rfl
theorem wX1_3 : Cond.methodLink RX1 3 Lib.objectInit ∈ q_words := q_w 225 (by decide +kernel) rfl
theorem wX2_3 : Cond.methodLink RX2 3 Lib.objectInit ∈ q_words := q_w 123 (by decide +kernel) rfl
theorem wX2_80 : Cond.methodLink RX2 80 Lib.Math.min.name ∈ q_words := q_w 466 (by decide +kernel) rfl
theorem wX2_88 : Cond.methodLink RX2 88 Lib.Math.max.name ∈ q_words := q_w 497 (by decide +kernel) rfl
theorem wX3_3 : Cond.methodLink RX3 3 Lib.objectInit ∈ q_words := q_w 150 (by decide +kernel) rfl
theorem wX3_81 : Cond.methodLink RX3 81 Lib.Math.min.name ∈ q_words := q_w 400 (by decide +kernel) rfl
theorem wX4_3 : Cond.methodLink RX4 3 Lib.objectInit ∈ q_words := q_w 44 (by decide +kernel) rfl
theorem wX4_22 : Cond.methodLink RX4 22 arraycopyName ∈ q_words := q_w 285 (by decide +kernel) rfl
theorem wX5_3 : Cond.methodLink RX5 3 Lib.objectInit ∈ q_words := q_w 203 (by decide +kernel) rfl
theorem wX6_3 : Cond.methodLink RX6 3 Lib.objectInit ∈ q_words := q_w 188 (by decide +kernel) rfl
theorem wX7_3 : Cond.methodLink RX7 3 Lib.objectInit ∈ q_words := q_w 160 (by decide +kernel) rfl
theorem wX7_74 : Cond.methodLink RX7 74 Lib.Math.max.name ∈ q_words := q_w 608 (by decide +kernel) rfl
theorem wX7_90 : Cond.methodLink RX7 90 Lib.Math.min.name ∈ q_words := q_w 628 (by decide +kernel) rfl
theorem wX2_57 : Cond.fieldLink RX2 57 (q_stn 1).1 (q_stn 1).2 "[I" ∈ q_words := q_w 483 (by decide +kernel) rfl
theorem wX2_66 : Cond.fieldLink RX2 66 (q_stn 0).1 (q_stn 0).2 "[I" ∈ q_words := q_w 455 (by decide +kernel) rfl
theorem wX7_36 : Cond.fieldLink RX7 36 (q_stn 2).1 (q_stn 2).2 "[I" ∈ q_words := q_w 601 (by decide +kernel) rfl
theorem w_native : Cond.native arraycopyName ∈ q_words := q_w 280 (by decide +kernel) rfl
theorem w_copyS : Cond.static arraycopyName ∈ q_words := q_w 279 (by decide +kernel) rfl
theorem w_sys : Cond.initialized "java/lang/System" ∈ q_words := q_w 23 (by decide +kernel) rfl
theorem w_math : Cond.initialized "java/lang/Math" ∈ q_words := q_w 24 (by decide +kernel) rfl
theorem w_maxS : Cond.static Lib.Math.max.name ∈ q_words := q_w 498 (by decide +kernel) rfl
theorem w_maxC : Cond.code Lib.Math.max.name Lib.Math.max.code 2 (some .int) ∈ q_words := q_w 499 (by decide +kernel) rfl
theorem w_minS : Cond.static Lib.Math.min.name ∈ q_words := q_w 401 (by decide +kernel) rfl
theorem w_minC : Cond.code Lib.Math.min.name Lib.Math.min.code 2 (some .int) ∈ q_words := q_w 402 (by decide +kernel) rfl
theorem w_objI : Cond.instanceMethod Lib.objectInit ∈ q_words := q_w 31 (by decide +kernel) rfl
theorem w_objC : Cond.code Lib.objectInit ⟨#[0xb1]⟩ 1 none ∈ q_words := q_w 32 (by decide +kernel) rfl
theorem w_ini_L : Cond.initialized RL ∈ q_words := q_w 13 (by decide +kernel) rfl
theorem w_ini_X8 : Cond.initialized RX8 ∈ q_words := q_w 14 (by decide +kernel) rfl
theorem w_ini_X0 : Cond.initialized RX0 ∈ q_words := q_w 15 (by decide +kernel) rfl
theorem w_ini_X4 : Cond.initialized RX4 ∈ q_words := q_w 16 (by decide +kernel) rfl
theorem w_ini_X2 : Cond.initialized RX2 ∈ q_words := q_w 17 (by decide +kernel) rfl
theorem w_ini_X3 : Cond.initialized RX3 ∈ q_words := q_w 18 (by decide +kernel) rfl
theorem w_ini_X7 : Cond.initialized RX7 ∈ q_words := q_w 19 (by decide +kernel) rfl
theorem w_ini_X6 : Cond.initialized RX6 ∈ q_words := q_w 20 (by decide +kernel) rfl
theorem w_ini_X5 : Cond.initialized RX5 ∈ q_words := q_w 21 (by decide +kernel) rfl
theorem w_ini_X1 : Cond.initialized RX1 ∈ q_words := q_w 22 (by decide +kernel) rfl
theorem w_ini_J10 : Cond.initialized RJ10 ∈ q_words := q_w 23 (by decide +kernel) rfl
theorem w_ini_J9 : Cond.initialized RJ9 ∈ q_words := q_w 24 (by decide +kernel) rfl
theorem wL_25 : Cond.classLink RL 25 "ShadowRows" ∈ q_words := q_w 25 (by decide +kernel) rfl
theorem w_new_X8 : Cond.instantiable RX8 9 ∈ q_words := q_w 26 (by decide +kernel) rfl
theorem wX8_7 : Cond.classLink RX8 7 "ShadowRows$Field" ∈ q_words := q_w 33 (by decide +kernel) rfl
theorem w_new_X0 : Cond.instantiable RX0 11 ∈ q_words := q_w 34 (by decide +kernel) rfl
theorem wX0_37 : Cond.classLink RX0 37 "ShadowRows$Offers" ∈ q_words := q_w 39 (by decide +kernel) rfl
theorem w_new_X4 : Cond.instantiable RX4 3 ∈ q_words := q_w 40 (by decide +kernel) rfl
theorem wX8_16 : Cond.classLink RX8 16 "ShadowRows$Light" ∈ q_words := q_w 118 (by decide +kernel) rfl
theorem w_new_X2 : Cond.instantiable RX2 6 ∈ q_words := q_w 119 (by decide +kernel) rfl
theorem wX8_25 : Cond.classLink RX8 25 "ShadowRows$Market" ∈ q_words := q_w 145 (by decide +kernel) rfl
theorem w_new_X3 : Cond.instantiable RX3 1 ∈ q_words := q_w 146 (by decide +kernel) rfl
theorem wX8_32 : Cond.classLink RX8 32 "ShadowRows$TiltSearch" ∈ q_words := q_w 155 (by decide +kernel) rfl
theorem w_new_X7 : Cond.instantiable RX7 7 ∈ q_words := q_w 156 (by decide +kernel) rfl
theorem wX8_41 : Cond.classLink RX8 41 "ShadowRows$Pad" ∈ q_words := q_w 183 (by decide +kernel) rfl
theorem w_new_X6 : Cond.instantiable RX6 2 ∈ q_words := q_w 184 (by decide +kernel) rfl
theorem wX8_48 : Cond.classLink RX8 48 "ShadowRows$OrderReader" ∈ q_words := q_w 198 (by decide +kernel) rfl
theorem w_new_X5 : Cond.instantiable RX5 5 ∈ q_words := q_w 199 (by decide +kernel) rfl
theorem wX8_57 : Cond.classLink RX8 57 "ShadowRows$History" ∈ q_words := q_w 220 (by decide +kernel) rfl
theorem w_new_X1 : Cond.instantiable RX1 2 ∈ q_words := q_w 221 (by decide +kernel) rfl
theorem wX1_15 : Cond.classLink RX1 15 "ShadowRows$Field" ∈ q_words := q_w 226 (by decide +kernel) rfl
theorem w_arr_int : Cond.arrayClass .int ∈ q_words := q_w 58 (by decide +kernel) rfl
theorem w_arr_char : Cond.arrayClass .char ∈ q_words := q_w 197 (by decide +kernel) rfl
theorem w_arr_boolean : Cond.arrayClass .boolean ∈ q_words := q_w 265 (by decide +kernel) rfl
theorem wL_7 : Cond.constant RL 7 (Int32.ofInt 461845907) ∈ q_words := q_w 418 (by decide +kernel) rfl
theorem wL_8 : Cond.constant RL 8 (Int32.ofInt 751428309) ∈ q_words := q_w 419 (by decide +kernel) rfl
theorem wL_9 : Cond.constant RL 9 (Int32.ofInt 2147483647) ∈ q_words := q_w 423 (by decide +kernel) rfl
theorem wX8_138 : Cond.constant RX8 138 (Int32.ofInt 1000000000) ∈ q_words := q_w 438 (by decide +kernel) rfl
theorem wL_30 : Cond.constant RL 30 (Int32.ofInt 1000000000) ∈ q_words := q_w 516 (by decide +kernel) rfl
theorem wX8_226 : Cond.constant RX8 226 (Int32.ofInt 1000000) ∈ q_words := q_w 579 (by decide +kernel) rfl
theorem wL_56 : Cond.constant RL 56 (Int32.ofInt 1000000) ∈ q_words := q_w 580 (by decide +kernel) rfl
/-- the cells: a field's block, and all of them -/
def q_kF (f : Nat) : List Nat := [0, f + 3, f + 4, f + 5, f + 6, f + 7, 0, f + 8, f + 9, f + 12, 0]
def q_kO (f : Nat) : List Nat := [0, f + 3, f + 4]
def q_blk (f : Nat) : List q_K := [.inl (0, q_kF f), .inr (0, 6), .inr (0, 6), .inr (0, 6), .inr (0, 6), .inr (0, 10), .inr (0, 360), .inl (4, q_kO (f + 7)), .inr (0, 50), .inr (0, 10), .inl (4, q_kO (f + 10)), .inr (0, 50), .inr (0, 10)]
def KC : List q_K := [.inl (8, [3, 16, 21, 22, 27, 29, 31, 124, 151])] ++ q_blk 1 ++ [.inl (2, [3, 0, 17, 18, 19, 20]), .inr (0, 36), .inr (0, 6), .inr (0, 6), .inr (0, 6), .inl (3, [3]), .inl (7, [3, 16, 23, 0, 24, 25, 26]), .inr (0, 15625), .inr (0, 6), .inr (0, 6), .inr (0, 6), .inl (6, [28, 0]), .inr (2, 80), .inl (5, [27, 0, 0, 30, 0]), .inr (0, 5), .inl (1, [0, 32]), .inr (3, 7)] ++
  q_blk 31 ++ q_blk 44 ++ q_blk 57 ++ q_blk 70 ++ q_blk 83 ++ q_blk 96 ++ q_blk 109 ++ [.inr (3, 2)] ++ q_blk 123 ++ q_blk 136 ++ [.inr (1, 2)] ++
  [.inr (0, 3), .inr (0, 16), .inr (0, 48), .inr (0, 4), .inr (0, 40), .inr (0, 50)]
theorem KC_len : KC.length = 156 := by decide +kernel
theorem kc0 : KC[0]? = some (.inl (8, [3, 16, 21, 22, 27, 29, 31, 124, 151])) := by decide +kernel
theorem kc1 : KC[1]? = some (.inl (0, q_kF 1)) := by decide +kernel
theorem kc2 : KC[2]? = some (.inr (0, 6)) := by decide +kernel
theorem kc3 : KC[3]? = some (.inr (0, 6)) := by decide +kernel
theorem kc4 : KC[4]? = some (.inr (0, 6)) := by decide +kernel
theorem kc5 : KC[5]? = some (.inr (0, 6)) := by decide +kernel
theorem kc6 : KC[6]? = some (.inr (0, 10)) := by decide +kernel
theorem kc7 : KC[7]? = some (.inr (0, 360)) := by decide +kernel
theorem kc8 : KC[8]? = some (.inl (4, q_kO 8)) := by decide +kernel
theorem kc9 : KC[9]? = some (.inr (0, 50)) := by decide +kernel
theorem kc10 : KC[10]? = some (.inr (0, 10)) := by decide +kernel
theorem kc11 : KC[11]? = some (.inl (4, q_kO 11)) := by decide +kernel
theorem kc12 : KC[12]? = some (.inr (0, 50)) := by decide +kernel
theorem kc13 : KC[13]? = some (.inr (0, 10)) := by decide +kernel
theorem kc14 : KC[14]? = some (.inl (2, [3, 0, 17, 18, 19, 20])) := by decide +kernel
theorem kc15 : KC[15]? = some (.inr (0, 36)) := by decide +kernel
theorem kc16 : KC[16]? = some (.inr (0, 6)) := by decide +kernel
theorem kc17 : KC[17]? = some (.inr (0, 6)) := by decide +kernel
theorem kc18 : KC[18]? = some (.inr (0, 6)) := by decide +kernel
theorem kc19 : KC[19]? = some (.inl (3, [3])) := by decide +kernel
theorem kc20 : KC[20]? = some (.inl (7, [3, 16, 23, 0, 24, 25, 26])) := by decide +kernel
theorem kc21 : KC[21]? = some (.inr (0, 15625)) := by decide +kernel
theorem kc22 : KC[22]? = some (.inr (0, 6)) := by decide +kernel
theorem kc23 : KC[23]? = some (.inr (0, 6)) := by decide +kernel
theorem kc24 : KC[24]? = some (.inr (0, 6)) := by decide +kernel
theorem kc25 : KC[25]? = some (.inl (6, [28, 0])) := by decide +kernel
theorem kc26 : KC[26]? = some (.inr (2, 80)) := by decide +kernel
theorem kc27 : KC[27]? = some (.inl (5, [27, 0, 0, 30, 0])) := by decide +kernel
theorem kc28 : KC[28]? = some (.inr (0, 5)) := by decide +kernel
theorem kc29 : KC[29]? = some (.inl (1, [0, 32])) := by decide +kernel
theorem kc30 : KC[30]? = some (.inr (3, 7)) := by decide +kernel
theorem kc31 : KC[31]? = some (.inl (0, q_kF 31)) := by decide +kernel
theorem kc32 : KC[32]? = some (.inr (0, 6)) := by decide +kernel
theorem kc33 : KC[33]? = some (.inr (0, 6)) := by decide +kernel
theorem kc34 : KC[34]? = some (.inr (0, 6)) := by decide +kernel
theorem kc35 : KC[35]? = some (.inr (0, 6)) := by decide +kernel
theorem kc36 : KC[36]? = some (.inr (0, 10)) := by decide +kernel
theorem kc37 : KC[37]? = some (.inr (0, 360)) := by decide +kernel
theorem kc38 : KC[38]? = some (.inl (4, q_kO 38)) := by decide +kernel
theorem kc39 : KC[39]? = some (.inr (0, 50)) := by decide +kernel
theorem kc40 : KC[40]? = some (.inr (0, 10)) := by decide +kernel
theorem kc41 : KC[41]? = some (.inl (4, q_kO 41)) := by decide +kernel
theorem kc42 : KC[42]? = some (.inr (0, 50)) := by decide +kernel
theorem kc43 : KC[43]? = some (.inr (0, 10)) := by decide +kernel
theorem kc44 : KC[44]? = some (.inl (0, q_kF 44)) := by decide +kernel
theorem kc45 : KC[45]? = some (.inr (0, 6)) := by decide +kernel
theorem kc46 : KC[46]? = some (.inr (0, 6)) := by decide +kernel
theorem kc47 : KC[47]? = some (.inr (0, 6)) := by decide +kernel
theorem kc48 : KC[48]? = some (.inr (0, 6)) := by decide +kernel
theorem kc49 : KC[49]? = some (.inr (0, 10)) := by decide +kernel
theorem kc50 : KC[50]? = some (.inr (0, 360)) := by decide +kernel
theorem kc51 : KC[51]? = some (.inl (4, q_kO 51)) := by decide +kernel
theorem kc52 : KC[52]? = some (.inr (0, 50)) := by decide +kernel
theorem kc53 : KC[53]? = some (.inr (0, 10)) := by decide +kernel
theorem kc54 : KC[54]? = some (.inl (4, q_kO 54)) := by decide +kernel
theorem kc55 : KC[55]? = some (.inr (0, 50)) := by decide +kernel
theorem kc56 : KC[56]? = some (.inr (0, 10)) := by decide +kernel
theorem kc57 : KC[57]? = some (.inl (0, q_kF 57)) := by decide +kernel
theorem kc58 : KC[58]? = some (.inr (0, 6)) := by decide +kernel
theorem kc59 : KC[59]? = some (.inr (0, 6)) := by decide +kernel
theorem kc60 : KC[60]? = some (.inr (0, 6)) := by decide +kernel
theorem kc61 : KC[61]? = some (.inr (0, 6)) := by decide +kernel
theorem kc62 : KC[62]? = some (.inr (0, 10)) := by decide +kernel
theorem kc63 : KC[63]? = some (.inr (0, 360)) := by decide +kernel
theorem kc64 : KC[64]? = some (.inl (4, q_kO 64)) := by decide +kernel
theorem kc65 : KC[65]? = some (.inr (0, 50)) := by decide +kernel
theorem kc66 : KC[66]? = some (.inr (0, 10)) := by decide +kernel
theorem kc67 : KC[67]? = some (.inl (4, q_kO 67)) := by decide +kernel
theorem kc68 : KC[68]? = some (.inr (0, 50)) := by decide +kernel
theorem kc69 : KC[69]? = some (.inr (0, 10)) := by decide +kernel
theorem kc70 : KC[70]? = some (.inl (0, q_kF 70)) := by decide +kernel
theorem kc71 : KC[71]? = some (.inr (0, 6)) := by decide +kernel
theorem kc72 : KC[72]? = some (.inr (0, 6)) := by decide +kernel
theorem kc73 : KC[73]? = some (.inr (0, 6)) := by decide +kernel
theorem kc74 : KC[74]? = some (.inr (0, 6)) := by decide +kernel
theorem kc75 : KC[75]? = some (.inr (0, 10)) := by decide +kernel
theorem kc76 : KC[76]? = some (.inr (0, 360)) := by decide +kernel
theorem kc77 : KC[77]? = some (.inl (4, q_kO 77)) := by decide +kernel
theorem kc78 : KC[78]? = some (.inr (0, 50)) := by decide +kernel
theorem kc79 : KC[79]? = some (.inr (0, 10)) := by decide +kernel
theorem kc80 : KC[80]? = some (.inl (4, q_kO 80)) := by decide +kernel
theorem kc81 : KC[81]? = some (.inr (0, 50)) := by decide +kernel
theorem kc82 : KC[82]? = some (.inr (0, 10)) := by decide +kernel
theorem kc83 : KC[83]? = some (.inl (0, q_kF 83)) := by decide +kernel
theorem kc84 : KC[84]? = some (.inr (0, 6)) := by decide +kernel
theorem kc85 : KC[85]? = some (.inr (0, 6)) := by decide +kernel
theorem kc86 : KC[86]? = some (.inr (0, 6)) := by decide +kernel
theorem kc87 : KC[87]? = some (.inr (0, 6)) := by decide +kernel
theorem kc88 : KC[88]? = some (.inr (0, 10)) := by decide +kernel
theorem kc89 : KC[89]? = some (.inr (0, 360)) := by decide +kernel
theorem kc90 : KC[90]? = some (.inl (4, q_kO 90)) := by decide +kernel
theorem kc91 : KC[91]? = some (.inr (0, 50)) := by decide +kernel
theorem kc92 : KC[92]? = some (.inr (0, 10)) := by decide +kernel
theorem kc93 : KC[93]? = some (.inl (4, q_kO 93)) := by decide +kernel
theorem kc94 : KC[94]? = some (.inr (0, 50)) := by decide +kernel
theorem kc95 : KC[95]? = some (.inr (0, 10)) := by decide +kernel
theorem kc96 : KC[96]? = some (.inl (0, q_kF 96)) := by decide +kernel
theorem kc97 : KC[97]? = some (.inr (0, 6)) := by decide +kernel
theorem kc98 : KC[98]? = some (.inr (0, 6)) := by decide +kernel
theorem kc99 : KC[99]? = some (.inr (0, 6)) := by decide +kernel
theorem kc100 : KC[100]? = some (.inr (0, 6)) := by decide +kernel
theorem kc101 : KC[101]? = some (.inr (0, 10)) := by decide +kernel
theorem kc102 : KC[102]? = some (.inr (0, 360)) := by decide +kernel
theorem kc103 : KC[103]? = some (.inl (4, q_kO 103)) := by decide +kernel
theorem kc104 : KC[104]? = some (.inr (0, 50)) := by decide +kernel
theorem kc105 : KC[105]? = some (.inr (0, 10)) := by decide +kernel
theorem kc106 : KC[106]? = some (.inl (4, q_kO 106)) := by decide +kernel
theorem kc107 : KC[107]? = some (.inr (0, 50)) := by decide +kernel
theorem kc108 : KC[108]? = some (.inr (0, 10)) := by decide +kernel
theorem kc109 : KC[109]? = some (.inl (0, q_kF 109)) := by decide +kernel
theorem kc110 : KC[110]? = some (.inr (0, 6)) := by decide +kernel
theorem kc111 : KC[111]? = some (.inr (0, 6)) := by decide +kernel
theorem kc112 : KC[112]? = some (.inr (0, 6)) := by decide +kernel
theorem kc113 : KC[113]? = some (.inr (0, 6)) := by decide +kernel
theorem kc114 : KC[114]? = some (.inr (0, 10)) := by decide +kernel
theorem kc115 : KC[115]? = some (.inr (0, 360)) := by decide +kernel
theorem kc116 : KC[116]? = some (.inl (4, q_kO 116)) := by decide +kernel
theorem kc117 : KC[117]? = some (.inr (0, 50)) := by decide +kernel
theorem kc118 : KC[118]? = some (.inr (0, 10)) := by decide +kernel
theorem kc119 : KC[119]? = some (.inl (4, q_kO 119)) := by decide +kernel
theorem kc120 : KC[120]? = some (.inr (0, 50)) := by decide +kernel
theorem kc121 : KC[121]? = some (.inr (0, 10)) := by decide +kernel
theorem kc122 : KC[122]? = some (.inr (3, 2)) := by decide +kernel
theorem kc123 : KC[123]? = some (.inl (0, q_kF 123)) := by decide +kernel
theorem kc124 : KC[124]? = some (.inr (0, 6)) := by decide +kernel
theorem kc125 : KC[125]? = some (.inr (0, 6)) := by decide +kernel
theorem kc126 : KC[126]? = some (.inr (0, 6)) := by decide +kernel
theorem kc127 : KC[127]? = some (.inr (0, 6)) := by decide +kernel
theorem kc128 : KC[128]? = some (.inr (0, 10)) := by decide +kernel
theorem kc129 : KC[129]? = some (.inr (0, 360)) := by decide +kernel
theorem kc130 : KC[130]? = some (.inl (4, q_kO 130)) := by decide +kernel
theorem kc131 : KC[131]? = some (.inr (0, 50)) := by decide +kernel
theorem kc132 : KC[132]? = some (.inr (0, 10)) := by decide +kernel
theorem kc133 : KC[133]? = some (.inl (4, q_kO 133)) := by decide +kernel
theorem kc134 : KC[134]? = some (.inr (0, 50)) := by decide +kernel
theorem kc135 : KC[135]? = some (.inr (0, 10)) := by decide +kernel
theorem kc136 : KC[136]? = some (.inl (0, q_kF 136)) := by decide +kernel
theorem kc137 : KC[137]? = some (.inr (0, 6)) := by decide +kernel
theorem kc138 : KC[138]? = some (.inr (0, 6)) := by decide +kernel
theorem kc139 : KC[139]? = some (.inr (0, 6)) := by decide +kernel
theorem kc140 : KC[140]? = some (.inr (0, 6)) := by decide +kernel
theorem kc141 : KC[141]? = some (.inr (0, 10)) := by decide +kernel
theorem kc142 : KC[142]? = some (.inr (0, 360)) := by decide +kernel
theorem kc143 : KC[143]? = some (.inl (4, q_kO 143)) := by decide +kernel
theorem kc144 : KC[144]? = some (.inr (0, 50)) := by decide +kernel
theorem kc145 : KC[145]? = some (.inr (0, 10)) := by decide +kernel
theorem kc146 : KC[146]? = some (.inl (4, q_kO 146)) := by decide +kernel
theorem kc147 : KC[147]? = some (.inr (0, 50)) := by decide +kernel
theorem kc148 : KC[148]? = some (.inr (0, 10)) := by decide +kernel
theorem kc149 : KC[149]? = some (.inr (1, 2)) := by decide +kernel
theorem kc150 : KC[150]? = some (.inr (0, 3)) := by decide +kernel
theorem kc151 : KC[151]? = some (.inr (0, 16)) := by decide +kernel
theorem kc152 : KC[152]? = some (.inr (0, 48)) := by decide +kernel
theorem kc153 : KC[153]? = some (.inr (0, 4)) := by decide +kernel
theorem kc154 : KC[154]? = some (.inr (0, 40)) := by decide +kernel
theorem kc155 : KC[155]? = some (.inr (0, 50)) := by decide +kernel
